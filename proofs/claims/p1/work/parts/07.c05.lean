def f_Md_isBoat (p_0 : Int32) : Int32 := if p_0 < 0 then (0) else (0)
set_option maxHeartbeats 4000000 in
set_option maxRecDepth 100000 in
theorem c_Md_isBoat (l : Launch) (dC : Nat → ClassId) (dI : Nat → Nat → Nat) (a : Nat → Nat) (k : Nat → ClassId)  (p_0 : Int32)  : Met l y_Md_isBoat (.code y_Md_isBoat b_Md_isBoat 2 (some .boolean) :: TB) ({ frames := 1, cells := 0, slots := 0, locals := 22 }) (va_Pc [.ref (a 0), .int p_0] (PR dC dI (MW a k) (MT k))) (vp_Si (fun r => r = f_Md_isBoat p_0)) 0 0 (fun _ => False) := by
  refine Met.ofW (cc := b_Md_isBoat) (maxL := 2) (ret := (some .boolean)) (by decide) rfl ?_
  intro p e s m args below meth c s₁ B hml hv
  obtain ⟨rfl, hP, hK, hN⟩ := hv
  have hx := B.exec
  have hb := B.bytes
  have hr := B.returns
  have hts := atoms_spec (ws := (.code y_Md_isBoat b_Md_isBoat 2 (some .boolean) :: TB)) B.pre
  have htb := fun w (h : w ∈ TB) => hts w (List.mem_cons_of_mem _ h)
  have hown : s.vm.findClass R_Md = some m.cls := findClass_of_methodNamed B.named
  have hlocks := B.notSynchronized
  have hl := lv_entry ([.ref (a 0), .int p_0]) (n := 2) (Nat.le_of_ble_eq_true rfl)
  rw [lg_entry_eq]
  generalize (lg_sl ([.ref (a 0), .int p_0]) ++ List.replicate (2 - (lg_sl ([.ref (a 0), .int p_0])).length) Slot.unset).toArray = ls at hl ⊢
  have hl : lv_has ls 2 [(0, .ref (a 0)), (1, .int p_0)] := hl
  refine lv_iload_n hx hb d_Md_isBoat_0 rfl (lv_at hl 1 rfl) ?_
  refine lv_iconst (v := 0) hx hb d_Md_isBoat_1 (by decide +kernel) ?_
  refine lv_aload_n hx hb d_Md_isBoat_2 rfl (lv_at hl 0 rfl) ?_
  refine va_get (D := (dC, dI)) (ci := 7) (v := .int 0) (C := R_Md) (T := F_Md) (N := 64) hx hb htb i_Md hown hK hP 0 rfl rfl 21 (by decide) (htb (.fieldLink R_Md 206 "WaterMenModel" "boats" "I") tw_142) (fun _ h9 => h9) rfl d_Md_isBoat_3 ?_
  refine lv_iconst (v := 1) hx hb d_Md_isBoat_6 (by decide +kernel) ?_
  refine lv_isub hx hb d_Md_isBoat_7 ?_
  refine hb_ti (-1) (by decide +kernel) ?_
  refine vp_callSi (va_Run.run (va_runS (As := [.int p_0, .int 0, .int (-1)]) (rest := []) ⟨hx, hb, hml, hown, htb⟩ (c_Md_in l p_0 0 (-1)) (cwS 3 htb (gd_S tw_110 tw_111 tw_109 tw_108) rfl rfl rfl (by decide +kernel) ⟨Nat.le_of_ble_eq_true rfl, Nat.le_of_ble_eq_true rfl⟩) ⟨fun _ _ _ _ h => h, fun U _ _ => ⟨rfl, trivial⟩⟩ rfl rfl hl.1 rfl (lv_room (Nat.le_of_ble_eq_true rfl)) d_Md_isBoat_8 ⟨Nat.le_of_ble_eq_true rfl, Nat.le_of_ble_eq_true rfl⟩)) (fun r er => ?_)
  subst er
  by_cases c_1 : p_0 < 0
  · refine hb_ti 0 (by unfold f_Md_in; rw [if_pos c_1]) ?_
    exact W.zret (v := 0) hx hb hr (by decide +kernel) (fun t ht hW => ⟨0, rfl, (by unfold f_Md_isBoat; rw [if_pos c_1]), ht⟩) t_nil d_Md_isBoat_11
  · refine hb_ti 0 (by unfold f_Md_in; rw [if_neg c_1, if_pos (show (-1) < p_0 from by have e0 := c_1; rw [Int32.lt_iff_toInt_lt] at e0; have z0 : ((-1) : Int32).toInt = -1 := (by decide +kernel); have z1 : (0 : Int32).toInt = 0 := (by decide +kernel); rw [Int32.lt_iff_toInt_lt]; omega)]) ?_
    exact W.zret (v := 0) hx hb hr (by decide +kernel) (fun t ht hW => ⟨0, rfl, (by unfold f_Md_isBoat; rw [if_neg c_1]), ht⟩) t_nil d_Md_isBoat_11
def f_Md_craft (p_0 : Int32) (p_1 : Int32) : Int32 := if p_0 < 0 then ((-1)) else ((-1))
set_option maxHeartbeats 4000000 in
set_option maxRecDepth 100000 in
theorem c_Md_craft (l : Launch) (dC : Nat → ClassId) (dI : Nat → Nat → Nat) (a : Nat → Nat) (k : Nat → ClassId)  (p_0 : Int32) (p_1 : Int32)  : Met l y_Md_craft (.code y_Md_craft b_Md_craft 3 (some .int) :: TB) ({ frames := 2, cells := 0, slots := 0, locals := 43 }) (va_Pc [.ref (a 0), .int p_0, .int p_1] (PR dC dI (MW a k) (MT k))) (vp_Si (fun r => r = f_Md_craft p_0 p_1)) 0 0 (fun _ => False) := by
  refine Met.ofW (cc := b_Md_craft) (maxL := 3) (ret := (some .int)) (by decide) rfl ?_
  intro p e s m args below meth c s₁ B hml hv
  obtain ⟨rfl, hP, hK, hN⟩ := hv
  have hx := B.exec
  have hb := B.bytes
  have hr := B.returns
  have hts := atoms_spec (ws := (.code y_Md_craft b_Md_craft 3 (some .int) :: TB)) B.pre
  have htb := fun w (h : w ∈ TB) => hts w (List.mem_cons_of_mem _ h)
  have hown : s.vm.findClass R_Md = some m.cls := findClass_of_methodNamed B.named
  have hlocks := B.notSynchronized
  have hl := lv_entry ([.ref (a 0), .int p_0, .int p_1]) (n := 3) (Nat.le_of_ble_eq_true rfl)
  rw [lg_entry_eq]
  generalize (lg_sl ([.ref (a 0), .int p_0, .int p_1]) ++ List.replicate (3 - (lg_sl ([.ref (a 0), .int p_0, .int p_1])).length) Slot.unset).toArray = ls at hl ⊢
  have hl : lv_has ls 3 [(0, .ref (a 0)), (1, .int p_0), (2, .int p_1)] := hl
  refine lv_aload_n hx hb d_Md_craft_0 rfl (lv_at hl 0 rfl) ?_
  refine lv_iload_n hx hb d_Md_craft_1 rfl (lv_at hl 1 rfl) ?_
  refine vp_callSi (va_Run.run (va_runV (As := [.int p_0]) (rest := []) ⟨hx, hb, hml, hown, htb⟩ (c_Md_isBoat l dC dI a k p_0) (cwV 1 htb (gd_V tw_144 tw_145 tw_146 tw_109 tw_143) rfl rfl rfl (by decide +kernel) ⟨Nat.le_of_ble_eq_true rfl, Nat.le_of_ble_eq_true rfl⟩) ⟨pr_blind, va_recv hK hP (ci := 7) (q0 := 0) rfl rfl, pr_pre hP hK hN⟩ rfl rfl hl.1 rfl (lv_room (Nat.le_of_ble_eq_true rfl)) d_Md_craft_2 ⟨Nat.le_of_ble_eq_true rfl, Nat.le_of_ble_eq_true rfl⟩)) (fun r er => ?_)
  subst er
  by_cases c_1 : p_0 < 0
  · refine hb_ti 0 (by unfold f_Md_isBoat; rw [if_pos c_1]) ?_
    refine lv_if_ne (tgt := 10) hx hb d_Md_craft_5 (by decide) (fun h => absurd (by decide +kernel) h) (fun _ => ?_)
    refine lv_iconst (v := (-1)) hx hb d_Md_craft_8 (by decide +kernel) ?_
    exact W.iret (v := (-1)) hx hb hr (fun t ht hW => ⟨(-1), rfl, (by unfold f_Md_craft; rw [if_pos c_1]), ht⟩) t_nil d_Md_craft_9
  · refine hb_ti 0 (by unfold f_Md_isBoat; rw [if_neg c_1]) ?_
    refine lv_if_ne (tgt := 10) hx hb d_Md_craft_5 (by decide) (fun h => absurd (by decide +kernel) h) (fun _ => ?_)
    refine lv_iconst (v := (-1)) hx hb d_Md_craft_8 (by decide +kernel) ?_
    exact W.iret (v := (-1)) hx hb hr (fun t ht hW => ⟨(-1), rfl, (by unfold f_Md_craft; rw [if_neg c_1]), ht⟩) t_nil d_Md_craft_9
def f_Md_join (p_0 : Int32) (p_1 : Int32) : Int32 := if p_0 < 0 then ((-1)) else ((-1))
set_option maxHeartbeats 4000000 in
set_option maxRecDepth 100000 in
theorem c_Md_join (l : Launch) (dC : Nat → ClassId) (dI : Nat → Nat → Nat) (a : Nat → Nat) (k : Nat → ClassId)  (p_0 : Int32) (p_1 : Int32)  : Met l y_Md_join (.code y_Md_join b_Md_join 3 (some .int) :: TB) ({ frames := 2, cells := 0, slots := 0, locals := 43 }) (va_Pc [.ref (a 0), .int p_0, .int p_1] (PR dC dI (MW a k) (MT k))) (vp_Si (fun r => r = f_Md_join p_0 p_1)) 0 0 (fun _ => False) := by
  refine Met.ofW (cc := b_Md_join) (maxL := 3) (ret := (some .int)) (by decide) rfl ?_
  intro p e s m args below meth c s₁ B hml hv
  obtain ⟨rfl, hP, hK, hN⟩ := hv
  have hx := B.exec
  have hb := B.bytes
  have hr := B.returns
  have hts := atoms_spec (ws := (.code y_Md_join b_Md_join 3 (some .int) :: TB)) B.pre
  have htb := fun w (h : w ∈ TB) => hts w (List.mem_cons_of_mem _ h)
  have hown : s.vm.findClass R_Md = some m.cls := findClass_of_methodNamed B.named
  have hlocks := B.notSynchronized
  have hl := lv_entry ([.ref (a 0), .int p_0, .int p_1]) (n := 3) (Nat.le_of_ble_eq_true rfl)
  rw [lg_entry_eq]
  generalize (lg_sl ([.ref (a 0), .int p_0, .int p_1]) ++ List.replicate (3 - (lg_sl ([.ref (a 0), .int p_0, .int p_1])).length) Slot.unset).toArray = ls at hl ⊢
  have hl : lv_has ls 3 [(0, .ref (a 0)), (1, .int p_0), (2, .int p_1)] := hl
  refine lv_aload_n hx hb d_Md_join_0 rfl (lv_at hl 0 rfl) ?_
  refine lv_iload_n hx hb d_Md_join_1 rfl (lv_at hl 1 rfl) ?_
  refine vp_callSi (va_Run.run (va_runV (As := [.int p_0]) (rest := []) ⟨hx, hb, hml, hown, htb⟩ (c_Md_isStairs l dC dI a k p_0) (cwV 1 htb (gd_V tw_139 tw_140 tw_141 tw_109 tw_138) rfl rfl rfl (by decide +kernel) ⟨Nat.le_of_ble_eq_true rfl, Nat.le_of_ble_eq_true rfl⟩) ⟨pr_blind, va_recv hK hP (ci := 7) (q0 := 0) rfl rfl, pr_pre hP hK hN⟩ rfl rfl hl.1 rfl (lv_room (Nat.le_of_ble_eq_true rfl)) d_Md_join_2 ⟨Nat.le_of_ble_eq_true rfl, Nat.le_of_ble_eq_true rfl⟩)) (fun r er => ?_)
  subst er
  by_cases c_1 : p_0 < 0
  · refine hb_ti 0 (by unfold f_Md_isStairs; rw [if_pos c_1]) ?_
    refine lv_if_eq (tgt := 15) hx hb d_Md_join_5 (by decide) (fun _ => ?_) (fun h => absurd (by decide +kernel) h)
    refine lv_iconst (v := (-1)) hx hb d_Md_join_15 (by decide +kernel) ?_
    exact W.iret (v := (-1)) hx hb hr (fun t ht hW => ⟨(-1), rfl, (by unfold f_Md_join; rw [if_pos c_1]), ht⟩) t_nil d_Md_join_16
  · refine hb_ti 0 (by unfold f_Md_isStairs; rw [if_neg c_1]) ?_
    refine lv_if_eq (tgt := 15) hx hb d_Md_join_5 (by decide) (fun _ => ?_) (fun h => absurd (by decide +kernel) h)
    refine lv_iconst (v := (-1)) hx hb d_Md_join_15 (by decide +kernel) ?_
    exact W.iret (v := (-1)) hx hb hr (fun t ht hW => ⟨(-1), rfl, (by unfold f_Md_join; rw [if_neg c_1]), ht⟩) t_nil d_Md_join_16
def f_Md_leave (p_0 : Int32) : Int32 := if p_0 < 0 then ((-1)) else (if 39 < p_0 then ((-1)) else ((-2)))
set_option maxHeartbeats 4000000 in
set_option maxRecDepth 100000 in
theorem c_Md_leave (l : Launch) (dC : Nat → ClassId) (dI : Nat → Nat → Nat) (a : Nat → Nat) (k : Nat → ClassId)  (p_0 : Int32)  : Met l y_Md_leave (.code y_Md_leave b_Md_leave 2 (some .int) :: TB) ({ frames := 2, cells := 0, slots := 0, locals := 42 }) (va_Pc [.ref (a 0), .int p_0] (PR dC dI (MW a k) (MT k))) (vp_Si (fun r => r = f_Md_leave p_0)) 0 0 (fun _ => False) := by
  refine Met.ofW (cc := b_Md_leave) (maxL := 2) (ret := (some .int)) (by decide) rfl ?_
  intro p e s m args below meth c s₁ B hml hv
  obtain ⟨rfl, hP, hK, hN⟩ := hv
  have hx := B.exec
  have hb := B.bytes
  have hr := B.returns
  have hts := atoms_spec (ws := (.code y_Md_leave b_Md_leave 2 (some .int) :: TB)) B.pre
  have htb := fun w (h : w ∈ TB) => hts w (List.mem_cons_of_mem _ h)
  have hown : s.vm.findClass R_Md = some m.cls := findClass_of_methodNamed B.named
  have hlocks := B.notSynchronized
  have hl := lv_entry ([.ref (a 0), .int p_0]) (n := 2) (Nat.le_of_ble_eq_true rfl)
  rw [lg_entry_eq]
  generalize (lg_sl ([.ref (a 0), .int p_0]) ++ List.replicate (2 - (lg_sl ([.ref (a 0), .int p_0])).length) Slot.unset).toArray = ls at hl ⊢
  have hl : lv_has ls 2 [(0, .ref (a 0)), (1, .int p_0)] := hl
  refine lv_iload_n hx hb d_Md_leave_0 rfl (lv_at hl 1 rfl) ?_
  refine vp_callSi (va_Run.run (va_runS (As := [.int p_0]) (rest := []) ⟨hx, hb, hml, hown, htb⟩ (c_Md_isMan l p_0) (cwS 1 htb (gd_S tw_123 tw_124 tw_109 tw_122) rfl rfl rfl (by decide +kernel) ⟨Nat.le_of_ble_eq_true rfl, Nat.le_of_ble_eq_true rfl⟩) ⟨fun _ _ _ _ h => h, fun U _ _ => ⟨rfl, trivial⟩⟩ rfl rfl hl.1 rfl (lv_room (Nat.le_of_ble_eq_true rfl)) d_Md_leave_1 ⟨Nat.le_of_ble_eq_true rfl, Nat.le_of_ble_eq_true rfl⟩)) (fun r er => ?_)
  subst er
  by_cases c_1 : p_0 < 0
  · refine hb_ti 0 (by unfold f_Md_isMan; rw [if_pos c_1]) ?_
    refine lv_if_ne (tgt := 9) hx hb d_Md_leave_4 (by decide) (fun h => absurd (by decide +kernel) h) (fun _ => ?_)
    refine lv_iconst (v := (-1)) hx hb d_Md_leave_7 (by decide +kernel) ?_
    exact W.iret (v := (-1)) hx hb hr (fun t ht hW => ⟨(-1), rfl, (by unfold f_Md_leave; rw [if_pos c_1]), ht⟩) t_nil d_Md_leave_8
  · by_cases c_2 : 39 < p_0
    · refine hb_ti 0 (by unfold f_Md_isMan; rw [if_neg c_1, if_pos c_2]) ?_
      refine lv_if_ne (tgt := 9) hx hb d_Md_leave_4 (by decide) (fun h => absurd (by decide +kernel) h) (fun _ => ?_)
      refine lv_iconst (v := (-1)) hx hb d_Md_leave_7 (by decide +kernel) ?_
      exact W.iret (v := (-1)) hx hb hr (fun t ht hW => ⟨(-1), rfl, (by unfold f_Md_leave; rw [if_neg c_1, if_pos c_2]), ht⟩) t_nil d_Md_leave_8
    · refine hb_ti 1 (by unfold f_Md_isMan; rw [if_neg c_1, if_neg c_2]) ?_
      refine lv_if_ne (tgt := 9) hx hb d_Md_leave_4 (by decide) (fun _ => ?_) (fun h => absurd h (by decide +kernel))
      refine lv_aload_n hx hb d_Md_leave_9 rfl (lv_at hl 0 rfl) ?_
      refine lv_iload_n hx hb d_Md_leave_10 rfl (lv_at hl 1 rfl) ?_
      refine vp_callSi (va_Run.run (va_runV (As := [.int p_0]) (rest := []) ⟨hx, hb, hml, hown, htb⟩ (c_Md_rowOf l dC dI a k p_0) (cwV 1 htb (gd_V tw_128 tw_129 tw_130 tw_109 tw_127) rfl rfl rfl (by decide +kernel) ⟨Nat.le_of_ble_eq_true rfl, Nat.le_of_ble_eq_true rfl⟩) ⟨pr_blind, va_recv hK hP (ci := 7) (q0 := 0) rfl rfl, pr_pre hP hK hN⟩ rfl rfl hl.1 rfl (lv_room (Nat.le_of_ble_eq_true rfl)) d_Md_leave_11 ⟨Nat.le_of_ble_eq_true rfl, Nat.le_of_ble_eq_true rfl⟩)) (fun r er => ?_)
      subst er
      refine hb_ti (-1) rfl ?_
      refine lv_if_ge (tgt := 20) hx hb d_Md_leave_14 (by decide) (fun h => absurd h (by decide +kernel)) (fun _ => ?_)
      refine lv_bipush (v := (-2)) hx hb d_Md_leave_17 (by decide +kernel) ?_
      exact W.iret (v := (-2)) hx hb hr (fun t ht hW => ⟨(-2), rfl, (by unfold f_Md_leave; rw [if_neg c_1, if_neg c_2]), ht⟩) t_nil d_Md_leave_19
def f_Md_end (p_0 : Int32) : Int32 := if p_0 < 0 then ((-1)) else (if 0 < p_0 then ((-1)) else (p_0))
set_option maxHeartbeats 4000000 in
set_option maxRecDepth 100000 in
theorem c_Md_end (l : Launch) (dC : Nat → ClassId) (dI : Nat → Nat → Nat) (a : Nat → Nat) (k : Nat → ClassId) (sz : Nat) (p_0 : Int32)  : Met l y_Md_end (.code y_Md_end b_Md_end 2 (some .int) :: TB) ({ frames := 1, cells := 0, slots := 0, locals := 22 }) (va_Pc [.ref (a 0), .int p_0] (PC dC dI (MW a k) (MT k) sz)) (va_Qi (fun r (_ : Unit) => r = f_Md_end p_0) (fun (_ : Unit) (_ : State) => True) (va_A (MW a k) sz)) 0 0 (va_A (MW a k) sz) := by
  refine Met.ofW (cc := b_Md_end) (maxL := 2) (ret := (some .int)) (by decide) rfl ?_
  intro p e s m args below meth c s₁ B hml hv
  obtain ⟨rfl, hsz, hP, hK, hD0, hN⟩ := hv
  have hx := B.exec
  have hb := B.bytes
  have hr := B.returns
  have hts := atoms_spec (ws := (.code y_Md_end b_Md_end 2 (some .int) :: TB)) B.pre
  have htb := fun w (h : w ∈ TB) => hts w (List.mem_cons_of_mem _ h)
  have hown : s.vm.findClass R_Md = some m.cls := findClass_of_methodNamed B.named
  have hlocks := B.notSynchronized
  have hl := lv_entry ([.ref (a 0), .int p_0]) (n := 2) (Nat.le_of_ble_eq_true rfl)
  rw [lg_entry_eq]
  generalize (lg_sl ([.ref (a 0), .int p_0]) ++ List.replicate (2 - (lg_sl ([.ref (a 0), .int p_0])).length) Slot.unset).toArray = ls at hl ⊢
  have hl : lv_has ls 2 [(0, .ref (a 0)), (1, .int p_0)] := hl
  subst hsz
  have hD := hD0.self (sz := s.heap.size)
  obtain ⟨A, hAe⟩ : ∃ A, va_A (MW a k) s.heap.size = A := ⟨_, rfl⟩
  rw [hAe] at hD
  have hA : ∀ q : Nat, s.heap.size ≤ q → A q := fun q h => by rw [← hAe]; exact Or.inr h
  have hS : va_S A s.heap s.heap [] := va_S.rf
  have hP := hP
  refine lv_iload_n hx hb d_Md_end_0 rfl (lv_at hl 1 rfl) ?_
  refine lv_iconst (v := 0) hx hb d_Md_end_1 (by decide +kernel) ?_
  refine lv_aload_n hx hb d_Md_end_2 rfl (lv_at hl 0 rfl) ?_
  refine va_get (D := (dC, dI)) (ci := 7) (v := .int 0) (C := R_Md) (T := F_Md) (N := 64) hx hb htb i_Md hown hK hP 0 rfl rfl 28 (by decide) (htb (.fieldLink R_Md 212 "WaterMenModel" "taped" "I") tw_147) (fun _ h9 => h9) rfl d_Md_end_3 ?_
  refine vp_callSi (va_Run.run (va_runS (As := [.int p_0, .int 0, .int 0]) (rest := []) ⟨hx, hb, hml, hown, htb⟩ (c_Md_in l p_0 0 0) (cwS 3 htb (gd_S tw_110 tw_111 tw_109 tw_108) rfl rfl rfl (by decide +kernel) ⟨Nat.le_of_ble_eq_true rfl, Nat.le_of_ble_eq_true rfl⟩) ⟨fun _ _ _ _ h => h, fun U _ _ => ⟨rfl, trivial⟩⟩ rfl rfl hl.1 rfl (lv_room (Nat.le_of_ble_eq_true rfl)) d_Md_end_6 ⟨Nat.le_of_ble_eq_true rfl, Nat.le_of_ble_eq_true rfl⟩)) (fun r er => ?_)
  subst er
  by_cases c_1 : p_0 < 0
  · refine hb_ti 0 (by unfold f_Md_in; rw [if_pos c_1]) ?_
    refine lv_if_ne (tgt := 14) hx hb d_Md_end_9 (by decide) (fun h => absurd (by decide +kernel) h) (fun _ => ?_)
    refine lv_iconst (v := (-1)) hx hb d_Md_end_12 (by decide +kernel) ?_
    refine W.widen (k := 0) (n := 0) (Nat.le_of_ble_eq_true rfl) (Nat.le_of_ble_eq_true rfl) ?_
    exact W.iret (v := (-1)) hx hb hr (fun t ht hW => ⟨⟨(-1), (), rfl, (by unfold f_Md_end; rw [if_pos c_1]), trivial⟩, by rw [hAe]; exact hS.F ht⟩) (by rw [hAe]; exact hS.2.2) d_Md_end_13
  · by_cases c_2 : 0 < p_0
    · refine hb_ti 0 (by unfold f_Md_in; rw [if_neg c_1, if_pos c_2]) ?_
      refine lv_if_ne (tgt := 14) hx hb d_Md_end_9 (by decide) (fun h => absurd (by decide +kernel) h) (fun _ => ?_)
      refine lv_iconst (v := (-1)) hx hb d_Md_end_12 (by decide +kernel) ?_
      refine W.widen (k := 0) (n := 0) (Nat.le_of_ble_eq_true rfl) (Nat.le_of_ble_eq_true rfl) ?_
      exact W.iret (v := (-1)) hx hb hr (fun t ht hW => ⟨⟨(-1), (), rfl, (by unfold f_Md_end; rw [if_neg c_1, if_pos c_2]), trivial⟩, by rw [hAe]; exact hS.F ht⟩) (by rw [hAe]; exact hS.2.2) d_Md_end_13
    · refine hb_ti 1 (by unfold f_Md_in; rw [if_neg c_1, if_neg c_2]) ?_
      refine lv_if_ne (tgt := 14) hx hb d_Md_end_9 (by decide) (fun _ => ?_) (fun h => absurd h (by decide +kernel))
      refine lv_aload_n hx hb d_Md_end_14 rfl (lv_at hl 0 rfl) ?_
      refine lv_iload_n hx hb d_Md_end_15 rfl (lv_at hl 1 rfl) ?_
      refine va_put (D := (dC, dI)) (ci := 7) (v := .int p_0) (ty := .int) (C := R_Md) (T := F_Md) (N := 64) hx hb htb i_Md t_Md t_Md_ok n_Md hown hK hP hD hS 0 rfl rfl 28 (by decide) (htb (.fieldLink R_Md 212 "WaterMenModel" "taped" "I") tw_147) (fun _ h9 => h9) rfl (by decide +kernel) rfl rfl (Nat.le_of_ble_eq_true rfl) d_Md_end_16 (fun H locs hP hD hS => ?_)
      refine lv_iload_n hx hb d_Md_end_19 rfl (lv_at hl 1 rfl) ?_
      refine W.widen (k := 0) (n := 0) (Nat.le_of_ble_eq_true rfl) (Nat.le_of_ble_eq_true rfl) ?_
      exact W.iret (v := p_0) hx hb hr (fun t ht hW => ⟨⟨p_0, (), rfl, (by unfold f_Md_end; rw [if_neg c_1, if_neg c_2]), trivial⟩, by rw [hAe]; exact hS.F ht⟩) (by rw [hAe]; exact hS.2.2) d_Md_end_20
def f_Md_isDay (p_0 : Int32) : Int32 := if p_0 < 0 then (0) else (if 499 < p_0 then (0) else (1))
set_option maxHeartbeats 4000000 in
set_option maxRecDepth 100000 in
theorem c_Md_isDay (l : Launch)  (p_0 : Int32)  : Met l y_Md_isDay (.code y_Md_isDay b_Md_isDay 1 (some .boolean) :: TB) ({ frames := 1, cells := 0, slots := 0, locals := 22 }) (va_Pc [.int p_0] (fun _ => True)) (vp_Si (fun r => r = f_Md_isDay p_0)) 0 0 (fun _ => False) := by
  refine Met.ofW (cc := b_Md_isDay) (maxL := 1) (ret := (some .boolean)) (by decide) rfl ?_
  intro p e s m args below meth c s₁ B hml hv
  obtain ⟨rfl, -⟩ := hv
  have hx := B.exec
  have hb := B.bytes
  have hr := B.returns
  have hts := atoms_spec (ws := (.code y_Md_isDay b_Md_isDay 1 (some .boolean) :: TB)) B.pre
  have htb := fun w (h : w ∈ TB) => hts w (List.mem_cons_of_mem _ h)
  have hown : s.vm.findClass R_Md = some m.cls := findClass_of_methodNamed B.named
  have hlocks := B.notSynchronized
  have hl := lv_entry ([.int p_0]) (n := 1) (Nat.le_of_ble_eq_true rfl)
  rw [lg_entry_eq]
  generalize (lg_sl ([.int p_0]) ++ List.replicate (1 - (lg_sl ([.int p_0])).length) Slot.unset).toArray = ls at hl ⊢
  have hl : lv_has ls 1 [(0, .int p_0)] := hl
  refine lv_iload_n hx hb d_Md_isDay_0 rfl (lv_at hl 0 rfl) ?_
  refine lv_iconst (v := 0) hx hb d_Md_isDay_1 (by decide +kernel) ?_
  refine lv_sipush (v := 499) hx hb d_Md_isDay_2 (by decide +kernel) ?_
  refine vp_callSi (va_Run.run (va_runS (As := [.int p_0, .int 0, .int 499]) (rest := []) ⟨hx, hb, hml, hown, htb⟩ (c_Md_in l p_0 0 499) (cwS 3 htb (gd_S tw_110 tw_111 tw_109 tw_108) rfl rfl rfl (by decide +kernel) ⟨Nat.le_of_ble_eq_true rfl, Nat.le_of_ble_eq_true rfl⟩) ⟨fun _ _ _ _ h => h, fun U _ _ => ⟨rfl, trivial⟩⟩ rfl rfl hl.1 rfl (lv_room (Nat.le_of_ble_eq_true rfl)) d_Md_isDay_5 ⟨Nat.le_of_ble_eq_true rfl, Nat.le_of_ble_eq_true rfl⟩)) (fun r er => ?_)
  subst er
  by_cases c_1 : p_0 < 0
  · refine hb_ti 0 (by unfold f_Md_in; rw [if_pos c_1]) ?_
    exact W.zret (v := 0) hx hb hr (by decide +kernel) (fun t ht hW => ⟨0, rfl, (by unfold f_Md_isDay; rw [if_pos c_1]), ht⟩) t_nil d_Md_isDay_8
  · by_cases c_2 : 499 < p_0
    · refine hb_ti 0 (by unfold f_Md_in; rw [if_neg c_1, if_pos c_2]) ?_
      exact W.zret (v := 0) hx hb hr (by decide +kernel) (fun t ht hW => ⟨0, rfl, (by unfold f_Md_isDay; rw [if_neg c_1, if_pos c_2]), ht⟩) t_nil d_Md_isDay_8
    · refine hb_ti 1 (by unfold f_Md_in; rw [if_neg c_1, if_neg c_2]) ?_
      exact W.zret (v := 1) hx hb hr (by decide +kernel) (fun t ht hW => ⟨1, rfl, (by unfold f_Md_isDay; rw [if_neg c_1, if_neg c_2]), ht⟩) t_nil d_Md_isDay_8
def f_Md_forceOn (p_0 : Int32) (p_1 : Int32) : Int32 := (-2)
set_option maxHeartbeats 4000000 in
set_option maxRecDepth 100000 in
theorem c_Md_forceOn (l : Launch) (dC : Nat → ClassId) (dI : Nat → Nat → Nat) (a : Nat → Nat) (k : Nat → ClassId)  (p_0 : Int32) (p_1 : Int32)  : Met l y_Md_forceOn (.code y_Md_forceOn b_Md_forceOn 4 (some .int) :: TB) ({ frames := 0, cells := 0, slots := 0, locals := 0 }) (va_Pc [.ref (a 0), .int p_0, .int p_1] (PR dC dI (MW a k) (MT k))) (vp_Si (fun r => r = f_Md_forceOn p_0 p_1)) 0 0 (fun _ => False) := by
  refine Met.ofW (cc := b_Md_forceOn) (maxL := 4) (ret := (some .int)) (by decide) rfl ?_
  intro p e s m args below meth c s₁ B hml hv
  obtain ⟨rfl, hP, hK, hN⟩ := hv
  have hx := B.exec
  have hb := B.bytes
  have hr := B.returns
  have hts := atoms_spec (ws := (.code y_Md_forceOn b_Md_forceOn 4 (some .int) :: TB)) B.pre
  have htb := fun w (h : w ∈ TB) => hts w (List.mem_cons_of_mem _ h)
  have hown : s.vm.findClass R_Md = some m.cls := findClass_of_methodNamed B.named
  have hlocks := B.notSynchronized
  have hl := lv_entry ([.ref (a 0), .int p_0, .int p_1]) (n := 4) (Nat.le_of_ble_eq_true rfl)
  rw [lg_entry_eq]
  generalize (lg_sl ([.ref (a 0), .int p_0, .int p_1]) ++ List.replicate (4 - (lg_sl ([.ref (a 0), .int p_0, .int p_1])).length) Slot.unset).toArray = ls at hl ⊢
  have hl : lv_has ls 4 [(0, .ref (a 0)), (1, .int p_0), (2, .int p_1)] := hl
  refine lv_aload_n hx hb d_Md_forceOn_0 rfl (lv_at hl 0 rfl) ?_
  refine va_get (D := (dC, dI)) (ci := 7) (v := .int 0) (C := R_Md) (T := F_Md) (N := 64) hx hb htb i_Md hown hK hP 0 rfl rfl 29 (by decide) (htb (.fieldLink R_Md 275 "WaterMenModel" "orders" "I") tw_151) (fun _ h9 => h9) rfl d_Md_forceOn_1 ?_
  refine lv_iconst (v := 1) hx hb d_Md_forceOn_4 (by decide +kernel) ?_
  refine lv_isub hx hb d_Md_forceOn_5 ?_
  refine hb_ti (-1) (by decide +kernel) ?_
  refine lv_istore_n (lv' := [(3, .int (-1)), (0, .ref (a 0)), (1, .int p_0), (2, .int p_1)]) hx hb d_Md_forceOn_6 rfl hl (by decide) rfl (fun ls hl => ?_)
  refine lv_iload_n hx hb d_Md_forceOn_7 rfl (lv_at hl 0 rfl) ?_
  refine lv_if_lt (tgt := 39) hx hb d_Md_forceOn_8 (by decide) (fun _ => ?_) (fun h => absurd (by decide +kernel) h)
  refine lv_bipush (v := (-2)) hx hb d_Md_forceOn_39 (by decide +kernel) ?_
  exact W.iret (v := (-2)) hx hb hr (fun t ht hW => ⟨(-2), rfl, rfl, ht⟩) t_nil d_Md_forceOn_41
def f_Md_inForce (p_0 : Int32) (p_1 : Int32) : Int32 := if p_0 < 0 then ((-1)) else (if 499 < p_0 then ((-1)) else (if p_1 < 0 then ((-1)) else (if 499 < p_1 then ((-1)) else ((-2)))))
set_option maxHeartbeats 4000000 in
set_option maxRecDepth 100000 in
theorem c_Md_inForce (l : Launch) (dC : Nat → ClassId) (dI : Nat → Nat → Nat) (a : Nat → Nat) (k : Nat → ClassId)  (p_0 : Int32) (p_1 : Int32)  : Met l y_Md_inForce (.code y_Md_inForce b_Md_inForce 3 (some .int) :: TB) ({ frames := 2, cells := 0, slots := 0, locals := 42 }) (va_Pc [.ref (a 0), .int p_0, .int p_1] (PR dC dI (MW a k) (MT k))) (vp_Si (fun r => r = f_Md_inForce p_0 p_1)) 0 0 (fun _ => False) := by
  refine Met.ofW (cc := b_Md_inForce) (maxL := 3) (ret := (some .int)) (by decide) rfl ?_
  intro p e s m args below meth c s₁ B hml hv
  obtain ⟨rfl, hP, hK, hN⟩ := hv
  have hx := B.exec
  have hb := B.bytes
  have hr := B.returns
  have hts := atoms_spec (ws := (.code y_Md_inForce b_Md_inForce 3 (some .int) :: TB)) B.pre
  have htb := fun w (h : w ∈ TB) => hts w (List.mem_cons_of_mem _ h)
  have hown : s.vm.findClass R_Md = some m.cls := findClass_of_methodNamed B.named
  have hlocks := B.notSynchronized
  have hl := lv_entry ([.ref (a 0), .int p_0, .int p_1]) (n := 3) (Nat.le_of_ble_eq_true rfl)
  rw [lg_entry_eq]
  generalize (lg_sl ([.ref (a 0), .int p_0, .int p_1]) ++ List.replicate (3 - (lg_sl ([.ref (a 0), .int p_0, .int p_1])).length) Slot.unset).toArray = ls at hl ⊢
  have hl : lv_has ls 3 [(0, .ref (a 0)), (1, .int p_0), (2, .int p_1)] := hl
  refine lv_iload_n hx hb d_Md_inForce_0 rfl (lv_at hl 1 rfl) ?_
  refine vp_callSi (va_Run.run (va_runS (As := [.int p_0]) (rest := []) ⟨hx, hb, hml, hown, htb⟩ (c_Md_isDay l p_0) (cwS 1 htb (gd_S tw_149 tw_150 tw_109 tw_148) rfl rfl rfl (by decide +kernel) ⟨Nat.le_of_ble_eq_true rfl, Nat.le_of_ble_eq_true rfl⟩) ⟨fun _ _ _ _ h => h, fun U _ _ => ⟨rfl, trivial⟩⟩ rfl rfl hl.1 rfl (lv_room (Nat.le_of_ble_eq_true rfl)) d_Md_inForce_1 ⟨Nat.le_of_ble_eq_true rfl, Nat.le_of_ble_eq_true rfl⟩)) (fun r er => ?_)
  subst er
  by_cases c_1 : p_0 < 0
  · refine hb_ti 0 (by unfold f_Md_isDay; rw [if_pos c_1]) ?_
    refine lv_if_eq (tgt := 23) hx hb d_Md_inForce_4 (by decide) (fun _ => ?_) (fun h => absurd (by decide +kernel) h)
    refine lv_iconst (v := (-1)) hx hb d_Md_inForce_23 (by decide +kernel) ?_
    exact W.iret (v := (-1)) hx hb hr (fun t ht hW => ⟨(-1), rfl, (by unfold f_Md_inForce; rw [if_pos c_1]), ht⟩) t_nil d_Md_inForce_24
  · by_cases c_2 : 499 < p_0
    · refine hb_ti 0 (by unfold f_Md_isDay; rw [if_neg c_1, if_pos c_2]) ?_
      refine lv_if_eq (tgt := 23) hx hb d_Md_inForce_4 (by decide) (fun _ => ?_) (fun h => absurd (by decide +kernel) h)
      refine lv_iconst (v := (-1)) hx hb d_Md_inForce_23 (by decide +kernel) ?_
      exact W.iret (v := (-1)) hx hb hr (fun t ht hW => ⟨(-1), rfl, (by unfold f_Md_inForce; rw [if_neg c_1, if_pos c_2]), ht⟩) t_nil d_Md_inForce_24
    · refine hb_ti 1 (by unfold f_Md_isDay; rw [if_neg c_1, if_neg c_2]) ?_
      refine lv_if_eq (tgt := 23) hx hb d_Md_inForce_4 (by decide) (fun h => absurd h (by decide +kernel)) (fun _ => ?_)
      refine lv_iload_n hx hb d_Md_inForce_7 rfl (lv_at hl 2 rfl) ?_
      refine vp_callSi (va_Run.run (va_runS (As := [.int p_1]) (rest := []) ⟨hx, hb, hml, hown, htb⟩ (c_Md_isDay l p_1) (cwS 1 htb (gd_S tw_149 tw_150 tw_109 tw_148) rfl rfl rfl (by decide +kernel) ⟨Nat.le_of_ble_eq_true rfl, Nat.le_of_ble_eq_true rfl⟩) ⟨fun _ _ _ _ h => h, fun U _ _ => ⟨rfl, trivial⟩⟩ rfl rfl hl.1 rfl (lv_room (Nat.le_of_ble_eq_true rfl)) d_Md_inForce_8 ⟨Nat.le_of_ble_eq_true rfl, Nat.le_of_ble_eq_true rfl⟩)) (fun r er => ?_)
      subst er
      by_cases c_3 : p_1 < 0
      · refine hb_ti 0 (by unfold f_Md_isDay; rw [if_pos c_3]) ?_
        refine lv_if_eq (tgt := 23) hx hb d_Md_inForce_11 (by decide) (fun _ => ?_) (fun h => absurd (by decide +kernel) h)
        refine lv_iconst (v := (-1)) hx hb d_Md_inForce_23 (by decide +kernel) ?_
        exact W.iret (v := (-1)) hx hb hr (fun t ht hW => ⟨(-1), rfl, (by unfold f_Md_inForce; rw [if_neg c_1, if_neg c_2, if_pos c_3]), ht⟩) t_nil d_Md_inForce_24
      · by_cases c_4 : 499 < p_1
        · refine hb_ti 0 (by unfold f_Md_isDay; rw [if_neg c_3, if_pos c_4]) ?_
          refine lv_if_eq (tgt := 23) hx hb d_Md_inForce_11 (by decide) (fun _ => ?_) (fun h => absurd (by decide +kernel) h)
          refine lv_iconst (v := (-1)) hx hb d_Md_inForce_23 (by decide +kernel) ?_
          exact W.iret (v := (-1)) hx hb hr (fun t ht hW => ⟨(-1), rfl, (by unfold f_Md_inForce; rw [if_neg c_1, if_neg c_2, if_neg c_3, if_pos c_4]), ht⟩) t_nil d_Md_inForce_24
        · refine hb_ti 1 (by unfold f_Md_isDay; rw [if_neg c_3, if_neg c_4]) ?_
          refine lv_if_eq (tgt := 23) hx hb d_Md_inForce_11 (by decide) (fun h => absurd h (by decide +kernel)) (fun _ => ?_)
          refine lv_aload_n hx hb d_Md_inForce_14 rfl (lv_at hl 0 rfl) ?_
          refine lv_iload_n hx hb d_Md_inForce_15 rfl (lv_at hl 1 rfl) ?_
          refine lv_iload_n hx hb d_Md_inForce_16 rfl (lv_at hl 2 rfl) ?_
          refine vp_callSi (va_Run.run (va_runV (As := [.int p_0, .int p_1]) (rest := []) ⟨hx, hb, hml, hown, htb⟩ (c_Md_forceOn l dC dI a k p_0 p_1) (cwV 2 htb (gd_V tw_153 tw_154 tw_155 tw_109 tw_152) rfl rfl rfl (by decide +kernel) ⟨Nat.le_of_ble_eq_true rfl, Nat.le_of_ble_eq_true rfl⟩) ⟨pr_blind, va_recv hK hP (ci := 7) (q0 := 0) rfl rfl, pr_pre hP hK hN⟩ rfl rfl hl.1 rfl (lv_room (Nat.le_of_ble_eq_true rfl)) d_Md_inForce_17 ⟨Nat.le_of_ble_eq_true rfl, Nat.le_of_ble_eq_true rfl⟩)) (fun r er => ?_)
          subst er
          refine hb_ti (-2) rfl ?_
          refine lv_goto (tgt := 24) hx hb d_Md_inForce_20 (by decide) ?_
          exact W.iret (v := (-2)) hx hb hr (fun t ht hW => ⟨(-2), rfl, (by unfold f_Md_inForce; rw [if_neg c_1, if_neg c_2, if_neg c_3, if_neg c_4]), ht⟩) t_nil d_Md_inForce_24
def f_Md_fare (p_0 : Int32) (p_1 : Int32) (p_2 : Int32) (p_3 : Int32) (p_4 : Int32) : Int32 := if p_0 < 0 then ((-1)) else ((-1))
set_option maxHeartbeats 4000000 in
set_option maxRecDepth 100000 in
theorem c_Md_fare (l : Launch) (dC : Nat → ClassId) (dI : Nat → Nat → Nat) (a : Nat → Nat) (k : Nat → ClassId)  (p_0 : Int32) (p_1 : Int32) (p_2 : Int32) (p_3 : Int32) (p_4 : Int32)  : Met l y_Md_fare (.code y_Md_fare b_Md_fare 6 (some .int) :: TB) ({ frames := 1, cells := 0, slots := 0, locals := 22 }) (va_Pc [.ref (a 0), .int p_0, .int p_1, .int p_2, .int p_3, .int p_4] (PR dC dI (MW a k) (MT k))) (vp_Si (fun r => r = f_Md_fare p_0 p_1 p_2 p_3 p_4)) 0 0 (fun _ => False) := by
  refine Met.ofW (cc := b_Md_fare) (maxL := 6) (ret := (some .int)) (by decide) rfl ?_
  intro p e s m args below meth c s₁ B hml hv
  obtain ⟨rfl, hP, hK, hN⟩ := hv
  have hx := B.exec
  have hb := B.bytes
  have hr := B.returns
  have hts := atoms_spec (ws := (.code y_Md_fare b_Md_fare 6 (some .int) :: TB)) B.pre
  have htb := fun w (h : w ∈ TB) => hts w (List.mem_cons_of_mem _ h)
  have hown : s.vm.findClass R_Md = some m.cls := findClass_of_methodNamed B.named
  have hlocks := B.notSynchronized
  have hl := lv_entry ([.ref (a 0), .int p_0, .int p_1, .int p_2, .int p_3, .int p_4]) (n := 6) (Nat.le_of_ble_eq_true rfl)
  rw [lg_entry_eq]
  generalize (lg_sl ([.ref (a 0), .int p_0, .int p_1, .int p_2, .int p_3, .int p_4]) ++ List.replicate (6 - (lg_sl ([.ref (a 0), .int p_0, .int p_1, .int p_2, .int p_3, .int p_4])).length) Slot.unset).toArray = ls at hl ⊢
  have hl : lv_has ls 6 [(0, .ref (a 0)), (1, .int p_0), (2, .int p_1), (3, .int p_2), (4, .int p_3), (5, .int p_4)] := hl
  refine lv_iload_n hx hb d_Md_fare_0 rfl (lv_at hl 1 rfl) ?_
  refine lv_iconst (v := 0) hx hb d_Md_fare_1 (by decide +kernel) ?_
  refine lv_aload_n hx hb d_Md_fare_2 rfl (lv_at hl 0 rfl) ?_
  refine va_get (D := (dC, dI)) (ci := 7) (v := .int 0) (C := R_Md) (T := F_Md) (N := 64) hx hb htb i_Md hown hK hP 0 rfl rfl 29 (by decide) (htb (.fieldLink R_Md 275 "WaterMenModel" "orders" "I") tw_151) (fun _ h9 => h9) rfl d_Md_fare_3 ?_
  refine lv_iconst (v := 1) hx hb d_Md_fare_6 (by decide +kernel) ?_
  refine lv_isub hx hb d_Md_fare_7 ?_
  refine hb_ti (-1) (by decide +kernel) ?_
  refine vp_callSi (va_Run.run (va_runS (As := [.int p_0, .int 0, .int (-1)]) (rest := []) ⟨hx, hb, hml, hown, htb⟩ (c_Md_in l p_0 0 (-1)) (cwS 3 htb (gd_S tw_110 tw_111 tw_109 tw_108) rfl rfl rfl (by decide +kernel) ⟨Nat.le_of_ble_eq_true rfl, Nat.le_of_ble_eq_true rfl⟩) ⟨fun _ _ _ _ h => h, fun U _ _ => ⟨rfl, trivial⟩⟩ rfl rfl hl.1 rfl (lv_room (Nat.le_of_ble_eq_true rfl)) d_Md_fare_8 ⟨Nat.le_of_ble_eq_true rfl, Nat.le_of_ble_eq_true rfl⟩)) (fun r er => ?_)
  subst er
  by_cases c_1 : p_0 < 0
  · refine hb_ti 0 (by unfold f_Md_in; rw [if_pos c_1]) ?_
    refine lv_if_eq (tgt := 57) hx hb d_Md_fare_11 (by decide) (fun _ => ?_) (fun h => absurd (by decide +kernel) h)
    refine lv_iconst (v := (-1)) hx hb d_Md_fare_57 (by decide +kernel) ?_
    exact W.iret (v := (-1)) hx hb hr (fun t ht hW => ⟨(-1), rfl, (by unfold f_Md_fare; rw [if_pos c_1]), ht⟩) t_nil d_Md_fare_58
  · refine hb_ti 0 (by unfold f_Md_in; rw [if_neg c_1, if_pos (show (-1) < p_0 from by have e0 := c_1; rw [Int32.lt_iff_toInt_lt] at e0; have z0 : ((-1) : Int32).toInt = -1 := (by decide +kernel); have z1 : (0 : Int32).toInt = 0 := (by decide +kernel); rw [Int32.lt_iff_toInt_lt]; omega)]) ?_
    refine lv_if_eq (tgt := 57) hx hb d_Md_fare_11 (by decide) (fun _ => ?_) (fun h => absurd (by decide +kernel) h)
    refine lv_iconst (v := (-1)) hx hb d_Md_fare_57 (by decide +kernel) ?_
    exact W.iret (v := (-1)) hx hb hr (fun t ht hW => ⟨(-1), rfl, (by unfold f_Md_fare; rw [if_neg c_1]), ht⟩) t_nil d_Md_fare_58
def f_Md_isAsked (p_0 : Int32) (p_1 : Int32) (p_2 : Int32) : Int32 := if p_0 < 0 then (0) else (0)
set_option maxHeartbeats 4000000 in
set_option maxRecDepth 100000 in
theorem c_Md_isAsked (l : Launch) (dC : Nat → ClassId) (dI : Nat → Nat → Nat) (a : Nat → Nat) (k : Nat → ClassId)  (p_0 : Int32) (p_1 : Int32) (p_2 : Int32)  : Met l y_Md_isAsked (.code y_Md_isAsked b_Md_isAsked 4 (some .boolean) :: TB) ({ frames := 2, cells := 0, slots := 0, locals := 43 }) (va_Pc [.ref (a 0), .int p_0, .int p_1, .int p_2] (PR dC dI (MW a k) (MT k))) (vp_Si (fun r => r = f_Md_isAsked p_0 p_1 p_2)) 0 0 (fun _ => False) := by
  refine Met.ofW (cc := b_Md_isAsked) (maxL := 4) (ret := (some .boolean)) (by decide) rfl ?_
  intro p e s m args below meth c s₁ B hml hv
  obtain ⟨rfl, hP, hK, hN⟩ := hv
  have hx := B.exec
  have hb := B.bytes
  have hr := B.returns
  have hts := atoms_spec (ws := (.code y_Md_isAsked b_Md_isAsked 4 (some .boolean) :: TB)) B.pre
  have htb := fun w (h : w ∈ TB) => hts w (List.mem_cons_of_mem _ h)
  have hown : s.vm.findClass R_Md = some m.cls := findClass_of_methodNamed B.named
  have hlocks := B.notSynchronized
  have hl := lv_entry ([.ref (a 0), .int p_0, .int p_1, .int p_2]) (n := 4) (Nat.le_of_ble_eq_true rfl)
  rw [lg_entry_eq]
  generalize (lg_sl ([.ref (a 0), .int p_0, .int p_1, .int p_2]) ++ List.replicate (4 - (lg_sl ([.ref (a 0), .int p_0, .int p_1, .int p_2])).length) Slot.unset).toArray = ls at hl ⊢
  have hl : lv_has ls 4 [(0, .ref (a 0)), (1, .int p_0), (2, .int p_1), (3, .int p_2)] := hl
  refine lv_aload_n hx hb d_Md_isAsked_0 rfl (lv_at hl 0 rfl) ?_
  refine lv_iload_n hx hb d_Md_isAsked_1 rfl (lv_at hl 1 rfl) ?_
  refine vp_callSi (va_Run.run (va_runV (As := [.int p_0]) (rest := []) ⟨hx, hb, hml, hown, htb⟩ (c_Md_isBoat l dC dI a k p_0) (cwV 1 htb (gd_V tw_144 tw_145 tw_146 tw_109 tw_143) rfl rfl rfl (by decide +kernel) ⟨Nat.le_of_ble_eq_true rfl, Nat.le_of_ble_eq_true rfl⟩) ⟨pr_blind, va_recv hK hP (ci := 7) (q0 := 0) rfl rfl, pr_pre hP hK hN⟩ rfl rfl hl.1 rfl (lv_room (Nat.le_of_ble_eq_true rfl)) d_Md_isAsked_2 ⟨Nat.le_of_ble_eq_true rfl, Nat.le_of_ble_eq_true rfl⟩)) (fun r er => ?_)
  subst er
  by_cases c_1 : p_0 < 0
  · refine hb_ti 0 (by unfold f_Md_isBoat; rw [if_pos c_1]) ?_
    refine lv_if_eq (tgt := 46) hx hb d_Md_isAsked_5 (by decide) (fun _ => ?_) (fun h => absurd (by decide +kernel) h)
    refine lv_iconst (v := 0) hx hb d_Md_isAsked_46 (by decide +kernel) ?_
    exact W.zret (v := 0) hx hb hr (by decide +kernel) (fun t ht hW => ⟨0, rfl, (by unfold f_Md_isAsked; rw [if_pos c_1]), ht⟩) t_nil d_Md_isAsked_47
  · refine hb_ti 0 (by unfold f_Md_isBoat; rw [if_neg c_1]) ?_
    refine lv_if_eq (tgt := 46) hx hb d_Md_isAsked_5 (by decide) (fun _ => ?_) (fun h => absurd (by decide +kernel) h)
    refine lv_iconst (v := 0) hx hb d_Md_isAsked_46 (by decide +kernel) ?_
    exact W.zret (v := 0) hx hb hr (by decide +kernel) (fun t ht hW => ⟨0, rfl, (by unfold f_Md_isAsked; rw [if_neg c_1]), ht⟩) t_nil d_Md_isAsked_47
def f_Md_why (p_0 : Int32) (p_1 : Int32) (p_2 : Int32) : Int32 := if p_0 < 0 then ((-1)) else ((-1))
set_option maxHeartbeats 4000000 in
set_option maxRecDepth 100000 in
theorem c_Md_why (l : Launch) (dC : Nat → ClassId) (dI : Nat → Nat → Nat) (a : Nat → Nat) (k : Nat → ClassId)  (p_0 : Int32) (p_1 : Int32) (p_2 : Int32)  : Met l y_Md_why (.code y_Md_why b_Md_why 4 (some .int) :: TB) ({ frames := 3, cells := 0, slots := 0, locals := 66 }) (va_Pc [.ref (a 0), .int p_0, .int p_1, .int p_2] (PR dC dI (MW a k) (MT k))) (vp_Si (fun r => r = f_Md_why p_0 p_1 p_2)) 0 0 (fun _ => False) := by
  refine Met.ofW (cc := b_Md_why) (maxL := 4) (ret := (some .int)) (by decide) rfl ?_
  intro p e s m args below meth c s₁ B hml hv
  obtain ⟨rfl, hP, hK, hN⟩ := hv
  have hx := B.exec
  have hb := B.bytes
  have hr := B.returns
  have hts := atoms_spec (ws := (.code y_Md_why b_Md_why 4 (some .int) :: TB)) B.pre
  have htb := fun w (h : w ∈ TB) => hts w (List.mem_cons_of_mem _ h)
  have hown : s.vm.findClass R_Md = some m.cls := findClass_of_methodNamed B.named
  have hlocks := B.notSynchronized
  have hl := lv_entry ([.ref (a 0), .int p_0, .int p_1, .int p_2]) (n := 4) (Nat.le_of_ble_eq_true rfl)
  rw [lg_entry_eq]
  generalize (lg_sl ([.ref (a 0), .int p_0, .int p_1, .int p_2]) ++ List.replicate (4 - (lg_sl ([.ref (a 0), .int p_0, .int p_1, .int p_2])).length) Slot.unset).toArray = ls at hl ⊢
  have hl : lv_has ls 4 [(0, .ref (a 0)), (1, .int p_0), (2, .int p_1), (3, .int p_2)] := hl
  refine lv_aload_n hx hb d_Md_why_0 rfl (lv_at hl 0 rfl) ?_
  refine lv_iload_n hx hb d_Md_why_1 rfl (lv_at hl 1 rfl) ?_
  refine lv_iload_n hx hb d_Md_why_2 rfl (lv_at hl 2 rfl) ?_
  refine lv_iload_n hx hb d_Md_why_3 rfl (lv_at hl 3 rfl) ?_
  refine vp_callSi (va_Run.run (va_runV (As := [.int p_0, .int p_1, .int p_2]) (rest := []) ⟨hx, hb, hml, hown, htb⟩ (c_Md_isAsked l dC dI a k p_0 p_1 p_2) (cwV 3 htb (gd_V tw_157 tw_158 tw_159 tw_109 tw_156) rfl rfl rfl (by decide +kernel) ⟨Nat.le_of_ble_eq_true rfl, Nat.le_of_ble_eq_true rfl⟩) ⟨pr_blind, va_recv hK hP (ci := 7) (q0 := 0) rfl rfl, pr_pre hP hK hN⟩ rfl rfl hl.1 rfl (lv_room (Nat.le_of_ble_eq_true rfl)) d_Md_why_4 ⟨Nat.le_of_ble_eq_true rfl, Nat.le_of_ble_eq_true rfl⟩)) (fun r er => ?_)
  subst er
  by_cases c_1 : p_0 < 0
  · refine hb_ti 0 (by unfold f_Md_isAsked; rw [if_pos c_1]) ?_
    refine lv_if_eq (tgt := 20) hx hb d_Md_why_7 (by decide) (fun _ => ?_) (fun h => absurd (by decide +kernel) h)
    refine lv_iconst (v := (-1)) hx hb d_Md_why_20 (by decide +kernel) ?_
    exact W.iret (v := (-1)) hx hb hr (fun t ht hW => ⟨(-1), rfl, (by unfold f_Md_why; rw [if_pos c_1]), ht⟩) t_nil d_Md_why_21
  · refine hb_ti 0 (by unfold f_Md_isAsked; rw [if_neg c_1]) ?_
    refine lv_if_eq (tgt := 20) hx hb d_Md_why_7 (by decide) (fun _ => ?_) (fun h => absurd (by decide +kernel) h)
    refine lv_iconst (v := (-1)) hx hb d_Md_why_20 (by decide +kernel) ?_
    exact W.iret (v := (-1)) hx hb hr (fun t ht hW => ⟨(-1), rfl, (by unfold f_Md_why; rw [if_neg c_1]), ht⟩) t_nil d_Md_why_21
def f_Md_row (p_0 : Int32) (p_1 : Int32) (p_2 : Int32) (p_3 : Int32) : Int32 := if p_0 < 0 then ((-1)) else ((-1))
set_option maxHeartbeats 4000000 in
set_option maxRecDepth 100000 in
theorem c_Md_row (l : Launch) (dC : Nat → ClassId) (dI : Nat → Nat → Nat) (a : Nat → Nat) (k : Nat → ClassId)  (p_0 : Int32) (p_1 : Int32) (p_2 : Int32) (p_3 : Int32)  : Met l y_Md_row (.code y_Md_row b_Md_row 7 (some .int) :: TB) ({ frames := 3, cells := 0, slots := 0, locals := 66 }) (va_Pc [.ref (a 0), .int p_0, .int p_1, .int p_2, .int p_3] (PR dC dI (MW a k) (MT k))) (vp_Si (fun r => r = f_Md_row p_0 p_1 p_2 p_3)) 0 0 (fun _ => False) := by
  refine Met.ofW (cc := b_Md_row) (maxL := 7) (ret := (some .int)) (by decide) rfl ?_
  intro p e s m args below meth c s₁ B hml hv
  obtain ⟨rfl, hP, hK, hN⟩ := hv
  have hx := B.exec
  have hb := B.bytes
  have hr := B.returns
  have hts := atoms_spec (ws := (.code y_Md_row b_Md_row 7 (some .int) :: TB)) B.pre
  have htb := fun w (h : w ∈ TB) => hts w (List.mem_cons_of_mem _ h)
  have hown : s.vm.findClass R_Md = some m.cls := findClass_of_methodNamed B.named
  have hlocks := B.notSynchronized
  have hl := lv_entry ([.ref (a 0), .int p_0, .int p_1, .int p_2, .int p_3]) (n := 7) (Nat.le_of_ble_eq_true rfl)
  rw [lg_entry_eq]
  generalize (lg_sl ([.ref (a 0), .int p_0, .int p_1, .int p_2, .int p_3]) ++ List.replicate (7 - (lg_sl ([.ref (a 0), .int p_0, .int p_1, .int p_2, .int p_3])).length) Slot.unset).toArray = ls at hl ⊢
  have hl : lv_has ls 7 [(0, .ref (a 0)), (1, .int p_0), (2, .int p_1), (3, .int p_2), (4, .int p_3)] := hl
  refine lv_aload_n hx hb d_Md_row_0 rfl (lv_at hl 0 rfl) ?_
  refine lv_iload_n hx hb d_Md_row_1 rfl (lv_at hl 1 rfl) ?_
  refine lv_iload_n hx hb d_Md_row_2 rfl (lv_at hl 2 rfl) ?_
  refine lv_iload_n hx hb d_Md_row_3 rfl (lv_at hl 3 rfl) ?_
  refine vp_callSi (va_Run.run (va_runV (As := [.int p_0, .int p_1, .int p_2]) (rest := []) ⟨hx, hb, hml, hown, htb⟩ (c_Md_isAsked l dC dI a k p_0 p_1 p_2) (cwV 3 htb (gd_V tw_157 tw_158 tw_159 tw_109 tw_156) rfl rfl rfl (by decide +kernel) ⟨Nat.le_of_ble_eq_true rfl, Nat.le_of_ble_eq_true rfl⟩) ⟨pr_blind, va_recv hK hP (ci := 7) (q0 := 0) rfl rfl, pr_pre hP hK hN⟩ rfl rfl hl.1 rfl (lv_room (Nat.le_of_ble_eq_true rfl)) d_Md_row_4 ⟨Nat.le_of_ble_eq_true rfl, Nat.le_of_ble_eq_true rfl⟩)) (fun r er => ?_)
  subst er
  by_cases c_1 : p_0 < 0
  · refine hb_ti 0 (by unfold f_Md_isAsked; rw [if_pos c_1]) ?_
    refine lv_if_eq (tgt := 22) hx hb d_Md_row_7 (by decide) (fun _ => ?_) (fun h => absurd (by decide +kernel) h)
    refine lv_iconst (v := (-1)) hx hb d_Md_row_22 (by decide +kernel) ?_
    exact W.iret (v := (-1)) hx hb hr (fun t ht hW => ⟨(-1), rfl, (by unfold f_Md_row; rw [if_pos c_1]), ht⟩) t_nil d_Md_row_23
  · refine hb_ti 0 (by unfold f_Md_isAsked; rw [if_neg c_1]) ?_
    refine lv_if_eq (tgt := 22) hx hb d_Md_row_7 (by decide) (fun _ => ?_) (fun h => absurd (by decide +kernel) h)
    refine lv_iconst (v := (-1)) hx hb d_Md_row_22 (by decide +kernel) ?_
    exact W.iret (v := (-1)) hx hb hr (fun t ht hW => ⟨(-1), rfl, (by unfold f_Md_row; rw [if_neg c_1]), ht⟩) t_nil d_Md_row_23
def f_Md_sink (p_0 : Int32) (p_1 : Int32) (p_2 : Int32) : Int32 := if p_0 < 0 then ((-1)) else ((-1))
set_option maxHeartbeats 4000000 in
set_option maxRecDepth 100000 in
theorem c_Md_sink (l : Launch) (dC : Nat → ClassId) (dI : Nat → Nat → Nat) (a : Nat → Nat) (k : Nat → ClassId)  (p_0 : Int32) (p_1 : Int32) (p_2 : Int32)  : Met l y_Md_sink (.code y_Md_sink b_Md_sink 5 (some .int) :: TB) ({ frames := 2, cells := 0, slots := 0, locals := 43 }) (va_Pc [.ref (a 0), .int p_0, .int p_1, .int p_2] (PR dC dI (MW a k) (MT k))) (vp_Si (fun r => r = f_Md_sink p_0 p_1 p_2)) 0 0 (fun _ => False) := by
  refine Met.ofW (cc := b_Md_sink) (maxL := 5) (ret := (some .int)) (by decide) rfl ?_
  intro p e s m args below meth c s₁ B hml hv
  obtain ⟨rfl, hP, hK, hN⟩ := hv
  have hx := B.exec
  have hb := B.bytes
  have hr := B.returns
  have hts := atoms_spec (ws := (.code y_Md_sink b_Md_sink 5 (some .int) :: TB)) B.pre
  have htb := fun w (h : w ∈ TB) => hts w (List.mem_cons_of_mem _ h)
  have hown : s.vm.findClass R_Md = some m.cls := findClass_of_methodNamed B.named
  have hlocks := B.notSynchronized
  have hl := lv_entry ([.ref (a 0), .int p_0, .int p_1, .int p_2]) (n := 5) (Nat.le_of_ble_eq_true rfl)
  rw [lg_entry_eq]
  generalize (lg_sl ([.ref (a 0), .int p_0, .int p_1, .int p_2]) ++ List.replicate (5 - (lg_sl ([.ref (a 0), .int p_0, .int p_1, .int p_2])).length) Slot.unset).toArray = ls at hl ⊢
  have hl : lv_has ls 5 [(0, .ref (a 0)), (1, .int p_0), (2, .int p_1), (3, .int p_2)] := hl
  refine lv_aload_n hx hb d_Md_sink_0 rfl (lv_at hl 0 rfl) ?_
  refine lv_iload_n hx hb d_Md_sink_1 rfl (lv_at hl 1 rfl) ?_
  refine vp_callSi (va_Run.run (va_runV (As := [.int p_0]) (rest := []) ⟨hx, hb, hml, hown, htb⟩ (c_Md_isBoat l dC dI a k p_0) (cwV 1 htb (gd_V tw_144 tw_145 tw_146 tw_109 tw_143) rfl rfl rfl (by decide +kernel) ⟨Nat.le_of_ble_eq_true rfl, Nat.le_of_ble_eq_true rfl⟩) ⟨pr_blind, va_recv hK hP (ci := 7) (q0 := 0) rfl rfl, pr_pre hP hK hN⟩ rfl rfl hl.1 rfl (lv_room (Nat.le_of_ble_eq_true rfl)) d_Md_sink_2 ⟨Nat.le_of_ble_eq_true rfl, Nat.le_of_ble_eq_true rfl⟩)) (fun r er => ?_)
  subst er
  by_cases c_1 : p_0 < 0
  · refine hb_ti 0 (by unfold f_Md_isBoat; rw [if_pos c_1]) ?_
    refine lv_if_eq (tgt := 16) hx hb d_Md_sink_5 (by decide) (fun _ => ?_) (fun h => absurd (by decide +kernel) h)
    refine lv_iconst (v := (-1)) hx hb d_Md_sink_16 (by decide +kernel) ?_
    exact W.iret (v := (-1)) hx hb hr (fun t ht hW => ⟨(-1), rfl, (by unfold f_Md_sink; rw [if_pos c_1]), ht⟩) t_nil d_Md_sink_17
  · refine hb_ti 0 (by unfold f_Md_isBoat; rw [if_neg c_1]) ?_
    refine lv_if_eq (tgt := 16) hx hb d_Md_sink_5 (by decide) (fun _ => ?_) (fun h => absurd (by decide +kernel) h)
    refine lv_iconst (v := (-1)) hx hb d_Md_sink_16 (by decide +kernel) ?_
    exact W.iret (v := (-1)) hx hb hr (fun t ht hW => ⟨(-1), rfl, (by unfold f_Md_sink; rw [if_neg c_1]), ht⟩) t_nil d_Md_sink_17
def f_Md_trip (p_0 : Int32) (p_1 : Int32) : Int32 := if p_0 < 0 then ((-2)) else ((-2))
set_option maxHeartbeats 4000000 in
set_option maxRecDepth 100000 in
theorem c_Md_trip (l : Launch) (dC : Nat → ClassId) (dI : Nat → Nat → Nat) (a : Nat → Nat) (k : Nat → ClassId)  (p_0 : Int32) (p_1 : Int32)  : Met l y_Md_trip (.code y_Md_trip b_Md_trip 3 (some .int) :: TB) ({ frames := 1, cells := 0, slots := 0, locals := 22 }) (va_Pc [.ref (a 0), .int p_0, .int p_1] (PR dC dI (MW a k) (MT k))) (vp_Si (fun r => r = f_Md_trip p_0 p_1)) 0 0 (fun _ => False) := by
  refine Met.ofW (cc := b_Md_trip) (maxL := 3) (ret := (some .int)) (by decide) rfl ?_
  intro p e s m args below meth c s₁ B hml hv
  obtain ⟨rfl, hP, hK, hN⟩ := hv
  have hx := B.exec
  have hb := B.bytes
  have hr := B.returns
  have hts := atoms_spec (ws := (.code y_Md_trip b_Md_trip 3 (some .int) :: TB)) B.pre
  have htb := fun w (h : w ∈ TB) => hts w (List.mem_cons_of_mem _ h)
  have hown : s.vm.findClass R_Md = some m.cls := findClass_of_methodNamed B.named
  have hlocks := B.notSynchronized
  have hl := lv_entry ([.ref (a 0), .int p_0, .int p_1]) (n := 3) (Nat.le_of_ble_eq_true rfl)
  rw [lg_entry_eq]
  generalize (lg_sl ([.ref (a 0), .int p_0, .int p_1]) ++ List.replicate (3 - (lg_sl ([.ref (a 0), .int p_0, .int p_1])).length) Slot.unset).toArray = ls at hl ⊢
  have hl : lv_has ls 3 [(0, .ref (a 0)), (1, .int p_0), (2, .int p_1)] := hl
  refine lv_iload_n hx hb d_Md_trip_0 rfl (lv_at hl 1 rfl) ?_
  refine lv_iconst (v := 0) hx hb d_Md_trip_1 (by decide +kernel) ?_
  refine lv_aload_n hx hb d_Md_trip_2 rfl (lv_at hl 0 rfl) ?_
  refine va_get (D := (dC, dI)) (ci := 7) (v := .int 0) (C := R_Md) (T := F_Md) (N := 64) hx hb htb i_Md hown hK hP 0 rfl rfl 47 (by decide) (htb (.fieldLink R_Md 313 "WaterMenModel" "trips" "I") tw_160) (fun _ h9 => h9) rfl d_Md_trip_3 ?_
  refine lv_iconst (v := 1) hx hb d_Md_trip_6 (by decide +kernel) ?_
  refine lv_isub hx hb d_Md_trip_7 ?_
  refine hb_ti (-1) (by decide +kernel) ?_
  refine vp_callSi (va_Run.run (va_runS (As := [.int p_0, .int 0, .int (-1)]) (rest := []) ⟨hx, hb, hml, hown, htb⟩ (c_Md_in l p_0 0 (-1)) (cwS 3 htb (gd_S tw_110 tw_111 tw_109 tw_108) rfl rfl rfl (by decide +kernel) ⟨Nat.le_of_ble_eq_true rfl, Nat.le_of_ble_eq_true rfl⟩) ⟨fun _ _ _ _ h => h, fun U _ _ => ⟨rfl, trivial⟩⟩ rfl rfl hl.1 rfl (lv_room (Nat.le_of_ble_eq_true rfl)) d_Md_trip_8 ⟨Nat.le_of_ble_eq_true rfl, Nat.le_of_ble_eq_true rfl⟩)) (fun r er => ?_)
  subst er
  by_cases c_1 : p_0 < 0
  · refine hb_ti 0 (by unfold f_Md_in; rw [if_pos c_1]) ?_
    refine lv_if_ne (tgt := 17) hx hb d_Md_trip_11 (by decide) (fun h => absurd (by decide +kernel) h) (fun _ => ?_)
    refine lv_bipush (v := (-2)) hx hb d_Md_trip_14 (by decide +kernel) ?_
    exact W.iret (v := (-2)) hx hb hr (fun t ht hW => ⟨(-2), rfl, (by unfold f_Md_trip; rw [if_pos c_1]), ht⟩) t_nil d_Md_trip_16
  · refine hb_ti 0 (by unfold f_Md_in; rw [if_neg c_1, if_pos (show (-1) < p_0 from by have e0 := c_1; rw [Int32.lt_iff_toInt_lt] at e0; have z0 : ((-1) : Int32).toInt = -1 := (by decide +kernel); have z1 : (0 : Int32).toInt = 0 := (by decide +kernel); rw [Int32.lt_iff_toInt_lt]; omega)]) ?_
    refine lv_if_ne (tgt := 17) hx hb d_Md_trip_11 (by decide) (fun h => absurd (by decide +kernel) h) (fun _ => ?_)
    refine lv_bipush (v := (-2)) hx hb d_Md_trip_14 (by decide +kernel) ?_
    exact W.iret (v := (-2)) hx hb hr (fun t ht hW => ⟨(-2), rfl, (by unfold f_Md_trip; rw [if_neg c_1]), ht⟩) t_nil d_Md_trip_16
def f_Md_due (p_0 : Int32) (p_1 : Int32) : Int32 := if p_0 < 0 then ((-2)) else ((-2))
set_option maxHeartbeats 4000000 in
set_option maxRecDepth 100000 in
theorem c_Md_due (l : Launch) (dC : Nat → ClassId) (dI : Nat → Nat → Nat) (a : Nat → Nat) (k : Nat → ClassId)  (p_0 : Int32) (p_1 : Int32)  : Met l y_Md_due (.code y_Md_due b_Md_due 3 (some .int) :: TB) ({ frames := 1, cells := 0, slots := 0, locals := 22 }) (va_Pc [.ref (a 0), .int p_0, .int p_1] (PR dC dI (MW a k) (MT k))) (vp_Si (fun r => r = f_Md_due p_0 p_1)) 0 0 (fun _ => False) := by
  refine Met.ofW (cc := b_Md_due) (maxL := 3) (ret := (some .int)) (by decide) rfl ?_
  intro p e s m args below meth c s₁ B hml hv
  obtain ⟨rfl, hP, hK, hN⟩ := hv
  have hx := B.exec
  have hb := B.bytes
  have hr := B.returns
  have hts := atoms_spec (ws := (.code y_Md_due b_Md_due 3 (some .int) :: TB)) B.pre
  have htb := fun w (h : w ∈ TB) => hts w (List.mem_cons_of_mem _ h)
  have hown : s.vm.findClass R_Md = some m.cls := findClass_of_methodNamed B.named
  have hlocks := B.notSynchronized
  have hl := lv_entry ([.ref (a 0), .int p_0, .int p_1]) (n := 3) (Nat.le_of_ble_eq_true rfl)
  rw [lg_entry_eq]
  generalize (lg_sl ([.ref (a 0), .int p_0, .int p_1]) ++ List.replicate (3 - (lg_sl ([.ref (a 0), .int p_0, .int p_1])).length) Slot.unset).toArray = ls at hl ⊢
  have hl : lv_has ls 3 [(0, .ref (a 0)), (1, .int p_0), (2, .int p_1)] := hl
  refine lv_iload_n hx hb d_Md_due_0 rfl (lv_at hl 1 rfl) ?_
  refine lv_iconst (v := 0) hx hb d_Md_due_1 (by decide +kernel) ?_
  refine lv_aload_n hx hb d_Md_due_2 rfl (lv_at hl 0 rfl) ?_
  refine va_get (D := (dC, dI)) (ci := 7) (v := .int 0) (C := R_Md) (T := F_Md) (N := 64) hx hb htb i_Md hown hK hP 0 rfl rfl 47 (by decide) (htb (.fieldLink R_Md 313 "WaterMenModel" "trips" "I") tw_160) (fun _ h9 => h9) rfl d_Md_due_3 ?_
  refine lv_iconst (v := 1) hx hb d_Md_due_6 (by decide +kernel) ?_
  refine lv_isub hx hb d_Md_due_7 ?_
  refine hb_ti (-1) (by decide +kernel) ?_
  refine vp_callSi (va_Run.run (va_runS (As := [.int p_0, .int 0, .int (-1)]) (rest := []) ⟨hx, hb, hml, hown, htb⟩ (c_Md_in l p_0 0 (-1)) (cwS 3 htb (gd_S tw_110 tw_111 tw_109 tw_108) rfl rfl rfl (by decide +kernel) ⟨Nat.le_of_ble_eq_true rfl, Nat.le_of_ble_eq_true rfl⟩) ⟨fun _ _ _ _ h => h, fun U _ _ => ⟨rfl, trivial⟩⟩ rfl rfl hl.1 rfl (lv_room (Nat.le_of_ble_eq_true rfl)) d_Md_due_8 ⟨Nat.le_of_ble_eq_true rfl, Nat.le_of_ble_eq_true rfl⟩)) (fun r er => ?_)
  subst er
  by_cases c_1 : p_0 < 0
  · refine hb_ti 0 (by unfold f_Md_in; rw [if_pos c_1]) ?_
    refine lv_if_eq (tgt := 30) hx hb d_Md_due_11 (by decide) (fun _ => ?_) (fun h => absurd (by decide +kernel) h)
    refine lv_bipush (v := (-2)) hx hb d_Md_due_30 (by decide +kernel) ?_
    exact W.iret (v := (-2)) hx hb hr (fun t ht hW => ⟨(-2), rfl, (by unfold f_Md_due; rw [if_pos c_1]), ht⟩) t_nil d_Md_due_32
  · refine hb_ti 0 (by unfold f_Md_in; rw [if_neg c_1, if_pos (show (-1) < p_0 from by have e0 := c_1; rw [Int32.lt_iff_toInt_lt] at e0; have z0 : ((-1) : Int32).toInt = -1 := (by decide +kernel); have z1 : (0 : Int32).toInt = 0 := (by decide +kernel); rw [Int32.lt_iff_toInt_lt]; omega)]) ?_
    refine lv_if_eq (tgt := 30) hx hb d_Md_due_11 (by decide) (fun _ => ?_) (fun h => absurd (by decide +kernel) h)
    refine lv_bipush (v := (-2)) hx hb d_Md_due_30 (by decide +kernel) ?_
    exact W.iret (v := (-2)) hx hb hr (fun t ht hW => ⟨(-2), rfl, (by unfold f_Md_due; rw [if_neg c_1]), ht⟩) t_nil d_Md_due_32
def f_Md_over (p_0 : Int32) (p_1 : Int32) : Int32 := if p_0 < 0 then ((-1)) else (if 39 < p_0 then ((-1)) else (if p_1 < 0 then ((-1)) else (if 499 < p_1 then ((-1)) else (0))))
set_option maxHeartbeats 4000000 in
set_option maxRecDepth 100000 in
theorem c_Md_over (l : Launch) (dC : Nat → ClassId) (dI : Nat → Nat → Nat) (a : Nat → Nat) (k : Nat → ClassId)  (p_0 : Int32) (p_1 : Int32)  : Met l y_Md_over (.code y_Md_over b_Md_over 6 (some .int) :: TB) ({ frames := 2, cells := 0, slots := 0, locals := 42 }) (va_Pc [.ref (a 0), .int p_0, .int p_1] (PR dC dI (MW a k) (MT k))) (vp_Si (fun r => r = f_Md_over p_0 p_1)) 0 0 (fun _ => False) := by
  refine Met.ofW (cc := b_Md_over) (maxL := 6) (ret := (some .int)) (by decide) rfl ?_
  intro p e s m args below meth c s₁ B hml hv
  obtain ⟨rfl, hP, hK, hN⟩ := hv
  have hx := B.exec
  have hb := B.bytes
  have hr := B.returns
  have hts := atoms_spec (ws := (.code y_Md_over b_Md_over 6 (some .int) :: TB)) B.pre
  have htb := fun w (h : w ∈ TB) => hts w (List.mem_cons_of_mem _ h)
  have hown : s.vm.findClass R_Md = some m.cls := findClass_of_methodNamed B.named
  have hlocks := B.notSynchronized
  have hl := lv_entry ([.ref (a 0), .int p_0, .int p_1]) (n := 6) (Nat.le_of_ble_eq_true rfl)
  rw [lg_entry_eq]
  generalize (lg_sl ([.ref (a 0), .int p_0, .int p_1]) ++ List.replicate (6 - (lg_sl ([.ref (a 0), .int p_0, .int p_1])).length) Slot.unset).toArray = ls at hl ⊢
  have hl : lv_has ls 6 [(0, .ref (a 0)), (1, .int p_0), (2, .int p_1)] := hl
  refine lv_iload_n hx hb d_Md_over_0 rfl (lv_at hl 1 rfl) ?_
  refine vp_callSi (va_Run.run (va_runS (As := [.int p_0]) (rest := []) ⟨hx, hb, hml, hown, htb⟩ (c_Md_isMan l p_0) (cwS 1 htb (gd_S tw_123 tw_124 tw_109 tw_122) rfl rfl rfl (by decide +kernel) ⟨Nat.le_of_ble_eq_true rfl, Nat.le_of_ble_eq_true rfl⟩) ⟨fun _ _ _ _ h => h, fun U _ _ => ⟨rfl, trivial⟩⟩ rfl rfl hl.1 rfl (lv_room (Nat.le_of_ble_eq_true rfl)) d_Md_over_1 ⟨Nat.le_of_ble_eq_true rfl, Nat.le_of_ble_eq_true rfl⟩)) (fun r er => ?_)
  subst er
  by_cases c_1 : p_0 < 0
  · refine hb_ti 0 (by unfold f_Md_isMan; rw [if_pos c_1]) ?_
    refine lv_if_eq (tgt := 14) hx hb d_Md_over_4 (by decide) (fun _ => ?_) (fun h => absurd (by decide +kernel) h)
    refine lv_iconst (v := (-1)) hx hb d_Md_over_14 (by decide +kernel) ?_
    exact W.iret (v := (-1)) hx hb hr (fun t ht hW => ⟨(-1), rfl, (by unfold f_Md_over; rw [if_pos c_1]), ht⟩) t_nil d_Md_over_15
  · by_cases c_2 : 39 < p_0
    · refine hb_ti 0 (by unfold f_Md_isMan; rw [if_neg c_1, if_pos c_2]) ?_
      refine lv_if_eq (tgt := 14) hx hb d_Md_over_4 (by decide) (fun _ => ?_) (fun h => absurd (by decide +kernel) h)
      refine lv_iconst (v := (-1)) hx hb d_Md_over_14 (by decide +kernel) ?_
      exact W.iret (v := (-1)) hx hb hr (fun t ht hW => ⟨(-1), rfl, (by unfold f_Md_over; rw [if_neg c_1, if_pos c_2]), ht⟩) t_nil d_Md_over_15
    · refine hb_ti 1 (by unfold f_Md_isMan; rw [if_neg c_1, if_neg c_2]) ?_
      refine lv_if_eq (tgt := 14) hx hb d_Md_over_4 (by decide) (fun h => absurd h (by decide +kernel)) (fun _ => ?_)
      refine lv_iload_n hx hb d_Md_over_7 rfl (lv_at hl 2 rfl) ?_
      refine vp_callSi (va_Run.run (va_runS (As := [.int p_1]) (rest := []) ⟨hx, hb, hml, hown, htb⟩ (c_Md_isDay l p_1) (cwS 1 htb (gd_S tw_149 tw_150 tw_109 tw_148) rfl rfl rfl (by decide +kernel) ⟨Nat.le_of_ble_eq_true rfl, Nat.le_of_ble_eq_true rfl⟩) ⟨fun _ _ _ _ h => h, fun U _ _ => ⟨rfl, trivial⟩⟩ rfl rfl hl.1 rfl (lv_room (Nat.le_of_ble_eq_true rfl)) d_Md_over_8 ⟨Nat.le_of_ble_eq_true rfl, Nat.le_of_ble_eq_true rfl⟩)) (fun r er => ?_)
      subst er
      by_cases c_3 : p_1 < 0
      · refine hb_ti 0 (by unfold f_Md_isDay; rw [if_pos c_3]) ?_
        refine lv_if_ne (tgt := 16) hx hb d_Md_over_11 (by decide) (fun h => absurd (by decide +kernel) h) (fun _ => ?_)
        refine lv_iconst (v := (-1)) hx hb d_Md_over_14 (by decide +kernel) ?_
        exact W.iret (v := (-1)) hx hb hr (fun t ht hW => ⟨(-1), rfl, (by unfold f_Md_over; rw [if_neg c_1, if_neg c_2, if_pos c_3]), ht⟩) t_nil d_Md_over_15
      · by_cases c_4 : 499 < p_1
        · refine hb_ti 0 (by unfold f_Md_isDay; rw [if_neg c_3, if_pos c_4]) ?_
          refine lv_if_ne (tgt := 16) hx hb d_Md_over_11 (by decide) (fun h => absurd (by decide +kernel) h) (fun _ => ?_)
          refine lv_iconst (v := (-1)) hx hb d_Md_over_14 (by decide +kernel) ?_
          exact W.iret (v := (-1)) hx hb hr (fun t ht hW => ⟨(-1), rfl, (by unfold f_Md_over; rw [if_neg c_1, if_neg c_2, if_neg c_3, if_pos c_4]), ht⟩) t_nil d_Md_over_15
        · refine hb_ti 1 (by unfold f_Md_isDay; rw [if_neg c_3, if_neg c_4]) ?_
          refine lv_if_ne (tgt := 16) hx hb d_Md_over_11 (by decide) (fun _ => ?_) (fun h => absurd h (by decide +kernel))
          refine lv_iconst (v := 0) hx hb d_Md_over_16 (by decide +kernel) ?_
          refine lv_istore_n (lv' := [(3, .int 0), (0, .ref (a 0)), (1, .int p_0), (2, .int p_1)]) hx hb d_Md_over_17 rfl hl (by decide) rfl (fun ls hl => ?_)
          refine lv_iconst (v := 0) hx hb d_Md_over_18 (by decide +kernel) ?_
          refine lv_istore (lv' := [(4, .int 0), (3, .int 0), (0, .ref (a 0)), (1, .int p_0), (2, .int p_1)]) hx hb d_Md_over_19 hl (by decide) rfl (fun ls hl => ?_)
          refine lv_iload hx hb d_Md_over_21 (lv_at hl 0 rfl) ?_
          refine lv_aload_n hx hb d_Md_over_23 rfl (lv_at hl 2 rfl) ?_
          refine va_get (D := (dC, dI)) (ci := 7) (v := .int 0) (C := R_Md) (T := F_Md) (N := 64) hx hb htb i_Md hown hK hP 0 rfl rfl 47 (by decide) (htb (.fieldLink R_Md 313 "WaterMenModel" "trips" "I") tw_160) (fun _ h9 => h9) rfl d_Md_over_24 ?_
          refine lv_icmp_ge (tgt := 93) hx hb d_Md_over_27 (by decide) (fun _ => ?_) (fun h => absurd (by decide +kernel) h)
          refine lv_iload_n hx hb d_Md_over_93 rfl (lv_at hl 1 rfl) ?_
          exact W.iret (v := 0) hx hb hr (fun t ht hW => ⟨0, rfl, (by unfold f_Md_over; rw [if_neg c_1, if_neg c_2, if_neg c_3, if_neg c_4]), ht⟩) t_nil d_Md_over_94
def f_Md_isPension (p_0 : Int32) (p_1 : Int32) : Int32 := if p_0 < 1 then (0) else (if 10000 < p_0 then (0) else (if p_1 < 0 then (0) else (if 9999 < p_1 then (0) else (1))))
set_option maxHeartbeats 4000000 in
set_option maxRecDepth 100000 in
theorem c_Md_isPension (l : Launch)  (p_0 : Int32) (p_1 : Int32)  : Met l y_Md_isPension (.code y_Md_isPension b_Md_isPension 2 (some .boolean) :: TB) ({ frames := 1, cells := 0, slots := 0, locals := 22 }) (va_Pc [.int p_0, .int p_1] (fun _ => True)) (vp_Si (fun r => r = f_Md_isPension p_0 p_1)) 0 0 (fun _ => False) := by
  refine Met.ofW (cc := b_Md_isPension) (maxL := 2) (ret := (some .boolean)) (by decide) rfl ?_
  intro p e s m args below meth c s₁ B hml hv
  obtain ⟨rfl, -⟩ := hv
  have hx := B.exec
  have hb := B.bytes
  have hr := B.returns
  have hts := atoms_spec (ws := (.code y_Md_isPension b_Md_isPension 2 (some .boolean) :: TB)) B.pre
  have htb := fun w (h : w ∈ TB) => hts w (List.mem_cons_of_mem _ h)
  have hown : s.vm.findClass R_Md = some m.cls := findClass_of_methodNamed B.named
  have hlocks := B.notSynchronized
  have hl := lv_entry ([.int p_0, .int p_1]) (n := 2) (Nat.le_of_ble_eq_true rfl)
  rw [lg_entry_eq]
  generalize (lg_sl ([.int p_0, .int p_1]) ++ List.replicate (2 - (lg_sl ([.int p_0, .int p_1])).length) Slot.unset).toArray = ls at hl ⊢
  have hl : lv_has ls 2 [(0, .int p_0), (1, .int p_1)] := hl
  refine lv_iload_n hx hb d_Md_isPension_0 rfl (lv_at hl 0 rfl) ?_
  refine lv_iconst (v := 1) hx hb d_Md_isPension_1 (by decide +kernel) ?_
  refine lv_sipush (v := 10000) hx hb d_Md_isPension_2 (by decide +kernel) ?_
  refine vp_callSi (va_Run.run (va_runS (As := [.int p_0, .int 1, .int 10000]) (rest := []) ⟨hx, hb, hml, hown, htb⟩ (c_Md_in l p_0 1 10000) (cwS 3 htb (gd_S tw_110 tw_111 tw_109 tw_108) rfl rfl rfl (by decide +kernel) ⟨Nat.le_of_ble_eq_true rfl, Nat.le_of_ble_eq_true rfl⟩) ⟨fun _ _ _ _ h => h, fun U _ _ => ⟨rfl, trivial⟩⟩ rfl rfl hl.1 rfl (lv_room (Nat.le_of_ble_eq_true rfl)) d_Md_isPension_5 ⟨Nat.le_of_ble_eq_true rfl, Nat.le_of_ble_eq_true rfl⟩)) (fun r er => ?_)
  subst er
  by_cases c_1 : p_0 < 1
  · refine hb_ti 0 (by unfold f_Md_in; rw [if_pos c_1]) ?_
    refine lv_if_eq (tgt := 26) hx hb d_Md_isPension_8 (by decide) (fun _ => ?_) (fun h => absurd (by decide +kernel) h)
    refine lv_iconst (v := 0) hx hb d_Md_isPension_26 (by decide +kernel) ?_
    exact W.zret (v := 0) hx hb hr (by decide +kernel) (fun t ht hW => ⟨0, rfl, (by unfold f_Md_isPension; rw [if_pos c_1]), ht⟩) t_nil d_Md_isPension_27
  · by_cases c_2 : 10000 < p_0
    · refine hb_ti 0 (by unfold f_Md_in; rw [if_neg c_1, if_pos c_2]) ?_
      refine lv_if_eq (tgt := 26) hx hb d_Md_isPension_8 (by decide) (fun _ => ?_) (fun h => absurd (by decide +kernel) h)
      refine lv_iconst (v := 0) hx hb d_Md_isPension_26 (by decide +kernel) ?_
      exact W.zret (v := 0) hx hb hr (by decide +kernel) (fun t ht hW => ⟨0, rfl, (by unfold f_Md_isPension; rw [if_neg c_1, if_pos c_2]), ht⟩) t_nil d_Md_isPension_27
    · refine hb_ti 1 (by unfold f_Md_in; rw [if_neg c_1, if_neg c_2]) ?_
      refine lv_if_eq (tgt := 26) hx hb d_Md_isPension_8 (by decide) (fun h => absurd h (by decide +kernel)) (fun _ => ?_)
      refine lv_iload_n hx hb d_Md_isPension_11 rfl (lv_at hl 1 rfl) ?_
      refine lv_iconst (v := 0) hx hb d_Md_isPension_12 (by decide +kernel) ?_
      refine lv_sipush (v := 9999) hx hb d_Md_isPension_13 (by decide +kernel) ?_
      refine vp_callSi (va_Run.run (va_runS (As := [.int p_1, .int 0, .int 9999]) (rest := []) ⟨hx, hb, hml, hown, htb⟩ (c_Md_in l p_1 0 9999) (cwS 3 htb (gd_S tw_110 tw_111 tw_109 tw_108) rfl rfl rfl (by decide +kernel) ⟨Nat.le_of_ble_eq_true rfl, Nat.le_of_ble_eq_true rfl⟩) ⟨fun _ _ _ _ h => h, fun U _ _ => ⟨rfl, trivial⟩⟩ rfl rfl hl.1 rfl (lv_room (Nat.le_of_ble_eq_true rfl)) d_Md_isPension_16 ⟨Nat.le_of_ble_eq_true rfl, Nat.le_of_ble_eq_true rfl⟩)) (fun r er => ?_)
      subst er
      by_cases c_3 : p_1 < 0
      · refine hb_ti 0 (by unfold f_Md_in; rw [if_pos c_3]) ?_
        refine lv_if_eq (tgt := 26) hx hb d_Md_isPension_19 (by decide) (fun _ => ?_) (fun h => absurd (by decide +kernel) h)
        refine lv_iconst (v := 0) hx hb d_Md_isPension_26 (by decide +kernel) ?_
        exact W.zret (v := 0) hx hb hr (by decide +kernel) (fun t ht hW => ⟨0, rfl, (by unfold f_Md_isPension; rw [if_neg c_1, if_neg c_2, if_pos c_3]), ht⟩) t_nil d_Md_isPension_27
      · by_cases c_4 : 9999 < p_1
        · refine hb_ti 0 (by unfold f_Md_in; rw [if_neg c_3, if_pos c_4]) ?_
          refine lv_if_eq (tgt := 26) hx hb d_Md_isPension_19 (by decide) (fun _ => ?_) (fun h => absurd (by decide +kernel) h)
          refine lv_iconst (v := 0) hx hb d_Md_isPension_26 (by decide +kernel) ?_
          exact W.zret (v := 0) hx hb hr (by decide +kernel) (fun t ht hW => ⟨0, rfl, (by unfold f_Md_isPension; rw [if_neg c_1, if_neg c_2, if_neg c_3, if_pos c_4]), ht⟩) t_nil d_Md_isPension_27
        · refine hb_ti 1 (by unfold f_Md_in; rw [if_neg c_3, if_neg c_4]) ?_
          refine lv_if_eq (tgt := 26) hx hb d_Md_isPension_19 (by decide) (fun h => absurd h (by decide +kernel)) (fun _ => ?_)
          refine lv_iconst (v := 1) hx hb d_Md_isPension_22 (by decide +kernel) ?_
          refine lv_goto (tgt := 27) hx hb d_Md_isPension_23 (by decide) ?_
          exact W.zret (v := 1) hx hb hr (by decide +kernel) (fun t ht hW => ⟨1, rfl, (by unfold f_Md_isPension; rw [if_neg c_1, if_neg c_2, if_neg c_3, if_neg c_4]), ht⟩) t_nil d_Md_isPension_27
def f_Md_newPensioner (p_0 : Int32) (p_1 : Int32) : Int32 := 0
set_option maxHeartbeats 4000000 in
set_option maxRecDepth 100000 in
theorem c_Md_newPensioner (l : Launch) (dC : Nat → ClassId) (dI : Nat → Nat → Nat) (a : Nat → Nat) (k : Nat → ClassId) (sz : Nat) (p_0 : Int32) (p_1 : Int32)  : Met l y_Md_newPensioner (.code y_Md_newPensioner b_Md_newPensioner 3 (some .int) :: TB) ({ frames := 0, cells := 0, slots := 0, locals := 0 }) (va_Pc [.ref (a 0), .int p_0, .int p_1] (PC dC dI (MW a k) (MT k) sz)) (va_Qi (fun r (_ : Unit) => r = f_Md_newPensioner p_0 p_1) (fun (_ : Unit) (_ : State) => True) (va_A (MW a k) sz)) 0 0 (va_A (MW a k) sz) := by
  refine Met.ofW (cc := b_Md_newPensioner) (maxL := 3) (ret := (some .int)) (by decide) rfl ?_
  intro p e s m args below meth c s₁ B hml hv
  obtain ⟨rfl, hsz, hP, hK, hD0, hN⟩ := hv
  have hx := B.exec
  have hb := B.bytes
  have hr := B.returns
  have hts := atoms_spec (ws := (.code y_Md_newPensioner b_Md_newPensioner 3 (some .int) :: TB)) B.pre
  have htb := fun w (h : w ∈ TB) => hts w (List.mem_cons_of_mem _ h)
  have hown : s.vm.findClass R_Md = some m.cls := findClass_of_methodNamed B.named
  have hlocks := B.notSynchronized
  have hl := lv_entry ([.ref (a 0), .int p_0, .int p_1]) (n := 3) (Nat.le_of_ble_eq_true rfl)
  rw [lg_entry_eq]
  generalize (lg_sl ([.ref (a 0), .int p_0, .int p_1]) ++ List.replicate (3 - (lg_sl ([.ref (a 0), .int p_0, .int p_1])).length) Slot.unset).toArray = ls at hl ⊢
  have hl : lv_has ls 3 [(0, .ref (a 0)), (1, .int p_0), (2, .int p_1)] := hl
  subst hsz
  have hD := hD0.self (sz := s.heap.size)
  obtain ⟨A, hAe⟩ : ∃ A, va_A (MW a k) s.heap.size = A := ⟨_, rfl⟩
  rw [hAe] at hD
  have hA : ∀ q : Nat, s.heap.size ≤ q → A q := fun q h => by rw [← hAe]; exact Or.inr h
  have hS : va_S A s.heap s.heap [] := va_S.rf
  have hP := hP
  refine lv_aload_n hx hb d_Md_newPensioner_0 rfl (lv_at hl 0 rfl) ?_
  refine va_get (D := (dC, dI)) (ci := 7) (v := .ref (a 45)) (C := R_Md) (T := F_Md) (N := 64) hx hb htb i_Md hown hK hP 0 rfl rfl 61 (by decide) (htb (.fieldLink R_Md 177 "WaterMenModel" "pensionOf" "[I") tw_165) (fun _ h9 => h9) rfl d_Md_newPensioner_1 ?_
  refine lv_aload_n hx hb d_Md_newPensioner_4 rfl (lv_at hl 0 rfl) ?_
  refine va_get (D := (dC, dI)) (ci := 7) (v := .int 0) (C := R_Md) (T := F_Md) (N := 64) hx hb htb i_Md hown hK hP 0 rfl rfl 60 (by decide) (htb (.fieldLink R_Md 323 "WaterMenModel" "pensioners" "I") tw_164) (fun _ h9 => h9) rfl d_Md_newPensioner_5 ?_
  refine lv_iload_n hx hb d_Md_newPensioner_8 rfl (lv_at hl 1 rfl) ?_
  refine va_iast hx hb hK hP hD hS 45 44 rfl rfl (by unfold vp_in; decide +kernel) d_Md_newPensioner_9 (fun H locs hP hD hS => ?_)
  refine lv_aload_n hx hb d_Md_newPensioner_10 rfl (lv_at hl 0 rfl) ?_
  refine va_get (D := (dC, dI)) (ci := 7) (v := .ref (a 46)) (C := R_Md) (T := F_Md) (N := 64) hx hb htb i_Md hown hK hP 0 rfl rfl 62 (by decide) (htb (.fieldLink R_Md 180 "WaterMenModel" "pensionEnd" "[I") tw_166) (fun _ h9 => h9) rfl d_Md_newPensioner_11 ?_
  refine lv_aload_n hx hb d_Md_newPensioner_14 rfl (lv_at hl 0 rfl) ?_
  refine va_get (D := (dC, dI)) (ci := 7) (v := .int 0) (C := R_Md) (T := F_Md) (N := 64) hx hb htb i_Md hown hK hP 0 rfl rfl 60 (by decide) (htb (.fieldLink R_Md 323 "WaterMenModel" "pensioners" "I") tw_164) (fun _ h9 => h9) rfl d_Md_newPensioner_15 ?_
  refine lv_iload_n hx hb d_Md_newPensioner_18 rfl (lv_at hl 2 rfl) ?_
  refine va_iast hx hb hK hP hD hS 46 45 rfl rfl (by unfold vp_in; decide +kernel) d_Md_newPensioner_19 (fun H locs hP hD hS => ?_)
  refine lv_aload_n hx hb d_Md_newPensioner_20 rfl (lv_at hl 0 rfl) ?_
  refine lv_dup hx hb d_Md_newPensioner_21 rfl ?_
  refine va_get (D := (dC, dI)) (ci := 7) (v := .int 0) (C := R_Md) (T := F_Md) (N := 64) hx hb htb i_Md hown hK hP 0 rfl rfl 60 (by decide) (htb (.fieldLink R_Md 323 "WaterMenModel" "pensioners" "I") tw_164) (fun _ h9 => h9) rfl d_Md_newPensioner_22 ?_
  refine lv_iconst (v := 1) hx hb d_Md_newPensioner_25 (by decide +kernel) ?_
  refine lv_iadd hx hb d_Md_newPensioner_26 ?_
  refine hb_ti 1 (by decide +kernel) ?_
  refine va_put (D := (dC, dI)) (ci := 7) (v := .int 1) (ty := .int) (C := R_Md) (T := F_Md) (N := 64) hx hb htb i_Md t_Md t_Md_ok n_Md hown hK hP hD hS 0 rfl rfl 60 (by decide) (htb (.fieldLink R_Md 323 "WaterMenModel" "pensioners" "I") tw_164) (fun _ h9 => h9) rfl (by decide +kernel) rfl rfl (Nat.le_of_ble_eq_true rfl) d_Md_newPensioner_27 (fun H locs hP hD hS => ?_)
  refine lv_aload_n hx hb d_Md_newPensioner_30 rfl (lv_at hl 0 rfl) ?_
  refine va_get (D := (dC, dI)) (ci := 7) (v := .int 1) (C := R_Md) (T := F_Md) (N := 64) hx hb htb i_Md hown hK hP 0 rfl rfl 60 (by decide) (htb (.fieldLink R_Md 323 "WaterMenModel" "pensioners" "I") tw_164) (fun _ h9 => h9) rfl d_Md_newPensioner_31 ?_
  refine lv_iconst (v := 1) hx hb d_Md_newPensioner_34 (by decide +kernel) ?_
  refine lv_isub hx hb d_Md_newPensioner_35 ?_
  refine hb_ti 0 (by decide +kernel) ?_
  refine W.widen (k := 0) (n := 0) (Nat.le_of_ble_eq_true rfl) (Nat.le_of_ble_eq_true rfl) ?_
  exact W.iret (v := 0) hx hb hr (fun t ht hW => ⟨⟨0, (), rfl, rfl, trivial⟩, by rw [hAe]; exact hS.F ht⟩) (by rw [hAe]; exact hS.2.2) d_Md_newPensioner_36
def f_Md_pension (p_0 : Int32) (p_1 : Int32) : Int32 := if p_0 < 1 then ((-1)) else (if 10000 < p_0 then ((-1)) else (if p_1 < 0 then ((-1)) else (if 9999 < p_1 then ((-1)) else (0))))
set_option maxHeartbeats 4000000 in
set_option maxRecDepth 100000 in
theorem c_Md_pension (l : Launch) (dC : Nat → ClassId) (dI : Nat → Nat → Nat) (a : Nat → Nat) (k : Nat → ClassId) (sz : Nat) (p_0 : Int32) (p_1 : Int32)  : Met l y_Md_pension (.code y_Md_pension b_Md_pension 3 (some .int) :: TB) ({ frames := 2, cells := 0, slots := 0, locals := 43 }) (va_Pc [.ref (a 0), .int p_0, .int p_1] (PC dC dI (MW a k) (MT k) sz)) (va_Qi (fun r (_ : Unit) => r = f_Md_pension p_0 p_1) (fun (_ : Unit) (_ : State) => True) (va_A (MW a k) sz)) 0 0 (va_A (MW a k) sz) := by
  refine Met.ofW (cc := b_Md_pension) (maxL := 3) (ret := (some .int)) (by decide) rfl ?_
  intro p e s m args below meth c s₁ B hml hv
  obtain ⟨rfl, hsz, hP, hK, hD0, hN⟩ := hv
  have hx := B.exec
  have hb := B.bytes
  have hr := B.returns
  have hts := atoms_spec (ws := (.code y_Md_pension b_Md_pension 3 (some .int) :: TB)) B.pre
  have htb := fun w (h : w ∈ TB) => hts w (List.mem_cons_of_mem _ h)
  have hown : s.vm.findClass R_Md = some m.cls := findClass_of_methodNamed B.named
  have hlocks := B.notSynchronized
  have hl := lv_entry ([.ref (a 0), .int p_0, .int p_1]) (n := 3) (Nat.le_of_ble_eq_true rfl)
  rw [lg_entry_eq]
  generalize (lg_sl ([.ref (a 0), .int p_0, .int p_1]) ++ List.replicate (3 - (lg_sl ([.ref (a 0), .int p_0, .int p_1])).length) Slot.unset).toArray = ls at hl ⊢
  have hl : lv_has ls 3 [(0, .ref (a 0)), (1, .int p_0), (2, .int p_1)] := hl
  subst hsz
  have hD := hD0.self (sz := s.heap.size)
  obtain ⟨A, hAe⟩ : ∃ A, va_A (MW a k) s.heap.size = A := ⟨_, rfl⟩
  rw [hAe] at hD
  have hA : ∀ q : Nat, s.heap.size ≤ q → A q := fun q h => by rw [← hAe]; exact Or.inr h
  have hS : va_S A s.heap s.heap [] := va_S.rf
  have hP := hP
  refine lv_iload_n hx hb d_Md_pension_0 rfl (lv_at hl 1 rfl) ?_
  refine lv_iload_n hx hb d_Md_pension_1 rfl (lv_at hl 2 rfl) ?_
  refine vp_callSi (va_Run.run (va_runS (As := [.int p_0, .int p_1]) (rest := []) ⟨hx, hb, hml, hown, htb⟩ (c_Md_isPension l p_0 p_1) (cwS 2 htb (gd_S tw_162 tw_163 tw_109 tw_161) rfl rfl rfl (by decide +kernel) ⟨Nat.le_of_ble_eq_true rfl, Nat.le_of_ble_eq_true rfl⟩) ⟨fun _ _ _ _ h => h, fun U _ _ => ⟨rfl, trivial⟩⟩ rfl rfl hl.1 rfl (lv_room (Nat.le_of_ble_eq_true rfl)) d_Md_pension_2 ⟨Nat.le_of_ble_eq_true rfl, Nat.le_of_ble_eq_true rfl⟩)) (fun r er => ?_)
  subst er
  by_cases c_1 : p_0 < 1
  · refine hb_ti 0 (by unfold f_Md_isPension; rw [if_pos c_1]) ?_
    refine lv_if_ne (tgt := 10) hx hb d_Md_pension_5 (by decide) (fun h => absurd (by decide +kernel) h) (fun _ => ?_)
    refine lv_iconst (v := (-1)) hx hb d_Md_pension_8 (by decide +kernel) ?_
    refine W.widen (k := 0) (n := 0) (Nat.le_of_ble_eq_true rfl) (Nat.le_of_ble_eq_true rfl) ?_
    exact W.iret (v := (-1)) hx hb hr (fun t ht hW => ⟨⟨(-1), (), rfl, (by unfold f_Md_pension; rw [if_pos c_1]), trivial⟩, by rw [hAe]; exact hS.F ht⟩) (by rw [hAe]; exact hS.2.2) d_Md_pension_9
  · by_cases c_2 : 10000 < p_0
    · refine hb_ti 0 (by unfold f_Md_isPension; rw [if_neg c_1, if_pos c_2]) ?_
      refine lv_if_ne (tgt := 10) hx hb d_Md_pension_5 (by decide) (fun h => absurd (by decide +kernel) h) (fun _ => ?_)
      refine lv_iconst (v := (-1)) hx hb d_Md_pension_8 (by decide +kernel) ?_
      refine W.widen (k := 0) (n := 0) (Nat.le_of_ble_eq_true rfl) (Nat.le_of_ble_eq_true rfl) ?_
      exact W.iret (v := (-1)) hx hb hr (fun t ht hW => ⟨⟨(-1), (), rfl, (by unfold f_Md_pension; rw [if_neg c_1, if_pos c_2]), trivial⟩, by rw [hAe]; exact hS.F ht⟩) (by rw [hAe]; exact hS.2.2) d_Md_pension_9
    · by_cases c_3 : p_1 < 0
      · refine hb_ti 0 (by unfold f_Md_isPension; rw [if_neg c_1, if_neg c_2, if_pos c_3]) ?_
        refine lv_if_ne (tgt := 10) hx hb d_Md_pension_5 (by decide) (fun h => absurd (by decide +kernel) h) (fun _ => ?_)
        refine lv_iconst (v := (-1)) hx hb d_Md_pension_8 (by decide +kernel) ?_
        refine W.widen (k := 0) (n := 0) (Nat.le_of_ble_eq_true rfl) (Nat.le_of_ble_eq_true rfl) ?_
        exact W.iret (v := (-1)) hx hb hr (fun t ht hW => ⟨⟨(-1), (), rfl, (by unfold f_Md_pension; rw [if_neg c_1, if_neg c_2, if_pos c_3]), trivial⟩, by rw [hAe]; exact hS.F ht⟩) (by rw [hAe]; exact hS.2.2) d_Md_pension_9
      · by_cases c_4 : 9999 < p_1
        · refine hb_ti 0 (by unfold f_Md_isPension; rw [if_neg c_1, if_neg c_2, if_neg c_3, if_pos c_4]) ?_
          refine lv_if_ne (tgt := 10) hx hb d_Md_pension_5 (by decide) (fun h => absurd (by decide +kernel) h) (fun _ => ?_)
          refine lv_iconst (v := (-1)) hx hb d_Md_pension_8 (by decide +kernel) ?_
          refine W.widen (k := 0) (n := 0) (Nat.le_of_ble_eq_true rfl) (Nat.le_of_ble_eq_true rfl) ?_
          exact W.iret (v := (-1)) hx hb hr (fun t ht hW => ⟨⟨(-1), (), rfl, (by unfold f_Md_pension; rw [if_neg c_1, if_neg c_2, if_neg c_3, if_pos c_4]), trivial⟩, by rw [hAe]; exact hS.F ht⟩) (by rw [hAe]; exact hS.2.2) d_Md_pension_9
        · refine hb_ti 1 (by unfold f_Md_isPension; rw [if_neg c_1, if_neg c_2, if_neg c_3, if_neg c_4]) ?_
          refine lv_if_ne (tgt := 10) hx hb d_Md_pension_5 (by decide) (fun _ => ?_) (fun h => absurd h (by decide +kernel))
          refine lv_aload_n hx hb d_Md_pension_10 rfl (lv_at hl 0 rfl) ?_
          refine va_get (D := (dC, dI)) (ci := 7) (v := .int 0) (C := R_Md) (T := F_Md) (N := 64) hx hb htb i_Md hown hK hP 0 rfl rfl 60 (by decide) (htb (.fieldLink R_Md 323 "WaterMenModel" "pensioners" "I") tw_164) (fun _ h9 => h9) rfl d_Md_pension_11 ?_
          refine lv_bipush (v := 30) hx hb d_Md_pension_14 (by decide +kernel) ?_
          refine lv_icmp_ne (tgt := 24) hx hb d_Md_pension_16 (by decide) (fun _ => ?_) (fun h => absurd h (by decide +kernel))
          refine lv_aload_n hx hb d_Md_pension_24 rfl (lv_at hl 0 rfl) ?_
          refine lv_iload_n hx hb d_Md_pension_25 rfl (lv_at hl 1 rfl) ?_
          refine lv_iload_n hx hb d_Md_pension_26 rfl (lv_at hl 2 rfl) ?_
          have hFc := hb_free hD hS hA
          refine va_calli (va_runV (As := [.int p_0, .int p_1]) (rest := []) ⟨hx, hb, hml, hown, htb⟩ (c_Md_newPensioner l dC dI a k _ p_0 p_1) (cwV 2 htb (gd_V tw_168 tw_169 tw_170 tw_109 tw_167) rfl rfl rfl (by decide +kernel) ⟨Nat.le_of_ble_eq_true rfl, Nat.le_of_ble_eq_true rfl⟩) ⟨pc_blind, va_recv hK hP (ci := 7) (q0 := 0) rfl rfl, pc_pre hP hK hD hN⟩ rfl rfl hl.1 rfl (lv_room (Nat.le_of_ble_eq_true rfl)) d_Md_pension_27 ⟨Nat.le_of_ble_eq_true rfl, Nat.le_of_ble_eq_true rfl⟩) hS (fun q _ h => hFc q h) hFc (fun r u t H1 locs ht hvm er hB hz1 hk1 hS => ?_)
          subst er
          refine hb_ti 0 rfl ?_
          refine W.widen (k := 0) (n := 0) (Nat.le_of_ble_eq_true rfl) (Nat.le_of_ble_eq_true rfl) ?_
          exact W.iret (v := 0) hx hb hr (fun t ht hW => ⟨⟨0, (), rfl, (by unfold f_Md_pension; rw [if_neg c_1, if_neg c_2, if_neg c_3, if_neg c_4]), trivial⟩, by rw [hAe]; exact hS.F ht⟩) (by rw [hAe]; exact hS.2.2) d_Md_pension_30
def f_Md_foretold  : Int32 := (-2)
set_option maxHeartbeats 4000000 in
set_option maxRecDepth 100000 in
theorem c_Md_foretold (l : Launch) (dC : Nat → ClassId) (dI : Nat → Nat → Nat) (a : Nat → Nat) (k : Nat → ClassId)    : Met l y_Md_foretold (.code y_Md_foretold b_Md_foretold 8 (some .int) :: TB) ({ frames := 1, cells := 0, slots := 0, locals := 20 }) (va_Pc [.ref (a 0)] (PR dC dI (MW a k) (MT k))) (vp_Si (fun r => r = f_Md_foretold)) 0 0 (fun _ => False) := by
  refine Met.ofW (cc := b_Md_foretold) (maxL := 8) (ret := (some .int)) (by decide) rfl ?_
  intro p e s m args below meth c s₁ B hml hv
  obtain ⟨rfl, hP, hK, hN⟩ := hv
  have hx := B.exec
  have hb := B.bytes
  have hr := B.returns
  have hts := atoms_spec (ws := (.code y_Md_foretold b_Md_foretold 8 (some .int) :: TB)) B.pre
  have htb := fun w (h : w ∈ TB) => hts w (List.mem_cons_of_mem _ h)
  have hown : s.vm.findClass R_Md = some m.cls := findClass_of_methodNamed B.named
  have hlocks := B.notSynchronized
  have hl := lv_entry ([.ref (a 0)]) (n := 8) (Nat.le_of_ble_eq_true rfl)
  rw [lg_entry_eq]
  generalize (lg_sl ([.ref (a 0)]) ++ List.replicate (8 - (lg_sl ([.ref (a 0)])).length) Slot.unset).toArray = ls at hl ⊢
  have hl : lv_has ls 8 [(0, .ref (a 0))] := hl
  refine lv_lconst (v := 0) hx hb d_Md_foretold_0 (by decide +kernel) ?_
  refine lv_lstore_n (lv' := [(1, .long 0), (0, .ref (a 0))]) hx hb d_Md_foretold_1 rfl hl (by decide) rfl (fun ls hl => ?_)
  refine lv_aload_n hx hb d_Md_foretold_2 rfl (lv_at hl 1 rfl) ?_
  refine vp_callSi (va_Run.run (va_runV (As := []) (rest := []) ⟨hx, hb, hml, hown, htb⟩ (c_Md_today l dC dI a k) (cwV 0 htb (gd_V tw_118 tw_119 tw_120 tw_109 tw_117) rfl rfl rfl (by decide +kernel) ⟨Nat.le_of_ble_eq_true rfl, Nat.le_of_ble_eq_true rfl⟩) ⟨pr_blind, va_recv hK hP (ci := 7) (q0 := 0) rfl rfl, pr_pre hP hK hN⟩ rfl rfl hl.1 rfl (lv_room (Nat.le_of_ble_eq_true rfl)) d_Md_foretold_3 ⟨Nat.le_of_ble_eq_true rfl, Nat.le_of_ble_eq_true rfl⟩)) (fun r er => ?_)
  subst er
  refine hb_ti 0 rfl ?_
  refine lv_bipush (v := 100) hx hb d_Md_foretold_6 (by decide +kernel) ?_
  refine lv_icmp_ge (tgt := 15) hx hb d_Md_foretold_8 (by decide) (fun h => absurd h (by decide +kernel)) (fun _ => ?_)
  refine lv_iconst (v := 0) hx hb d_Md_foretold_11 (by decide +kernel) ?_
  refine lv_goto (tgt := 22) hx hb d_Md_foretold_12 (by decide) ?_
  refine lv_istore_n (lv' := [(3, .int 0), (1, .long 0), (0, .ref (a 0))]) hx hb d_Md_foretold_22 rfl hl (by decide) rfl (fun ls hl => ?_)
  refine lv_iload_n hx hb d_Md_foretold_23 rfl (lv_at hl 0 rfl) ?_
  refine lv_aload_n hx hb d_Md_foretold_24 rfl (lv_at hl 2 rfl) ?_
  refine vp_callSi (va_Run.run (va_runV (As := []) (rest := [.int 0]) ⟨hx, hb, hml, hown, htb⟩ (c_Md_today l dC dI a k) (cwV 0 htb (gd_V tw_118 tw_119 tw_120 tw_109 tw_117) rfl rfl rfl (by decide +kernel) ⟨Nat.le_of_ble_eq_true rfl, Nat.le_of_ble_eq_true rfl⟩) ⟨pr_blind, va_recv hK hP (ci := 7) (q0 := 0) rfl rfl, pr_pre hP hK hN⟩ rfl rfl hl.1 rfl (lv_room (Nat.le_of_ble_eq_true rfl)) d_Md_foretold_25 ⟨Nat.le_of_ble_eq_true rfl, Nat.le_of_ble_eq_true rfl⟩)) (fun r er => ?_)
  subst er
  refine hb_ti 0 rfl ?_
  refine lv_icmp_gt (tgt := 46) hx hb d_Md_foretold_28 (by decide) (fun h => absurd h (by decide +kernel)) (fun _ => ?_)
  refine lv_lload_n hx hb d_Md_foretold_31 rfl (lv_at hl 1 rfl) ?_
  refine lv_aload_n hx hb d_Md_foretold_32 rfl (lv_at hl 2 rfl) ?_
  refine va_get (D := (dC, dI)) (ci := 7) (v := .ref (a 44)) (C := R_Md) (T := F_Md) (N := 64) hx hb htb i_Md hown hK hP 0 rfl rfl 59 (by decide) (htb (.fieldLink R_Md 173 "WaterMenModel" "boxIn" "[J") tw_171) (fun _ h9 => h9) rfl d_Md_foretold_33 ?_
  refine lv_iload_n hx hb d_Md_foretold_36 rfl (lv_at hl 0 rfl) ?_
  refine va_lald hx hb hK hP 44 43 rfl rfl (by unfold vp_in; decide +kernel) d_Md_foretold_37 ?_
  refine hb_tl 0 rfl ?_
  refine lv_ladd hx hb d_Md_foretold_38 ?_
  refine hb_tl 0 (by decide +kernel) ?_
  refine lv_lstore_n (lv' := [(1, .long 0), (3, .int 0), (0, .ref (a 0))]) hx hb d_Md_foretold_39 rfl hl (by decide) rfl (fun ls hl => ?_)
  refine lv_iinc (v := 1) (lv' := [(3, .int 1), (1, .long 0), (0, .ref (a 0))]) hx hb d_Md_foretold_40 hl (k := 1) rfl (by decide +kernel) (by decide) rfl (fun ls hl => ?_)
  refine lv_goto (tgt := 23) hx hb d_Md_foretold_43 (by decide) ?_
  refine lv_iload_n hx hb d_Md_foretold_23 rfl (lv_at hl 0 rfl) ?_
  refine lv_aload_n hx hb d_Md_foretold_24 rfl (lv_at hl 2 rfl) ?_
  refine vp_callSi (va_Run.run (va_runV (As := []) (rest := [.int 1]) ⟨hx, hb, hml, hown, htb⟩ (c_Md_today l dC dI a k) (cwV 0 htb (gd_V tw_118 tw_119 tw_120 tw_109 tw_117) rfl rfl rfl (by decide +kernel) ⟨Nat.le_of_ble_eq_true rfl, Nat.le_of_ble_eq_true rfl⟩) ⟨pr_blind, va_recv hK hP (ci := 7) (q0 := 0) rfl rfl, pr_pre hP hK hN⟩ rfl rfl hl.1 rfl (lv_room (Nat.le_of_ble_eq_true rfl)) d_Md_foretold_25 ⟨Nat.le_of_ble_eq_true rfl, Nat.le_of_ble_eq_true rfl⟩)) (fun r er => ?_)
  subst er
  refine hb_ti 0 rfl ?_
  refine lv_icmp_gt (tgt := 46) hx hb d_Md_foretold_28 (by decide) (fun _ => ?_) (fun h => absurd (by decide +kernel) h)
  refine lv_aload_n hx hb d_Md_foretold_46 rfl (lv_at hl 2 rfl) ?_
  refine va_get (D := (dC, dI)) (ci := 7) (v := .long 0) (C := R_Md) (T := F_Md) (N := 64) hx hb htb i_Md hown hK hP 0 rfl rfl 56 (by decide) (htb (.fieldLink R_Md 316 "WaterMenModel" "box" "J") tw_172) (fun _ h9 => h9) rfl d_Md_foretold_47 ?_
  refine lv_lstore_n (lv' := [(3, .long 0), (1, .long 0), (0, .ref (a 0))]) hx hb d_Md_foretold_50 rfl hl (by decide) rfl (fun ls hl => ?_)
  refine lv_iconst (v := 1) hx hb d_Md_foretold_51 (by decide +kernel) ?_
  refine lv_istore (lv' := [(5, .int 1), (3, .long 0), (1, .long 0), (0, .ref (a 0))]) hx hb d_Md_foretold_52 hl (by decide) rfl (fun ls hl => ?_)
  refine lv_iload hx hb d_Md_foretold_54 (lv_at hl 0 rfl) ?_
  refine lv_bipush (v := 40) hx hb d_Md_foretold_56 (by decide +kernel) ?_
  refine lv_icmp_gt (tgt := 146) hx hb d_Md_foretold_58 (by decide) (fun h => absurd h (by decide +kernel)) (fun _ => ?_)
  refine lv_aload_n hx hb d_Md_foretold_61 rfl (lv_at hl 3 rfl) ?_
  refine vp_callSi (va_Run.run (va_runV (As := []) (rest := []) ⟨hx, hb, hml, hown, htb⟩ (c_Md_today l dC dI a k) (cwV 0 htb (gd_V tw_118 tw_119 tw_120 tw_109 tw_117) rfl rfl rfl (by decide +kernel) ⟨Nat.le_of_ble_eq_true rfl, Nat.le_of_ble_eq_true rfl⟩) ⟨pr_blind, va_recv hK hP (ci := 7) (q0 := 0) rfl rfl, pr_pre hP hK hN⟩ rfl rfl hl.1 rfl (lv_room (Nat.le_of_ble_eq_true rfl)) d_Md_foretold_62 ⟨Nat.le_of_ble_eq_true rfl, Nat.le_of_ble_eq_true rfl⟩)) (fun r er => ?_)
  subst er
  refine hb_ti 0 rfl ?_
  refine lv_bipush (v := 100) hx hb d_Md_foretold_65 (by decide +kernel) ?_
  refine lv_idiv hx hb d_Md_foretold_67 (by decide) ?_
  refine hb_ti 0 (by decide +kernel) ?_
  refine lv_iload hx hb d_Md_foretold_68 (lv_at hl 0 rfl) ?_
  refine lv_iadd hx hb d_Md_foretold_70 ?_
  refine hb_ti 1 (by decide +kernel) ?_
  refine lv_bipush (v := 100) hx hb d_Md_foretold_71 (by decide +kernel) ?_
  refine lv_imul hx hb d_Md_foretold_73 ?_
  refine hb_ti 100 (by decide +kernel) ?_
  refine lv_istore (lv' := [(6, .int 100), (5, .int 1), (3, .long 0), (1, .long 0), (0, .ref (a 0))]) hx hb d_Md_foretold_74 hl (by decide) rfl (fun ls hl => ?_)
  refine lv_lload_n hx hb d_Md_foretold_76 rfl (lv_at hl 2 rfl) ?_
  refine lv_lload_n hx hb d_Md_foretold_77 rfl (lv_at hl 3 rfl) ?_
  refine lv_ladd hx hb d_Md_foretold_78 ?_
  refine hb_tl 0 (by decide +kernel) ?_
  refine lv_lstore_n (lv' := [(3, .long 0), (6, .int 100), (5, .int 1), (1, .long 0), (0, .ref (a 0))]) hx hb d_Md_foretold_79 rfl hl (by decide) rfl (fun ls hl => ?_)
  refine lv_iconst (v := 0) hx hb d_Md_foretold_80 (by decide +kernel) ?_
  refine lv_istore (lv' := [(7, .int 0), (3, .long 0), (6, .int 100), (5, .int 1), (1, .long 0), (0, .ref (a 0))]) hx hb d_Md_foretold_81 hl (by decide) rfl (fun ls hl => ?_)
  refine lv_iload hx hb d_Md_foretold_83 (lv_at hl 0 rfl) ?_
  refine lv_aload_n hx hb d_Md_foretold_85 rfl (lv_at hl 5 rfl) ?_
  refine va_get (D := (dC, dI)) (ci := 7) (v := .int 0) (C := R_Md) (T := F_Md) (N := 64) hx hb htb i_Md hown hK hP 0 rfl rfl 60 (by decide) (htb (.fieldLink R_Md 323 "WaterMenModel" "pensioners" "I") tw_164) (fun _ h9 => h9) rfl d_Md_foretold_86 ?_
  refine lv_icmp_ge (tgt := 140) hx hb d_Md_foretold_89 (by decide) (fun _ => ?_) (fun h => absurd (by decide +kernel) h)
  refine lv_iinc (v := 2) (lv' := [(5, .int 2), (7, .int 0), (3, .long 0), (6, .int 100), (1, .long 0), (0, .ref (a 0))]) hx hb d_Md_foretold_140 hl (k := 3) rfl (by decide +kernel) (by decide) rfl (fun ls hl => ?_)
  refine lv_goto (tgt := 54) hx hb d_Md_foretold_143 (by decide) ?_
  refine lv_iload hx hb d_Md_foretold_54 (lv_at hl 0 rfl) ?_
  refine lv_bipush (v := 40) hx hb d_Md_foretold_56 (by decide +kernel) ?_
  refine lv_icmp_gt (tgt := 146) hx hb d_Md_foretold_58 (by decide) (fun h => absurd h (by decide +kernel)) (fun _ => ?_)
  refine lv_aload_n hx hb d_Md_foretold_61 rfl (lv_at hl 5 rfl) ?_
  refine vp_callSi (va_Run.run (va_runV (As := []) (rest := []) ⟨hx, hb, hml, hown, htb⟩ (c_Md_today l dC dI a k) (cwV 0 htb (gd_V tw_118 tw_119 tw_120 tw_109 tw_117) rfl rfl rfl (by decide +kernel) ⟨Nat.le_of_ble_eq_true rfl, Nat.le_of_ble_eq_true rfl⟩) ⟨pr_blind, va_recv hK hP (ci := 7) (q0 := 0) rfl rfl, pr_pre hP hK hN⟩ rfl rfl hl.1 rfl (lv_room (Nat.le_of_ble_eq_true rfl)) d_Md_foretold_62 ⟨Nat.le_of_ble_eq_true rfl, Nat.le_of_ble_eq_true rfl⟩)) (fun r er => ?_)
  subst er
  refine hb_ti 0 rfl ?_
  refine lv_bipush (v := 100) hx hb d_Md_foretold_65 (by decide +kernel) ?_
  refine lv_idiv hx hb d_Md_foretold_67 (by decide) ?_
  refine hb_ti 0 (by decide +kernel) ?_
  refine lv_iload hx hb d_Md_foretold_68 (lv_at hl 0 rfl) ?_
  refine lv_iadd hx hb d_Md_foretold_70 ?_
  refine hb_ti 2 (by decide +kernel) ?_
  refine lv_bipush (v := 100) hx hb d_Md_foretold_71 (by decide +kernel) ?_
  refine lv_imul hx hb d_Md_foretold_73 ?_
  refine hb_ti 200 (by decide +kernel) ?_
  refine lv_istore (lv' := [(6, .int 200), (5, .int 2), (7, .int 0), (3, .long 0), (1, .long 0), (0, .ref (a 0))]) hx hb d_Md_foretold_74 hl (by decide) rfl (fun ls hl => ?_)
  refine lv_lload_n hx hb d_Md_foretold_76 rfl (lv_at hl 3 rfl) ?_
  refine lv_lload_n hx hb d_Md_foretold_77 rfl (lv_at hl 4 rfl) ?_
  refine lv_ladd hx hb d_Md_foretold_78 ?_
  refine hb_tl 0 (by decide +kernel) ?_
  refine lv_lstore_n (lv' := [(3, .long 0), (6, .int 200), (5, .int 2), (7, .int 0), (1, .long 0), (0, .ref (a 0))]) hx hb d_Md_foretold_79 rfl hl (by decide) rfl (fun ls hl => ?_)
  refine lv_iconst (v := 0) hx hb d_Md_foretold_80 (by decide +kernel) ?_
  refine lv_istore (lv' := [(7, .int 0), (3, .long 0), (6, .int 200), (5, .int 2), (1, .long 0), (0, .ref (a 0))]) hx hb d_Md_foretold_81 hl (by decide) rfl (fun ls hl => ?_)
  refine lv_iload hx hb d_Md_foretold_83 (lv_at hl 0 rfl) ?_
  refine lv_aload_n hx hb d_Md_foretold_85 rfl (lv_at hl 5 rfl) ?_
  refine va_get (D := (dC, dI)) (ci := 7) (v := .int 0) (C := R_Md) (T := F_Md) (N := 64) hx hb htb i_Md hown hK hP 0 rfl rfl 60 (by decide) (htb (.fieldLink R_Md 323 "WaterMenModel" "pensioners" "I") tw_164) (fun _ h9 => h9) rfl d_Md_foretold_86 ?_
  refine lv_icmp_ge (tgt := 140) hx hb d_Md_foretold_89 (by decide) (fun _ => ?_) (fun h => absurd (by decide +kernel) h)
  refine lv_iinc (v := 3) (lv' := [(5, .int 3), (7, .int 0), (3, .long 0), (6, .int 200), (1, .long 0), (0, .ref (a 0))]) hx hb d_Md_foretold_140 hl (k := 3) rfl (by decide +kernel) (by decide) rfl (fun ls hl => ?_)
  refine lv_goto (tgt := 54) hx hb d_Md_foretold_143 (by decide) ?_
  refine lv_iload hx hb d_Md_foretold_54 (lv_at hl 0 rfl) ?_
  refine lv_bipush (v := 40) hx hb d_Md_foretold_56 (by decide +kernel) ?_
  refine lv_icmp_gt (tgt := 146) hx hb d_Md_foretold_58 (by decide) (fun h => absurd h (by decide +kernel)) (fun _ => ?_)
  refine lv_aload_n hx hb d_Md_foretold_61 rfl (lv_at hl 5 rfl) ?_
  refine vp_callSi (va_Run.run (va_runV (As := []) (rest := []) ⟨hx, hb, hml, hown, htb⟩ (c_Md_today l dC dI a k) (cwV 0 htb (gd_V tw_118 tw_119 tw_120 tw_109 tw_117) rfl rfl rfl (by decide +kernel) ⟨Nat.le_of_ble_eq_true rfl, Nat.le_of_ble_eq_true rfl⟩) ⟨pr_blind, va_recv hK hP (ci := 7) (q0 := 0) rfl rfl, pr_pre hP hK hN⟩ rfl rfl hl.1 rfl (lv_room (Nat.le_of_ble_eq_true rfl)) d_Md_foretold_62 ⟨Nat.le_of_ble_eq_true rfl, Nat.le_of_ble_eq_true rfl⟩)) (fun r er => ?_)
  subst er
  refine hb_ti 0 rfl ?_
  refine lv_bipush (v := 100) hx hb d_Md_foretold_65 (by decide +kernel) ?_
  refine lv_idiv hx hb d_Md_foretold_67 (by decide) ?_
  refine hb_ti 0 (by decide +kernel) ?_
  refine lv_iload hx hb d_Md_foretold_68 (lv_at hl 0 rfl) ?_
  refine lv_iadd hx hb d_Md_foretold_70 ?_
  refine hb_ti 3 (by decide +kernel) ?_
  refine lv_bipush (v := 100) hx hb d_Md_foretold_71 (by decide +kernel) ?_
  refine lv_imul hx hb d_Md_foretold_73 ?_
  refine hb_ti 300 (by decide +kernel) ?_
  refine lv_istore (lv' := [(6, .int 300), (5, .int 3), (7, .int 0), (3, .long 0), (1, .long 0), (0, .ref (a 0))]) hx hb d_Md_foretold_74 hl (by decide) rfl (fun ls hl => ?_)
  refine lv_lload_n hx hb d_Md_foretold_76 rfl (lv_at hl 3 rfl) ?_
  refine lv_lload_n hx hb d_Md_foretold_77 rfl (lv_at hl 4 rfl) ?_
  refine lv_ladd hx hb d_Md_foretold_78 ?_
  refine hb_tl 0 (by decide +kernel) ?_
  refine lv_lstore_n (lv' := [(3, .long 0), (6, .int 300), (5, .int 3), (7, .int 0), (1, .long 0), (0, .ref (a 0))]) hx hb d_Md_foretold_79 rfl hl (by decide) rfl (fun ls hl => ?_)
  refine lv_iconst (v := 0) hx hb d_Md_foretold_80 (by decide +kernel) ?_
  refine lv_istore (lv' := [(7, .int 0), (3, .long 0), (6, .int 300), (5, .int 3), (1, .long 0), (0, .ref (a 0))]) hx hb d_Md_foretold_81 hl (by decide) rfl (fun ls hl => ?_)
  refine lv_iload hx hb d_Md_foretold_83 (lv_at hl 0 rfl) ?_
  refine lv_aload_n hx hb d_Md_foretold_85 rfl (lv_at hl 5 rfl) ?_
  refine va_get (D := (dC, dI)) (ci := 7) (v := .int 0) (C := R_Md) (T := F_Md) (N := 64) hx hb htb i_Md hown hK hP 0 rfl rfl 60 (by decide) (htb (.fieldLink R_Md 323 "WaterMenModel" "pensioners" "I") tw_164) (fun _ h9 => h9) rfl d_Md_foretold_86 ?_
  refine lv_icmp_ge (tgt := 140) hx hb d_Md_foretold_89 (by decide) (fun _ => ?_) (fun h => absurd (by decide +kernel) h)
  refine lv_iinc (v := 4) (lv' := [(5, .int 4), (7, .int 0), (3, .long 0), (6, .int 300), (1, .long 0), (0, .ref (a 0))]) hx hb d_Md_foretold_140 hl (k := 3) rfl (by decide +kernel) (by decide) rfl (fun ls hl => ?_)
  refine lv_goto (tgt := 54) hx hb d_Md_foretold_143 (by decide) ?_
  refine lv_iload hx hb d_Md_foretold_54 (lv_at hl 0 rfl) ?_
  refine lv_bipush (v := 40) hx hb d_Md_foretold_56 (by decide +kernel) ?_
  refine lv_icmp_gt (tgt := 146) hx hb d_Md_foretold_58 (by decide) (fun h => absurd h (by decide +kernel)) (fun _ => ?_)
  refine lv_aload_n hx hb d_Md_foretold_61 rfl (lv_at hl 5 rfl) ?_
  refine vp_callSi (va_Run.run (va_runV (As := []) (rest := []) ⟨hx, hb, hml, hown, htb⟩ (c_Md_today l dC dI a k) (cwV 0 htb (gd_V tw_118 tw_119 tw_120 tw_109 tw_117) rfl rfl rfl (by decide +kernel) ⟨Nat.le_of_ble_eq_true rfl, Nat.le_of_ble_eq_true rfl⟩) ⟨pr_blind, va_recv hK hP (ci := 7) (q0 := 0) rfl rfl, pr_pre hP hK hN⟩ rfl rfl hl.1 rfl (lv_room (Nat.le_of_ble_eq_true rfl)) d_Md_foretold_62 ⟨Nat.le_of_ble_eq_true rfl, Nat.le_of_ble_eq_true rfl⟩)) (fun r er => ?_)
  subst er
  refine hb_ti 0 rfl ?_
  refine lv_bipush (v := 100) hx hb d_Md_foretold_65 (by decide +kernel) ?_
  refine lv_idiv hx hb d_Md_foretold_67 (by decide) ?_
  refine hb_ti 0 (by decide +kernel) ?_
  refine lv_iload hx hb d_Md_foretold_68 (lv_at hl 0 rfl) ?_
  refine lv_iadd hx hb d_Md_foretold_70 ?_
  refine hb_ti 4 (by decide +kernel) ?_
  refine lv_bipush (v := 100) hx hb d_Md_foretold_71 (by decide +kernel) ?_
  refine lv_imul hx hb d_Md_foretold_73 ?_
  refine hb_ti 400 (by decide +kernel) ?_
  refine lv_istore (lv' := [(6, .int 400), (5, .int 4), (7, .int 0), (3, .long 0), (1, .long 0), (0, .ref (a 0))]) hx hb d_Md_foretold_74 hl (by decide) rfl (fun ls hl => ?_)
  refine lv_lload_n hx hb d_Md_foretold_76 rfl (lv_at hl 3 rfl) ?_
  refine lv_lload_n hx hb d_Md_foretold_77 rfl (lv_at hl 4 rfl) ?_
  refine lv_ladd hx hb d_Md_foretold_78 ?_
  refine hb_tl 0 (by decide +kernel) ?_
  refine lv_lstore_n (lv' := [(3, .long 0), (6, .int 400), (5, .int 4), (7, .int 0), (1, .long 0), (0, .ref (a 0))]) hx hb d_Md_foretold_79 rfl hl (by decide) rfl (fun ls hl => ?_)
  refine lv_iconst (v := 0) hx hb d_Md_foretold_80 (by decide +kernel) ?_
  refine lv_istore (lv' := [(7, .int 0), (3, .long 0), (6, .int 400), (5, .int 4), (1, .long 0), (0, .ref (a 0))]) hx hb d_Md_foretold_81 hl (by decide) rfl (fun ls hl => ?_)
  refine lv_iload hx hb d_Md_foretold_83 (lv_at hl 0 rfl) ?_
  refine lv_aload_n hx hb d_Md_foretold_85 rfl (lv_at hl 5 rfl) ?_
  refine va_get (D := (dC, dI)) (ci := 7) (v := .int 0) (C := R_Md) (T := F_Md) (N := 64) hx hb htb i_Md hown hK hP 0 rfl rfl 60 (by decide) (htb (.fieldLink R_Md 323 "WaterMenModel" "pensioners" "I") tw_164) (fun _ h9 => h9) rfl d_Md_foretold_86 ?_
  refine lv_icmp_ge (tgt := 140) hx hb d_Md_foretold_89 (by decide) (fun _ => ?_) (fun h => absurd (by decide +kernel) h)
  refine lv_iinc (v := 5) (lv' := [(5, .int 5), (7, .int 0), (3, .long 0), (6, .int 400), (1, .long 0), (0, .ref (a 0))]) hx hb d_Md_foretold_140 hl (k := 3) rfl (by decide +kernel) (by decide) rfl (fun ls hl => ?_)
  refine lv_goto (tgt := 54) hx hb d_Md_foretold_143 (by decide) ?_
  refine lv_iload hx hb d_Md_foretold_54 (lv_at hl 0 rfl) ?_
  refine lv_bipush (v := 40) hx hb d_Md_foretold_56 (by decide +kernel) ?_
  refine lv_icmp_gt (tgt := 146) hx hb d_Md_foretold_58 (by decide) (fun h => absurd h (by decide +kernel)) (fun _ => ?_)
  refine lv_aload_n hx hb d_Md_foretold_61 rfl (lv_at hl 5 rfl) ?_
  refine vp_callSi (va_Run.run (va_runV (As := []) (rest := []) ⟨hx, hb, hml, hown, htb⟩ (c_Md_today l dC dI a k) (cwV 0 htb (gd_V tw_118 tw_119 tw_120 tw_109 tw_117) rfl rfl rfl (by decide +kernel) ⟨Nat.le_of_ble_eq_true rfl, Nat.le_of_ble_eq_true rfl⟩) ⟨pr_blind, va_recv hK hP (ci := 7) (q0 := 0) rfl rfl, pr_pre hP hK hN⟩ rfl rfl hl.1 rfl (lv_room (Nat.le_of_ble_eq_true rfl)) d_Md_foretold_62 ⟨Nat.le_of_ble_eq_true rfl, Nat.le_of_ble_eq_true rfl⟩)) (fun r er => ?_)
  subst er
  refine hb_ti 0 rfl ?_
  refine lv_bipush (v := 100) hx hb d_Md_foretold_65 (by decide +kernel) ?_
  refine lv_idiv hx hb d_Md_foretold_67 (by decide) ?_
  refine hb_ti 0 (by decide +kernel) ?_
  refine lv_iload hx hb d_Md_foretold_68 (lv_at hl 0 rfl) ?_
  refine lv_iadd hx hb d_Md_foretold_70 ?_
  refine hb_ti 5 (by decide +kernel) ?_
  refine lv_bipush (v := 100) hx hb d_Md_foretold_71 (by decide +kernel) ?_
  refine lv_imul hx hb d_Md_foretold_73 ?_
  refine hb_ti 500 (by decide +kernel) ?_
  refine lv_istore (lv' := [(6, .int 500), (5, .int 5), (7, .int 0), (3, .long 0), (1, .long 0), (0, .ref (a 0))]) hx hb d_Md_foretold_74 hl (by decide) rfl (fun ls hl => ?_)
  refine lv_lload_n hx hb d_Md_foretold_76 rfl (lv_at hl 3 rfl) ?_
  refine lv_lload_n hx hb d_Md_foretold_77 rfl (lv_at hl 4 rfl) ?_
  refine lv_ladd hx hb d_Md_foretold_78 ?_
  refine hb_tl 0 (by decide +kernel) ?_
  refine lv_lstore_n (lv' := [(3, .long 0), (6, .int 500), (5, .int 5), (7, .int 0), (1, .long 0), (0, .ref (a 0))]) hx hb d_Md_foretold_79 rfl hl (by decide) rfl (fun ls hl => ?_)
  refine lv_iconst (v := 0) hx hb d_Md_foretold_80 (by decide +kernel) ?_
  refine lv_istore (lv' := [(7, .int 0), (3, .long 0), (6, .int 500), (5, .int 5), (1, .long 0), (0, .ref (a 0))]) hx hb d_Md_foretold_81 hl (by decide) rfl (fun ls hl => ?_)
  refine lv_iload hx hb d_Md_foretold_83 (lv_at hl 0 rfl) ?_
  refine lv_aload_n hx hb d_Md_foretold_85 rfl (lv_at hl 5 rfl) ?_
  refine va_get (D := (dC, dI)) (ci := 7) (v := .int 0) (C := R_Md) (T := F_Md) (N := 64) hx hb htb i_Md hown hK hP 0 rfl rfl 60 (by decide) (htb (.fieldLink R_Md 323 "WaterMenModel" "pensioners" "I") tw_164) (fun _ h9 => h9) rfl d_Md_foretold_86 ?_
  refine lv_icmp_ge (tgt := 140) hx hb d_Md_foretold_89 (by decide) (fun _ => ?_) (fun h => absurd (by decide +kernel) h)
  refine lv_iinc (v := 6) (lv' := [(5, .int 6), (7, .int 0), (3, .long 0), (6, .int 500), (1, .long 0), (0, .ref (a 0))]) hx hb d_Md_foretold_140 hl (k := 3) rfl (by decide +kernel) (by decide) rfl (fun ls hl => ?_)
  refine lv_goto (tgt := 54) hx hb d_Md_foretold_143 (by decide) ?_
  refine lv_iload hx hb d_Md_foretold_54 (lv_at hl 0 rfl) ?_
  refine lv_bipush (v := 40) hx hb d_Md_foretold_56 (by decide +kernel) ?_
  refine lv_icmp_gt (tgt := 146) hx hb d_Md_foretold_58 (by decide) (fun h => absurd h (by decide +kernel)) (fun _ => ?_)
  refine lv_aload_n hx hb d_Md_foretold_61 rfl (lv_at hl 5 rfl) ?_
  refine vp_callSi (va_Run.run (va_runV (As := []) (rest := []) ⟨hx, hb, hml, hown, htb⟩ (c_Md_today l dC dI a k) (cwV 0 htb (gd_V tw_118 tw_119 tw_120 tw_109 tw_117) rfl rfl rfl (by decide +kernel) ⟨Nat.le_of_ble_eq_true rfl, Nat.le_of_ble_eq_true rfl⟩) ⟨pr_blind, va_recv hK hP (ci := 7) (q0 := 0) rfl rfl, pr_pre hP hK hN⟩ rfl rfl hl.1 rfl (lv_room (Nat.le_of_ble_eq_true rfl)) d_Md_foretold_62 ⟨Nat.le_of_ble_eq_true rfl, Nat.le_of_ble_eq_true rfl⟩)) (fun r er => ?_)
  subst er
  refine hb_ti 0 rfl ?_
  refine lv_bipush (v := 100) hx hb d_Md_foretold_65 (by decide +kernel) ?_
  refine lv_idiv hx hb d_Md_foretold_67 (by decide) ?_
  refine hb_ti 0 (by decide +kernel) ?_
  refine lv_iload hx hb d_Md_foretold_68 (lv_at hl 0 rfl) ?_
  refine lv_iadd hx hb d_Md_foretold_70 ?_
  refine hb_ti 6 (by decide +kernel) ?_
  refine lv_bipush (v := 100) hx hb d_Md_foretold_71 (by decide +kernel) ?_
  refine lv_imul hx hb d_Md_foretold_73 ?_
  refine hb_ti 600 (by decide +kernel) ?_
  refine lv_istore (lv' := [(6, .int 600), (5, .int 6), (7, .int 0), (3, .long 0), (1, .long 0), (0, .ref (a 0))]) hx hb d_Md_foretold_74 hl (by decide) rfl (fun ls hl => ?_)
  refine lv_lload_n hx hb d_Md_foretold_76 rfl (lv_at hl 3 rfl) ?_
  refine lv_lload_n hx hb d_Md_foretold_77 rfl (lv_at hl 4 rfl) ?_
  refine lv_ladd hx hb d_Md_foretold_78 ?_
  refine hb_tl 0 (by decide +kernel) ?_
  refine lv_lstore_n (lv' := [(3, .long 0), (6, .int 600), (5, .int 6), (7, .int 0), (1, .long 0), (0, .ref (a 0))]) hx hb d_Md_foretold_79 rfl hl (by decide) rfl (fun ls hl => ?_)
  refine lv_iconst (v := 0) hx hb d_Md_foretold_80 (by decide +kernel) ?_
  refine lv_istore (lv' := [(7, .int 0), (3, .long 0), (6, .int 600), (5, .int 6), (1, .long 0), (0, .ref (a 0))]) hx hb d_Md_foretold_81 hl (by decide) rfl (fun ls hl => ?_)
  refine lv_iload hx hb d_Md_foretold_83 (lv_at hl 0 rfl) ?_
  refine lv_aload_n hx hb d_Md_foretold_85 rfl (lv_at hl 5 rfl) ?_
  refine va_get (D := (dC, dI)) (ci := 7) (v := .int 0) (C := R_Md) (T := F_Md) (N := 64) hx hb htb i_Md hown hK hP 0 rfl rfl 60 (by decide) (htb (.fieldLink R_Md 323 "WaterMenModel" "pensioners" "I") tw_164) (fun _ h9 => h9) rfl d_Md_foretold_86 ?_
  refine lv_icmp_ge (tgt := 140) hx hb d_Md_foretold_89 (by decide) (fun _ => ?_) (fun h => absurd (by decide +kernel) h)
  refine lv_iinc (v := 7) (lv' := [(5, .int 7), (7, .int 0), (3, .long 0), (6, .int 600), (1, .long 0), (0, .ref (a 0))]) hx hb d_Md_foretold_140 hl (k := 3) rfl (by decide +kernel) (by decide) rfl (fun ls hl => ?_)
  refine lv_goto (tgt := 54) hx hb d_Md_foretold_143 (by decide) ?_
  refine lv_iload hx hb d_Md_foretold_54 (lv_at hl 0 rfl) ?_
  refine lv_bipush (v := 40) hx hb d_Md_foretold_56 (by decide +kernel) ?_
  refine lv_icmp_gt (tgt := 146) hx hb d_Md_foretold_58 (by decide) (fun h => absurd h (by decide +kernel)) (fun _ => ?_)
  refine lv_aload_n hx hb d_Md_foretold_61 rfl (lv_at hl 5 rfl) ?_
  refine vp_callSi (va_Run.run (va_runV (As := []) (rest := []) ⟨hx, hb, hml, hown, htb⟩ (c_Md_today l dC dI a k) (cwV 0 htb (gd_V tw_118 tw_119 tw_120 tw_109 tw_117) rfl rfl rfl (by decide +kernel) ⟨Nat.le_of_ble_eq_true rfl, Nat.le_of_ble_eq_true rfl⟩) ⟨pr_blind, va_recv hK hP (ci := 7) (q0 := 0) rfl rfl, pr_pre hP hK hN⟩ rfl rfl hl.1 rfl (lv_room (Nat.le_of_ble_eq_true rfl)) d_Md_foretold_62 ⟨Nat.le_of_ble_eq_true rfl, Nat.le_of_ble_eq_true rfl⟩)) (fun r er => ?_)
  subst er
  refine hb_ti 0 rfl ?_
  refine lv_bipush (v := 100) hx hb d_Md_foretold_65 (by decide +kernel) ?_
  refine lv_idiv hx hb d_Md_foretold_67 (by decide) ?_
  refine hb_ti 0 (by decide +kernel) ?_
  refine lv_iload hx hb d_Md_foretold_68 (lv_at hl 0 rfl) ?_
  refine lv_iadd hx hb d_Md_foretold_70 ?_
  refine hb_ti 7 (by decide +kernel) ?_
  refine lv_bipush (v := 100) hx hb d_Md_foretold_71 (by decide +kernel) ?_
  refine lv_imul hx hb d_Md_foretold_73 ?_
  refine hb_ti 700 (by decide +kernel) ?_
  refine lv_istore (lv' := [(6, .int 700), (5, .int 7), (7, .int 0), (3, .long 0), (1, .long 0), (0, .ref (a 0))]) hx hb d_Md_foretold_74 hl (by decide) rfl (fun ls hl => ?_)
  refine lv_lload_n hx hb d_Md_foretold_76 rfl (lv_at hl 3 rfl) ?_
  refine lv_lload_n hx hb d_Md_foretold_77 rfl (lv_at hl 4 rfl) ?_
  refine lv_ladd hx hb d_Md_foretold_78 ?_
  refine hb_tl 0 (by decide +kernel) ?_
  refine lv_lstore_n (lv' := [(3, .long 0), (6, .int 700), (5, .int 7), (7, .int 0), (1, .long 0), (0, .ref (a 0))]) hx hb d_Md_foretold_79 rfl hl (by decide) rfl (fun ls hl => ?_)
  refine lv_iconst (v := 0) hx hb d_Md_foretold_80 (by decide +kernel) ?_
  refine lv_istore (lv' := [(7, .int 0), (3, .long 0), (6, .int 700), (5, .int 7), (1, .long 0), (0, .ref (a 0))]) hx hb d_Md_foretold_81 hl (by decide) rfl (fun ls hl => ?_)
  refine lv_iload hx hb d_Md_foretold_83 (lv_at hl 0 rfl) ?_
  refine lv_aload_n hx hb d_Md_foretold_85 rfl (lv_at hl 5 rfl) ?_
  refine va_get (D := (dC, dI)) (ci := 7) (v := .int 0) (C := R_Md) (T := F_Md) (N := 64) hx hb htb i_Md hown hK hP 0 rfl rfl 60 (by decide) (htb (.fieldLink R_Md 323 "WaterMenModel" "pensioners" "I") tw_164) (fun _ h9 => h9) rfl d_Md_foretold_86 ?_
  refine lv_icmp_ge (tgt := 140) hx hb d_Md_foretold_89 (by decide) (fun _ => ?_) (fun h => absurd (by decide +kernel) h)
  refine lv_iinc (v := 8) (lv' := [(5, .int 8), (7, .int 0), (3, .long 0), (6, .int 700), (1, .long 0), (0, .ref (a 0))]) hx hb d_Md_foretold_140 hl (k := 3) rfl (by decide +kernel) (by decide) rfl (fun ls hl => ?_)
  refine lv_goto (tgt := 54) hx hb d_Md_foretold_143 (by decide) ?_
  refine lv_iload hx hb d_Md_foretold_54 (lv_at hl 0 rfl) ?_
  refine lv_bipush (v := 40) hx hb d_Md_foretold_56 (by decide +kernel) ?_
  refine lv_icmp_gt (tgt := 146) hx hb d_Md_foretold_58 (by decide) (fun h => absurd h (by decide +kernel)) (fun _ => ?_)
  refine lv_aload_n hx hb d_Md_foretold_61 rfl (lv_at hl 5 rfl) ?_
  refine vp_callSi (va_Run.run (va_runV (As := []) (rest := []) ⟨hx, hb, hml, hown, htb⟩ (c_Md_today l dC dI a k) (cwV 0 htb (gd_V tw_118 tw_119 tw_120 tw_109 tw_117) rfl rfl rfl (by decide +kernel) ⟨Nat.le_of_ble_eq_true rfl, Nat.le_of_ble_eq_true rfl⟩) ⟨pr_blind, va_recv hK hP (ci := 7) (q0 := 0) rfl rfl, pr_pre hP hK hN⟩ rfl rfl hl.1 rfl (lv_room (Nat.le_of_ble_eq_true rfl)) d_Md_foretold_62 ⟨Nat.le_of_ble_eq_true rfl, Nat.le_of_ble_eq_true rfl⟩)) (fun r er => ?_)
  subst er
  refine hb_ti 0 rfl ?_
  refine lv_bipush (v := 100) hx hb d_Md_foretold_65 (by decide +kernel) ?_
  refine lv_idiv hx hb d_Md_foretold_67 (by decide) ?_
  refine hb_ti 0 (by decide +kernel) ?_
  refine lv_iload hx hb d_Md_foretold_68 (lv_at hl 0 rfl) ?_
  refine lv_iadd hx hb d_Md_foretold_70 ?_
  refine hb_ti 8 (by decide +kernel) ?_
  refine lv_bipush (v := 100) hx hb d_Md_foretold_71 (by decide +kernel) ?_
  refine lv_imul hx hb d_Md_foretold_73 ?_
  refine hb_ti 800 (by decide +kernel) ?_
  refine lv_istore (lv' := [(6, .int 800), (5, .int 8), (7, .int 0), (3, .long 0), (1, .long 0), (0, .ref (a 0))]) hx hb d_Md_foretold_74 hl (by decide) rfl (fun ls hl => ?_)
  refine lv_lload_n hx hb d_Md_foretold_76 rfl (lv_at hl 3 rfl) ?_
  refine lv_lload_n hx hb d_Md_foretold_77 rfl (lv_at hl 4 rfl) ?_
  refine lv_ladd hx hb d_Md_foretold_78 ?_
  refine hb_tl 0 (by decide +kernel) ?_
  refine lv_lstore_n (lv' := [(3, .long 0), (6, .int 800), (5, .int 8), (7, .int 0), (1, .long 0), (0, .ref (a 0))]) hx hb d_Md_foretold_79 rfl hl (by decide) rfl (fun ls hl => ?_)
  refine lv_iconst (v := 0) hx hb d_Md_foretold_80 (by decide +kernel) ?_
  refine lv_istore (lv' := [(7, .int 0), (3, .long 0), (6, .int 800), (5, .int 8), (1, .long 0), (0, .ref (a 0))]) hx hb d_Md_foretold_81 hl (by decide) rfl (fun ls hl => ?_)
  refine lv_iload hx hb d_Md_foretold_83 (lv_at hl 0 rfl) ?_
  refine lv_aload_n hx hb d_Md_foretold_85 rfl (lv_at hl 5 rfl) ?_
  refine va_get (D := (dC, dI)) (ci := 7) (v := .int 0) (C := R_Md) (T := F_Md) (N := 64) hx hb htb i_Md hown hK hP 0 rfl rfl 60 (by decide) (htb (.fieldLink R_Md 323 "WaterMenModel" "pensioners" "I") tw_164) (fun _ h9 => h9) rfl d_Md_foretold_86 ?_
  refine lv_icmp_ge (tgt := 140) hx hb d_Md_foretold_89 (by decide) (fun _ => ?_) (fun h => absurd (by decide +kernel) h)
  refine lv_iinc (v := 9) (lv' := [(5, .int 9), (7, .int 0), (3, .long 0), (6, .int 800), (1, .long 0), (0, .ref (a 0))]) hx hb d_Md_foretold_140 hl (k := 3) rfl (by decide +kernel) (by decide) rfl (fun ls hl => ?_)
  refine lv_goto (tgt := 54) hx hb d_Md_foretold_143 (by decide) ?_
  refine lv_iload hx hb d_Md_foretold_54 (lv_at hl 0 rfl) ?_
  refine lv_bipush (v := 40) hx hb d_Md_foretold_56 (by decide +kernel) ?_
  refine lv_icmp_gt (tgt := 146) hx hb d_Md_foretold_58 (by decide) (fun h => absurd h (by decide +kernel)) (fun _ => ?_)
  refine lv_aload_n hx hb d_Md_foretold_61 rfl (lv_at hl 5 rfl) ?_
  refine vp_callSi (va_Run.run (va_runV (As := []) (rest := []) ⟨hx, hb, hml, hown, htb⟩ (c_Md_today l dC dI a k) (cwV 0 htb (gd_V tw_118 tw_119 tw_120 tw_109 tw_117) rfl rfl rfl (by decide +kernel) ⟨Nat.le_of_ble_eq_true rfl, Nat.le_of_ble_eq_true rfl⟩) ⟨pr_blind, va_recv hK hP (ci := 7) (q0 := 0) rfl rfl, pr_pre hP hK hN⟩ rfl rfl hl.1 rfl (lv_room (Nat.le_of_ble_eq_true rfl)) d_Md_foretold_62 ⟨Nat.le_of_ble_eq_true rfl, Nat.le_of_ble_eq_true rfl⟩)) (fun r er => ?_)
  subst er
  refine hb_ti 0 rfl ?_
  refine lv_bipush (v := 100) hx hb d_Md_foretold_65 (by decide +kernel) ?_
  refine lv_idiv hx hb d_Md_foretold_67 (by decide) ?_
  refine hb_ti 0 (by decide +kernel) ?_
  refine lv_iload hx hb d_Md_foretold_68 (lv_at hl 0 rfl) ?_
  refine lv_iadd hx hb d_Md_foretold_70 ?_
  refine hb_ti 9 (by decide +kernel) ?_
  refine lv_bipush (v := 100) hx hb d_Md_foretold_71 (by decide +kernel) ?_
  refine lv_imul hx hb d_Md_foretold_73 ?_
  refine hb_ti 900 (by decide +kernel) ?_
  refine lv_istore (lv' := [(6, .int 900), (5, .int 9), (7, .int 0), (3, .long 0), (1, .long 0), (0, .ref (a 0))]) hx hb d_Md_foretold_74 hl (by decide) rfl (fun ls hl => ?_)
  refine lv_lload_n hx hb d_Md_foretold_76 rfl (lv_at hl 3 rfl) ?_
  refine lv_lload_n hx hb d_Md_foretold_77 rfl (lv_at hl 4 rfl) ?_
  refine lv_ladd hx hb d_Md_foretold_78 ?_
  refine hb_tl 0 (by decide +kernel) ?_
  refine lv_lstore_n (lv' := [(3, .long 0), (6, .int 900), (5, .int 9), (7, .int 0), (1, .long 0), (0, .ref (a 0))]) hx hb d_Md_foretold_79 rfl hl (by decide) rfl (fun ls hl => ?_)
  refine lv_iconst (v := 0) hx hb d_Md_foretold_80 (by decide +kernel) ?_
  refine lv_istore (lv' := [(7, .int 0), (3, .long 0), (6, .int 900), (5, .int 9), (1, .long 0), (0, .ref (a 0))]) hx hb d_Md_foretold_81 hl (by decide) rfl (fun ls hl => ?_)
  refine lv_iload hx hb d_Md_foretold_83 (lv_at hl 0 rfl) ?_
  refine lv_aload_n hx hb d_Md_foretold_85 rfl (lv_at hl 5 rfl) ?_
  refine va_get (D := (dC, dI)) (ci := 7) (v := .int 0) (C := R_Md) (T := F_Md) (N := 64) hx hb htb i_Md hown hK hP 0 rfl rfl 60 (by decide) (htb (.fieldLink R_Md 323 "WaterMenModel" "pensioners" "I") tw_164) (fun _ h9 => h9) rfl d_Md_foretold_86 ?_
  refine lv_icmp_ge (tgt := 140) hx hb d_Md_foretold_89 (by decide) (fun _ => ?_) (fun h => absurd (by decide +kernel) h)
  refine lv_iinc (v := 10) (lv' := [(5, .int 10), (7, .int 0), (3, .long 0), (6, .int 900), (1, .long 0), (0, .ref (a 0))]) hx hb d_Md_foretold_140 hl (k := 3) rfl (by decide +kernel) (by decide) rfl (fun ls hl => ?_)
  refine lv_goto (tgt := 54) hx hb d_Md_foretold_143 (by decide) ?_
  refine lv_iload hx hb d_Md_foretold_54 (lv_at hl 0 rfl) ?_
  refine lv_bipush (v := 40) hx hb d_Md_foretold_56 (by decide +kernel) ?_
  refine lv_icmp_gt (tgt := 146) hx hb d_Md_foretold_58 (by decide) (fun h => absurd h (by decide +kernel)) (fun _ => ?_)
  refine lv_aload_n hx hb d_Md_foretold_61 rfl (lv_at hl 5 rfl) ?_
  refine vp_callSi (va_Run.run (va_runV (As := []) (rest := []) ⟨hx, hb, hml, hown, htb⟩ (c_Md_today l dC dI a k) (cwV 0 htb (gd_V tw_118 tw_119 tw_120 tw_109 tw_117) rfl rfl rfl (by decide +kernel) ⟨Nat.le_of_ble_eq_true rfl, Nat.le_of_ble_eq_true rfl⟩) ⟨pr_blind, va_recv hK hP (ci := 7) (q0 := 0) rfl rfl, pr_pre hP hK hN⟩ rfl rfl hl.1 rfl (lv_room (Nat.le_of_ble_eq_true rfl)) d_Md_foretold_62 ⟨Nat.le_of_ble_eq_true rfl, Nat.le_of_ble_eq_true rfl⟩)) (fun r er => ?_)
  subst er
  refine hb_ti 0 rfl ?_
  refine lv_bipush (v := 100) hx hb d_Md_foretold_65 (by decide +kernel) ?_
  refine lv_idiv hx hb d_Md_foretold_67 (by decide) ?_
  refine hb_ti 0 (by decide +kernel) ?_
  refine lv_iload hx hb d_Md_foretold_68 (lv_at hl 0 rfl) ?_
  refine lv_iadd hx hb d_Md_foretold_70 ?_
  refine hb_ti 10 (by decide +kernel) ?_
  refine lv_bipush (v := 100) hx hb d_Md_foretold_71 (by decide +kernel) ?_
  refine lv_imul hx hb d_Md_foretold_73 ?_
  refine hb_ti 1000 (by decide +kernel) ?_
  refine lv_istore (lv' := [(6, .int 1000), (5, .int 10), (7, .int 0), (3, .long 0), (1, .long 0), (0, .ref (a 0))]) hx hb d_Md_foretold_74 hl (by decide) rfl (fun ls hl => ?_)
  refine lv_lload_n hx hb d_Md_foretold_76 rfl (lv_at hl 3 rfl) ?_
  refine lv_lload_n hx hb d_Md_foretold_77 rfl (lv_at hl 4 rfl) ?_
  refine lv_ladd hx hb d_Md_foretold_78 ?_
  refine hb_tl 0 (by decide +kernel) ?_
  refine lv_lstore_n (lv' := [(3, .long 0), (6, .int 1000), (5, .int 10), (7, .int 0), (1, .long 0), (0, .ref (a 0))]) hx hb d_Md_foretold_79 rfl hl (by decide) rfl (fun ls hl => ?_)
  refine lv_iconst (v := 0) hx hb d_Md_foretold_80 (by decide +kernel) ?_
  refine lv_istore (lv' := [(7, .int 0), (3, .long 0), (6, .int 1000), (5, .int 10), (1, .long 0), (0, .ref (a 0))]) hx hb d_Md_foretold_81 hl (by decide) rfl (fun ls hl => ?_)
  refine lv_iload hx hb d_Md_foretold_83 (lv_at hl 0 rfl) ?_
  refine lv_aload_n hx hb d_Md_foretold_85 rfl (lv_at hl 5 rfl) ?_
  refine va_get (D := (dC, dI)) (ci := 7) (v := .int 0) (C := R_Md) (T := F_Md) (N := 64) hx hb htb i_Md hown hK hP 0 rfl rfl 60 (by decide) (htb (.fieldLink R_Md 323 "WaterMenModel" "pensioners" "I") tw_164) (fun _ h9 => h9) rfl d_Md_foretold_86 ?_
  refine lv_icmp_ge (tgt := 140) hx hb d_Md_foretold_89 (by decide) (fun _ => ?_) (fun h => absurd (by decide +kernel) h)
  refine lv_iinc (v := 11) (lv' := [(5, .int 11), (7, .int 0), (3, .long 0), (6, .int 1000), (1, .long 0), (0, .ref (a 0))]) hx hb d_Md_foretold_140 hl (k := 3) rfl (by decide +kernel) (by decide) rfl (fun ls hl => ?_)
  refine lv_goto (tgt := 54) hx hb d_Md_foretold_143 (by decide) ?_
  refine lv_iload hx hb d_Md_foretold_54 (lv_at hl 0 rfl) ?_
  refine lv_bipush (v := 40) hx hb d_Md_foretold_56 (by decide +kernel) ?_
  refine lv_icmp_gt (tgt := 146) hx hb d_Md_foretold_58 (by decide) (fun h => absurd h (by decide +kernel)) (fun _ => ?_)
  refine lv_aload_n hx hb d_Md_foretold_61 rfl (lv_at hl 5 rfl) ?_
  refine vp_callSi (va_Run.run (va_runV (As := []) (rest := []) ⟨hx, hb, hml, hown, htb⟩ (c_Md_today l dC dI a k) (cwV 0 htb (gd_V tw_118 tw_119 tw_120 tw_109 tw_117) rfl rfl rfl (by decide +kernel) ⟨Nat.le_of_ble_eq_true rfl, Nat.le_of_ble_eq_true rfl⟩) ⟨pr_blind, va_recv hK hP (ci := 7) (q0 := 0) rfl rfl, pr_pre hP hK hN⟩ rfl rfl hl.1 rfl (lv_room (Nat.le_of_ble_eq_true rfl)) d_Md_foretold_62 ⟨Nat.le_of_ble_eq_true rfl, Nat.le_of_ble_eq_true rfl⟩)) (fun r er => ?_)
  subst er
  refine hb_ti 0 rfl ?_
  refine lv_bipush (v := 100) hx hb d_Md_foretold_65 (by decide +kernel) ?_
  refine lv_idiv hx hb d_Md_foretold_67 (by decide) ?_
  refine hb_ti 0 (by decide +kernel) ?_
  refine lv_iload hx hb d_Md_foretold_68 (lv_at hl 0 rfl) ?_
  refine lv_iadd hx hb d_Md_foretold_70 ?_
  refine hb_ti 11 (by decide +kernel) ?_
  refine lv_bipush (v := 100) hx hb d_Md_foretold_71 (by decide +kernel) ?_
  refine lv_imul hx hb d_Md_foretold_73 ?_
  refine hb_ti 1100 (by decide +kernel) ?_
  refine lv_istore (lv' := [(6, .int 1100), (5, .int 11), (7, .int 0), (3, .long 0), (1, .long 0), (0, .ref (a 0))]) hx hb d_Md_foretold_74 hl (by decide) rfl (fun ls hl => ?_)
  refine lv_lload_n hx hb d_Md_foretold_76 rfl (lv_at hl 3 rfl) ?_
  refine lv_lload_n hx hb d_Md_foretold_77 rfl (lv_at hl 4 rfl) ?_
  refine lv_ladd hx hb d_Md_foretold_78 ?_
  refine hb_tl 0 (by decide +kernel) ?_
  refine lv_lstore_n (lv' := [(3, .long 0), (6, .int 1100), (5, .int 11), (7, .int 0), (1, .long 0), (0, .ref (a 0))]) hx hb d_Md_foretold_79 rfl hl (by decide) rfl (fun ls hl => ?_)
  refine lv_iconst (v := 0) hx hb d_Md_foretold_80 (by decide +kernel) ?_
  refine lv_istore (lv' := [(7, .int 0), (3, .long 0), (6, .int 1100), (5, .int 11), (1, .long 0), (0, .ref (a 0))]) hx hb d_Md_foretold_81 hl (by decide) rfl (fun ls hl => ?_)
  refine lv_iload hx hb d_Md_foretold_83 (lv_at hl 0 rfl) ?_
  refine lv_aload_n hx hb d_Md_foretold_85 rfl (lv_at hl 5 rfl) ?_
  refine va_get (D := (dC, dI)) (ci := 7) (v := .int 0) (C := R_Md) (T := F_Md) (N := 64) hx hb htb i_Md hown hK hP 0 rfl rfl 60 (by decide) (htb (.fieldLink R_Md 323 "WaterMenModel" "pensioners" "I") tw_164) (fun _ h9 => h9) rfl d_Md_foretold_86 ?_
  refine lv_icmp_ge (tgt := 140) hx hb d_Md_foretold_89 (by decide) (fun _ => ?_) (fun h => absurd (by decide +kernel) h)
  refine lv_iinc (v := 12) (lv' := [(5, .int 12), (7, .int 0), (3, .long 0), (6, .int 1100), (1, .long 0), (0, .ref (a 0))]) hx hb d_Md_foretold_140 hl (k := 3) rfl (by decide +kernel) (by decide) rfl (fun ls hl => ?_)
  refine lv_goto (tgt := 54) hx hb d_Md_foretold_143 (by decide) ?_
  refine lv_iload hx hb d_Md_foretold_54 (lv_at hl 0 rfl) ?_
  refine lv_bipush (v := 40) hx hb d_Md_foretold_56 (by decide +kernel) ?_
  refine lv_icmp_gt (tgt := 146) hx hb d_Md_foretold_58 (by decide) (fun h => absurd h (by decide +kernel)) (fun _ => ?_)
  refine lv_aload_n hx hb d_Md_foretold_61 rfl (lv_at hl 5 rfl) ?_
  refine vp_callSi (va_Run.run (va_runV (As := []) (rest := []) ⟨hx, hb, hml, hown, htb⟩ (c_Md_today l dC dI a k) (cwV 0 htb (gd_V tw_118 tw_119 tw_120 tw_109 tw_117) rfl rfl rfl (by decide +kernel) ⟨Nat.le_of_ble_eq_true rfl, Nat.le_of_ble_eq_true rfl⟩) ⟨pr_blind, va_recv hK hP (ci := 7) (q0 := 0) rfl rfl, pr_pre hP hK hN⟩ rfl rfl hl.1 rfl (lv_room (Nat.le_of_ble_eq_true rfl)) d_Md_foretold_62 ⟨Nat.le_of_ble_eq_true rfl, Nat.le_of_ble_eq_true rfl⟩)) (fun r er => ?_)
  subst er
  refine hb_ti 0 rfl ?_
  refine lv_bipush (v := 100) hx hb d_Md_foretold_65 (by decide +kernel) ?_
  refine lv_idiv hx hb d_Md_foretold_67 (by decide) ?_
  refine hb_ti 0 (by decide +kernel) ?_
  refine lv_iload hx hb d_Md_foretold_68 (lv_at hl 0 rfl) ?_
  refine lv_iadd hx hb d_Md_foretold_70 ?_
  refine hb_ti 12 (by decide +kernel) ?_
  refine lv_bipush (v := 100) hx hb d_Md_foretold_71 (by decide +kernel) ?_
  refine lv_imul hx hb d_Md_foretold_73 ?_
  refine hb_ti 1200 (by decide +kernel) ?_
  refine lv_istore (lv' := [(6, .int 1200), (5, .int 12), (7, .int 0), (3, .long 0), (1, .long 0), (0, .ref (a 0))]) hx hb d_Md_foretold_74 hl (by decide) rfl (fun ls hl => ?_)
  refine lv_lload_n hx hb d_Md_foretold_76 rfl (lv_at hl 3 rfl) ?_
  refine lv_lload_n hx hb d_Md_foretold_77 rfl (lv_at hl 4 rfl) ?_
  refine lv_ladd hx hb d_Md_foretold_78 ?_
  refine hb_tl 0 (by decide +kernel) ?_
  refine lv_lstore_n (lv' := [(3, .long 0), (6, .int 1200), (5, .int 12), (7, .int 0), (1, .long 0), (0, .ref (a 0))]) hx hb d_Md_foretold_79 rfl hl (by decide) rfl (fun ls hl => ?_)
  refine lv_iconst (v := 0) hx hb d_Md_foretold_80 (by decide +kernel) ?_
  refine lv_istore (lv' := [(7, .int 0), (3, .long 0), (6, .int 1200), (5, .int 12), (1, .long 0), (0, .ref (a 0))]) hx hb d_Md_foretold_81 hl (by decide) rfl (fun ls hl => ?_)
  refine lv_iload hx hb d_Md_foretold_83 (lv_at hl 0 rfl) ?_
  refine lv_aload_n hx hb d_Md_foretold_85 rfl (lv_at hl 5 rfl) ?_
  refine va_get (D := (dC, dI)) (ci := 7) (v := .int 0) (C := R_Md) (T := F_Md) (N := 64) hx hb htb i_Md hown hK hP 0 rfl rfl 60 (by decide) (htb (.fieldLink R_Md 323 "WaterMenModel" "pensioners" "I") tw_164) (fun _ h9 => h9) rfl d_Md_foretold_86 ?_
  refine lv_icmp_ge (tgt := 140) hx hb d_Md_foretold_89 (by decide) (fun _ => ?_) (fun h => absurd (by decide +kernel) h)
  refine lv_iinc (v := 13) (lv' := [(5, .int 13), (7, .int 0), (3, .long 0), (6, .int 1200), (1, .long 0), (0, .ref (a 0))]) hx hb d_Md_foretold_140 hl (k := 3) rfl (by decide +kernel) (by decide) rfl (fun ls hl => ?_)
  refine lv_goto (tgt := 54) hx hb d_Md_foretold_143 (by decide) ?_
  refine lv_iload hx hb d_Md_foretold_54 (lv_at hl 0 rfl) ?_
  refine lv_bipush (v := 40) hx hb d_Md_foretold_56 (by decide +kernel) ?_
  refine lv_icmp_gt (tgt := 146) hx hb d_Md_foretold_58 (by decide) (fun h => absurd h (by decide +kernel)) (fun _ => ?_)
  refine lv_aload_n hx hb d_Md_foretold_61 rfl (lv_at hl 5 rfl) ?_
  refine vp_callSi (va_Run.run (va_runV (As := []) (rest := []) ⟨hx, hb, hml, hown, htb⟩ (c_Md_today l dC dI a k) (cwV 0 htb (gd_V tw_118 tw_119 tw_120 tw_109 tw_117) rfl rfl rfl (by decide +kernel) ⟨Nat.le_of_ble_eq_true rfl, Nat.le_of_ble_eq_true rfl⟩) ⟨pr_blind, va_recv hK hP (ci := 7) (q0 := 0) rfl rfl, pr_pre hP hK hN⟩ rfl rfl hl.1 rfl (lv_room (Nat.le_of_ble_eq_true rfl)) d_Md_foretold_62 ⟨Nat.le_of_ble_eq_true rfl, Nat.le_of_ble_eq_true rfl⟩)) (fun r er => ?_)
  subst er
  refine hb_ti 0 rfl ?_
  refine lv_bipush (v := 100) hx hb d_Md_foretold_65 (by decide +kernel) ?_
  refine lv_idiv hx hb d_Md_foretold_67 (by decide) ?_
  refine hb_ti 0 (by decide +kernel) ?_
  refine lv_iload hx hb d_Md_foretold_68 (lv_at hl 0 rfl) ?_
  refine lv_iadd hx hb d_Md_foretold_70 ?_
  refine hb_ti 13 (by decide +kernel) ?_
  refine lv_bipush (v := 100) hx hb d_Md_foretold_71 (by decide +kernel) ?_
  refine lv_imul hx hb d_Md_foretold_73 ?_
  refine hb_ti 1300 (by decide +kernel) ?_
  refine lv_istore (lv' := [(6, .int 1300), (5, .int 13), (7, .int 0), (3, .long 0), (1, .long 0), (0, .ref (a 0))]) hx hb d_Md_foretold_74 hl (by decide) rfl (fun ls hl => ?_)
  refine lv_lload_n hx hb d_Md_foretold_76 rfl (lv_at hl 3 rfl) ?_
  refine lv_lload_n hx hb d_Md_foretold_77 rfl (lv_at hl 4 rfl) ?_
  refine lv_ladd hx hb d_Md_foretold_78 ?_
  refine hb_tl 0 (by decide +kernel) ?_
  refine lv_lstore_n (lv' := [(3, .long 0), (6, .int 1300), (5, .int 13), (7, .int 0), (1, .long 0), (0, .ref (a 0))]) hx hb d_Md_foretold_79 rfl hl (by decide) rfl (fun ls hl => ?_)
  refine lv_iconst (v := 0) hx hb d_Md_foretold_80 (by decide +kernel) ?_
  refine lv_istore (lv' := [(7, .int 0), (3, .long 0), (6, .int 1300), (5, .int 13), (1, .long 0), (0, .ref (a 0))]) hx hb d_Md_foretold_81 hl (by decide) rfl (fun ls hl => ?_)
  refine lv_iload hx hb d_Md_foretold_83 (lv_at hl 0 rfl) ?_
  refine lv_aload_n hx hb d_Md_foretold_85 rfl (lv_at hl 5 rfl) ?_
  refine va_get (D := (dC, dI)) (ci := 7) (v := .int 0) (C := R_Md) (T := F_Md) (N := 64) hx hb htb i_Md hown hK hP 0 rfl rfl 60 (by decide) (htb (.fieldLink R_Md 323 "WaterMenModel" "pensioners" "I") tw_164) (fun _ h9 => h9) rfl d_Md_foretold_86 ?_
  refine lv_icmp_ge (tgt := 140) hx hb d_Md_foretold_89 (by decide) (fun _ => ?_) (fun h => absurd (by decide +kernel) h)
  refine lv_iinc (v := 14) (lv' := [(5, .int 14), (7, .int 0), (3, .long 0), (6, .int 1300), (1, .long 0), (0, .ref (a 0))]) hx hb d_Md_foretold_140 hl (k := 3) rfl (by decide +kernel) (by decide) rfl (fun ls hl => ?_)
  refine lv_goto (tgt := 54) hx hb d_Md_foretold_143 (by decide) ?_
  refine lv_iload hx hb d_Md_foretold_54 (lv_at hl 0 rfl) ?_
  refine lv_bipush (v := 40) hx hb d_Md_foretold_56 (by decide +kernel) ?_
  refine lv_icmp_gt (tgt := 146) hx hb d_Md_foretold_58 (by decide) (fun h => absurd h (by decide +kernel)) (fun _ => ?_)
  refine lv_aload_n hx hb d_Md_foretold_61 rfl (lv_at hl 5 rfl) ?_
  refine vp_callSi (va_Run.run (va_runV (As := []) (rest := []) ⟨hx, hb, hml, hown, htb⟩ (c_Md_today l dC dI a k) (cwV 0 htb (gd_V tw_118 tw_119 tw_120 tw_109 tw_117) rfl rfl rfl (by decide +kernel) ⟨Nat.le_of_ble_eq_true rfl, Nat.le_of_ble_eq_true rfl⟩) ⟨pr_blind, va_recv hK hP (ci := 7) (q0 := 0) rfl rfl, pr_pre hP hK hN⟩ rfl rfl hl.1 rfl (lv_room (Nat.le_of_ble_eq_true rfl)) d_Md_foretold_62 ⟨Nat.le_of_ble_eq_true rfl, Nat.le_of_ble_eq_true rfl⟩)) (fun r er => ?_)
  subst er
  refine hb_ti 0 rfl ?_
  refine lv_bipush (v := 100) hx hb d_Md_foretold_65 (by decide +kernel) ?_
  refine lv_idiv hx hb d_Md_foretold_67 (by decide) ?_
  refine hb_ti 0 (by decide +kernel) ?_
  refine lv_iload hx hb d_Md_foretold_68 (lv_at hl 0 rfl) ?_
  refine lv_iadd hx hb d_Md_foretold_70 ?_
  refine hb_ti 14 (by decide +kernel) ?_
  refine lv_bipush (v := 100) hx hb d_Md_foretold_71 (by decide +kernel) ?_
  refine lv_imul hx hb d_Md_foretold_73 ?_
  refine hb_ti 1400 (by decide +kernel) ?_
  refine lv_istore (lv' := [(6, .int 1400), (5, .int 14), (7, .int 0), (3, .long 0), (1, .long 0), (0, .ref (a 0))]) hx hb d_Md_foretold_74 hl (by decide) rfl (fun ls hl => ?_)
  refine lv_lload_n hx hb d_Md_foretold_76 rfl (lv_at hl 3 rfl) ?_
  refine lv_lload_n hx hb d_Md_foretold_77 rfl (lv_at hl 4 rfl) ?_
  refine lv_ladd hx hb d_Md_foretold_78 ?_
  refine hb_tl 0 (by decide +kernel) ?_
  refine lv_lstore_n (lv' := [(3, .long 0), (6, .int 1400), (5, .int 14), (7, .int 0), (1, .long 0), (0, .ref (a 0))]) hx hb d_Md_foretold_79 rfl hl (by decide) rfl (fun ls hl => ?_)
  refine lv_iconst (v := 0) hx hb d_Md_foretold_80 (by decide +kernel) ?_
  refine lv_istore (lv' := [(7, .int 0), (3, .long 0), (6, .int 1400), (5, .int 14), (1, .long 0), (0, .ref (a 0))]) hx hb d_Md_foretold_81 hl (by decide) rfl (fun ls hl => ?_)
  refine lv_iload hx hb d_Md_foretold_83 (lv_at hl 0 rfl) ?_
  refine lv_aload_n hx hb d_Md_foretold_85 rfl (lv_at hl 5 rfl) ?_
  refine va_get (D := (dC, dI)) (ci := 7) (v := .int 0) (C := R_Md) (T := F_Md) (N := 64) hx hb htb i_Md hown hK hP 0 rfl rfl 60 (by decide) (htb (.fieldLink R_Md 323 "WaterMenModel" "pensioners" "I") tw_164) (fun _ h9 => h9) rfl d_Md_foretold_86 ?_
  refine lv_icmp_ge (tgt := 140) hx hb d_Md_foretold_89 (by decide) (fun _ => ?_) (fun h => absurd (by decide +kernel) h)
  refine lv_iinc (v := 15) (lv' := [(5, .int 15), (7, .int 0), (3, .long 0), (6, .int 1400), (1, .long 0), (0, .ref (a 0))]) hx hb d_Md_foretold_140 hl (k := 3) rfl (by decide +kernel) (by decide) rfl (fun ls hl => ?_)
  refine lv_goto (tgt := 54) hx hb d_Md_foretold_143 (by decide) ?_
  refine lv_iload hx hb d_Md_foretold_54 (lv_at hl 0 rfl) ?_
  refine lv_bipush (v := 40) hx hb d_Md_foretold_56 (by decide +kernel) ?_
  refine lv_icmp_gt (tgt := 146) hx hb d_Md_foretold_58 (by decide) (fun h => absurd h (by decide +kernel)) (fun _ => ?_)
  refine lv_aload_n hx hb d_Md_foretold_61 rfl (lv_at hl 5 rfl) ?_
  refine vp_callSi (va_Run.run (va_runV (As := []) (rest := []) ⟨hx, hb, hml, hown, htb⟩ (c_Md_today l dC dI a k) (cwV 0 htb (gd_V tw_118 tw_119 tw_120 tw_109 tw_117) rfl rfl rfl (by decide +kernel) ⟨Nat.le_of_ble_eq_true rfl, Nat.le_of_ble_eq_true rfl⟩) ⟨pr_blind, va_recv hK hP (ci := 7) (q0 := 0) rfl rfl, pr_pre hP hK hN⟩ rfl rfl hl.1 rfl (lv_room (Nat.le_of_ble_eq_true rfl)) d_Md_foretold_62 ⟨Nat.le_of_ble_eq_true rfl, Nat.le_of_ble_eq_true rfl⟩)) (fun r er => ?_)
  subst er
  refine hb_ti 0 rfl ?_
  refine lv_bipush (v := 100) hx hb d_Md_foretold_65 (by decide +kernel) ?_
  refine lv_idiv hx hb d_Md_foretold_67 (by decide) ?_
  refine hb_ti 0 (by decide +kernel) ?_
  refine lv_iload hx hb d_Md_foretold_68 (lv_at hl 0 rfl) ?_
  refine lv_iadd hx hb d_Md_foretold_70 ?_
  refine hb_ti 15 (by decide +kernel) ?_
  refine lv_bipush (v := 100) hx hb d_Md_foretold_71 (by decide +kernel) ?_
  refine lv_imul hx hb d_Md_foretold_73 ?_
  refine hb_ti 1500 (by decide +kernel) ?_
  refine lv_istore (lv' := [(6, .int 1500), (5, .int 15), (7, .int 0), (3, .long 0), (1, .long 0), (0, .ref (a 0))]) hx hb d_Md_foretold_74 hl (by decide) rfl (fun ls hl => ?_)
  refine lv_lload_n hx hb d_Md_foretold_76 rfl (lv_at hl 3 rfl) ?_
  refine lv_lload_n hx hb d_Md_foretold_77 rfl (lv_at hl 4 rfl) ?_
  refine lv_ladd hx hb d_Md_foretold_78 ?_
  refine hb_tl 0 (by decide +kernel) ?_
  refine lv_lstore_n (lv' := [(3, .long 0), (6, .int 1500), (5, .int 15), (7, .int 0), (1, .long 0), (0, .ref (a 0))]) hx hb d_Md_foretold_79 rfl hl (by decide) rfl (fun ls hl => ?_)
  refine lv_iconst (v := 0) hx hb d_Md_foretold_80 (by decide +kernel) ?_
  refine lv_istore (lv' := [(7, .int 0), (3, .long 0), (6, .int 1500), (5, .int 15), (1, .long 0), (0, .ref (a 0))]) hx hb d_Md_foretold_81 hl (by decide) rfl (fun ls hl => ?_)
  refine lv_iload hx hb d_Md_foretold_83 (lv_at hl 0 rfl) ?_
  refine lv_aload_n hx hb d_Md_foretold_85 rfl (lv_at hl 5 rfl) ?_
  refine va_get (D := (dC, dI)) (ci := 7) (v := .int 0) (C := R_Md) (T := F_Md) (N := 64) hx hb htb i_Md hown hK hP 0 rfl rfl 60 (by decide) (htb (.fieldLink R_Md 323 "WaterMenModel" "pensioners" "I") tw_164) (fun _ h9 => h9) rfl d_Md_foretold_86 ?_
  refine lv_icmp_ge (tgt := 140) hx hb d_Md_foretold_89 (by decide) (fun _ => ?_) (fun h => absurd (by decide +kernel) h)
  refine lv_iinc (v := 16) (lv' := [(5, .int 16), (7, .int 0), (3, .long 0), (6, .int 1500), (1, .long 0), (0, .ref (a 0))]) hx hb d_Md_foretold_140 hl (k := 3) rfl (by decide +kernel) (by decide) rfl (fun ls hl => ?_)
  refine lv_goto (tgt := 54) hx hb d_Md_foretold_143 (by decide) ?_
  refine lv_iload hx hb d_Md_foretold_54 (lv_at hl 0 rfl) ?_
  refine lv_bipush (v := 40) hx hb d_Md_foretold_56 (by decide +kernel) ?_
  refine lv_icmp_gt (tgt := 146) hx hb d_Md_foretold_58 (by decide) (fun h => absurd h (by decide +kernel)) (fun _ => ?_)
  refine lv_aload_n hx hb d_Md_foretold_61 rfl (lv_at hl 5 rfl) ?_
  refine vp_callSi (va_Run.run (va_runV (As := []) (rest := []) ⟨hx, hb, hml, hown, htb⟩ (c_Md_today l dC dI a k) (cwV 0 htb (gd_V tw_118 tw_119 tw_120 tw_109 tw_117) rfl rfl rfl (by decide +kernel) ⟨Nat.le_of_ble_eq_true rfl, Nat.le_of_ble_eq_true rfl⟩) ⟨pr_blind, va_recv hK hP (ci := 7) (q0 := 0) rfl rfl, pr_pre hP hK hN⟩ rfl rfl hl.1 rfl (lv_room (Nat.le_of_ble_eq_true rfl)) d_Md_foretold_62 ⟨Nat.le_of_ble_eq_true rfl, Nat.le_of_ble_eq_true rfl⟩)) (fun r er => ?_)
  subst er
  refine hb_ti 0 rfl ?_
  refine lv_bipush (v := 100) hx hb d_Md_foretold_65 (by decide +kernel) ?_
  refine lv_idiv hx hb d_Md_foretold_67 (by decide) ?_
  refine hb_ti 0 (by decide +kernel) ?_
  refine lv_iload hx hb d_Md_foretold_68 (lv_at hl 0 rfl) ?_
  refine lv_iadd hx hb d_Md_foretold_70 ?_
  refine hb_ti 16 (by decide +kernel) ?_
  refine lv_bipush (v := 100) hx hb d_Md_foretold_71 (by decide +kernel) ?_
  refine lv_imul hx hb d_Md_foretold_73 ?_
  refine hb_ti 1600 (by decide +kernel) ?_
  refine lv_istore (lv' := [(6, .int 1600), (5, .int 16), (7, .int 0), (3, .long 0), (1, .long 0), (0, .ref (a 0))]) hx hb d_Md_foretold_74 hl (by decide) rfl (fun ls hl => ?_)
  refine lv_lload_n hx hb d_Md_foretold_76 rfl (lv_at hl 3 rfl) ?_
  refine lv_lload_n hx hb d_Md_foretold_77 rfl (lv_at hl 4 rfl) ?_
  refine lv_ladd hx hb d_Md_foretold_78 ?_
  refine hb_tl 0 (by decide +kernel) ?_
  refine lv_lstore_n (lv' := [(3, .long 0), (6, .int 1600), (5, .int 16), (7, .int 0), (1, .long 0), (0, .ref (a 0))]) hx hb d_Md_foretold_79 rfl hl (by decide) rfl (fun ls hl => ?_)
  refine lv_iconst (v := 0) hx hb d_Md_foretold_80 (by decide +kernel) ?_
  refine lv_istore (lv' := [(7, .int 0), (3, .long 0), (6, .int 1600), (5, .int 16), (1, .long 0), (0, .ref (a 0))]) hx hb d_Md_foretold_81 hl (by decide) rfl (fun ls hl => ?_)
  refine lv_iload hx hb d_Md_foretold_83 (lv_at hl 0 rfl) ?_
  refine lv_aload_n hx hb d_Md_foretold_85 rfl (lv_at hl 5 rfl) ?_
  refine va_get (D := (dC, dI)) (ci := 7) (v := .int 0) (C := R_Md) (T := F_Md) (N := 64) hx hb htb i_Md hown hK hP 0 rfl rfl 60 (by decide) (htb (.fieldLink R_Md 323 "WaterMenModel" "pensioners" "I") tw_164) (fun _ h9 => h9) rfl d_Md_foretold_86 ?_
  refine lv_icmp_ge (tgt := 140) hx hb d_Md_foretold_89 (by decide) (fun _ => ?_) (fun h => absurd (by decide +kernel) h)
  refine lv_iinc (v := 17) (lv' := [(5, .int 17), (7, .int 0), (3, .long 0), (6, .int 1600), (1, .long 0), (0, .ref (a 0))]) hx hb d_Md_foretold_140 hl (k := 3) rfl (by decide +kernel) (by decide) rfl (fun ls hl => ?_)
  refine lv_goto (tgt := 54) hx hb d_Md_foretold_143 (by decide) ?_
  refine lv_iload hx hb d_Md_foretold_54 (lv_at hl 0 rfl) ?_
  refine lv_bipush (v := 40) hx hb d_Md_foretold_56 (by decide +kernel) ?_
  refine lv_icmp_gt (tgt := 146) hx hb d_Md_foretold_58 (by decide) (fun h => absurd h (by decide +kernel)) (fun _ => ?_)
  refine lv_aload_n hx hb d_Md_foretold_61 rfl (lv_at hl 5 rfl) ?_
  refine vp_callSi (va_Run.run (va_runV (As := []) (rest := []) ⟨hx, hb, hml, hown, htb⟩ (c_Md_today l dC dI a k) (cwV 0 htb (gd_V tw_118 tw_119 tw_120 tw_109 tw_117) rfl rfl rfl (by decide +kernel) ⟨Nat.le_of_ble_eq_true rfl, Nat.le_of_ble_eq_true rfl⟩) ⟨pr_blind, va_recv hK hP (ci := 7) (q0 := 0) rfl rfl, pr_pre hP hK hN⟩ rfl rfl hl.1 rfl (lv_room (Nat.le_of_ble_eq_true rfl)) d_Md_foretold_62 ⟨Nat.le_of_ble_eq_true rfl, Nat.le_of_ble_eq_true rfl⟩)) (fun r er => ?_)
  subst er
  refine hb_ti 0 rfl ?_
  refine lv_bipush (v := 100) hx hb d_Md_foretold_65 (by decide +kernel) ?_
  refine lv_idiv hx hb d_Md_foretold_67 (by decide) ?_
  refine hb_ti 0 (by decide +kernel) ?_
  refine lv_iload hx hb d_Md_foretold_68 (lv_at hl 0 rfl) ?_
  refine lv_iadd hx hb d_Md_foretold_70 ?_
  refine hb_ti 17 (by decide +kernel) ?_
  refine lv_bipush (v := 100) hx hb d_Md_foretold_71 (by decide +kernel) ?_
  refine lv_imul hx hb d_Md_foretold_73 ?_
  refine hb_ti 1700 (by decide +kernel) ?_
  refine lv_istore (lv' := [(6, .int 1700), (5, .int 17), (7, .int 0), (3, .long 0), (1, .long 0), (0, .ref (a 0))]) hx hb d_Md_foretold_74 hl (by decide) rfl (fun ls hl => ?_)
  refine lv_lload_n hx hb d_Md_foretold_76 rfl (lv_at hl 3 rfl) ?_
  refine lv_lload_n hx hb d_Md_foretold_77 rfl (lv_at hl 4 rfl) ?_
  refine lv_ladd hx hb d_Md_foretold_78 ?_
  refine hb_tl 0 (by decide +kernel) ?_
  refine lv_lstore_n (lv' := [(3, .long 0), (6, .int 1700), (5, .int 17), (7, .int 0), (1, .long 0), (0, .ref (a 0))]) hx hb d_Md_foretold_79 rfl hl (by decide) rfl (fun ls hl => ?_)
  refine lv_iconst (v := 0) hx hb d_Md_foretold_80 (by decide +kernel) ?_
  refine lv_istore (lv' := [(7, .int 0), (3, .long 0), (6, .int 1700), (5, .int 17), (1, .long 0), (0, .ref (a 0))]) hx hb d_Md_foretold_81 hl (by decide) rfl (fun ls hl => ?_)
  refine lv_iload hx hb d_Md_foretold_83 (lv_at hl 0 rfl) ?_
  refine lv_aload_n hx hb d_Md_foretold_85 rfl (lv_at hl 5 rfl) ?_
  refine va_get (D := (dC, dI)) (ci := 7) (v := .int 0) (C := R_Md) (T := F_Md) (N := 64) hx hb htb i_Md hown hK hP 0 rfl rfl 60 (by decide) (htb (.fieldLink R_Md 323 "WaterMenModel" "pensioners" "I") tw_164) (fun _ h9 => h9) rfl d_Md_foretold_86 ?_
  refine lv_icmp_ge (tgt := 140) hx hb d_Md_foretold_89 (by decide) (fun _ => ?_) (fun h => absurd (by decide +kernel) h)
  refine lv_iinc (v := 18) (lv' := [(5, .int 18), (7, .int 0), (3, .long 0), (6, .int 1700), (1, .long 0), (0, .ref (a 0))]) hx hb d_Md_foretold_140 hl (k := 3) rfl (by decide +kernel) (by decide) rfl (fun ls hl => ?_)
  refine lv_goto (tgt := 54) hx hb d_Md_foretold_143 (by decide) ?_
  refine lv_iload hx hb d_Md_foretold_54 (lv_at hl 0 rfl) ?_
  refine lv_bipush (v := 40) hx hb d_Md_foretold_56 (by decide +kernel) ?_
  refine lv_icmp_gt (tgt := 146) hx hb d_Md_foretold_58 (by decide) (fun h => absurd h (by decide +kernel)) (fun _ => ?_)
  refine lv_aload_n hx hb d_Md_foretold_61 rfl (lv_at hl 5 rfl) ?_
  refine vp_callSi (va_Run.run (va_runV (As := []) (rest := []) ⟨hx, hb, hml, hown, htb⟩ (c_Md_today l dC dI a k) (cwV 0 htb (gd_V tw_118 tw_119 tw_120 tw_109 tw_117) rfl rfl rfl (by decide +kernel) ⟨Nat.le_of_ble_eq_true rfl, Nat.le_of_ble_eq_true rfl⟩) ⟨pr_blind, va_recv hK hP (ci := 7) (q0 := 0) rfl rfl, pr_pre hP hK hN⟩ rfl rfl hl.1 rfl (lv_room (Nat.le_of_ble_eq_true rfl)) d_Md_foretold_62 ⟨Nat.le_of_ble_eq_true rfl, Nat.le_of_ble_eq_true rfl⟩)) (fun r er => ?_)
  subst er
  refine hb_ti 0 rfl ?_
  refine lv_bipush (v := 100) hx hb d_Md_foretold_65 (by decide +kernel) ?_
  refine lv_idiv hx hb d_Md_foretold_67 (by decide) ?_
  refine hb_ti 0 (by decide +kernel) ?_
  refine lv_iload hx hb d_Md_foretold_68 (lv_at hl 0 rfl) ?_
  refine lv_iadd hx hb d_Md_foretold_70 ?_
  refine hb_ti 18 (by decide +kernel) ?_
  refine lv_bipush (v := 100) hx hb d_Md_foretold_71 (by decide +kernel) ?_
  refine lv_imul hx hb d_Md_foretold_73 ?_
  refine hb_ti 1800 (by decide +kernel) ?_
  refine lv_istore (lv' := [(6, .int 1800), (5, .int 18), (7, .int 0), (3, .long 0), (1, .long 0), (0, .ref (a 0))]) hx hb d_Md_foretold_74 hl (by decide) rfl (fun ls hl => ?_)
  refine lv_lload_n hx hb d_Md_foretold_76 rfl (lv_at hl 3 rfl) ?_
  refine lv_lload_n hx hb d_Md_foretold_77 rfl (lv_at hl 4 rfl) ?_
  refine lv_ladd hx hb d_Md_foretold_78 ?_
  refine hb_tl 0 (by decide +kernel) ?_
  refine lv_lstore_n (lv' := [(3, .long 0), (6, .int 1800), (5, .int 18), (7, .int 0), (1, .long 0), (0, .ref (a 0))]) hx hb d_Md_foretold_79 rfl hl (by decide) rfl (fun ls hl => ?_)
  refine lv_iconst (v := 0) hx hb d_Md_foretold_80 (by decide +kernel) ?_
  refine lv_istore (lv' := [(7, .int 0), (3, .long 0), (6, .int 1800), (5, .int 18), (1, .long 0), (0, .ref (a 0))]) hx hb d_Md_foretold_81 hl (by decide) rfl (fun ls hl => ?_)
  refine lv_iload hx hb d_Md_foretold_83 (lv_at hl 0 rfl) ?_
  refine lv_aload_n hx hb d_Md_foretold_85 rfl (lv_at hl 5 rfl) ?_
  refine va_get (D := (dC, dI)) (ci := 7) (v := .int 0) (C := R_Md) (T := F_Md) (N := 64) hx hb htb i_Md hown hK hP 0 rfl rfl 60 (by decide) (htb (.fieldLink R_Md 323 "WaterMenModel" "pensioners" "I") tw_164) (fun _ h9 => h9) rfl d_Md_foretold_86 ?_
  refine lv_icmp_ge (tgt := 140) hx hb d_Md_foretold_89 (by decide) (fun _ => ?_) (fun h => absurd (by decide +kernel) h)
  refine lv_iinc (v := 19) (lv' := [(5, .int 19), (7, .int 0), (3, .long 0), (6, .int 1800), (1, .long 0), (0, .ref (a 0))]) hx hb d_Md_foretold_140 hl (k := 3) rfl (by decide +kernel) (by decide) rfl (fun ls hl => ?_)
  refine lv_goto (tgt := 54) hx hb d_Md_foretold_143 (by decide) ?_
  refine lv_iload hx hb d_Md_foretold_54 (lv_at hl 0 rfl) ?_
  refine lv_bipush (v := 40) hx hb d_Md_foretold_56 (by decide +kernel) ?_
  refine lv_icmp_gt (tgt := 146) hx hb d_Md_foretold_58 (by decide) (fun h => absurd h (by decide +kernel)) (fun _ => ?_)
  refine lv_aload_n hx hb d_Md_foretold_61 rfl (lv_at hl 5 rfl) ?_
  refine vp_callSi (va_Run.run (va_runV (As := []) (rest := []) ⟨hx, hb, hml, hown, htb⟩ (c_Md_today l dC dI a k) (cwV 0 htb (gd_V tw_118 tw_119 tw_120 tw_109 tw_117) rfl rfl rfl (by decide +kernel) ⟨Nat.le_of_ble_eq_true rfl, Nat.le_of_ble_eq_true rfl⟩) ⟨pr_blind, va_recv hK hP (ci := 7) (q0 := 0) rfl rfl, pr_pre hP hK hN⟩ rfl rfl hl.1 rfl (lv_room (Nat.le_of_ble_eq_true rfl)) d_Md_foretold_62 ⟨Nat.le_of_ble_eq_true rfl, Nat.le_of_ble_eq_true rfl⟩)) (fun r er => ?_)
  subst er
  refine hb_ti 0 rfl ?_
  refine lv_bipush (v := 100) hx hb d_Md_foretold_65 (by decide +kernel) ?_
  refine lv_idiv hx hb d_Md_foretold_67 (by decide) ?_
  refine hb_ti 0 (by decide +kernel) ?_
  refine lv_iload hx hb d_Md_foretold_68 (lv_at hl 0 rfl) ?_
  refine lv_iadd hx hb d_Md_foretold_70 ?_
  refine hb_ti 19 (by decide +kernel) ?_
  refine lv_bipush (v := 100) hx hb d_Md_foretold_71 (by decide +kernel) ?_
  refine lv_imul hx hb d_Md_foretold_73 ?_
  refine hb_ti 1900 (by decide +kernel) ?_
  refine lv_istore (lv' := [(6, .int 1900), (5, .int 19), (7, .int 0), (3, .long 0), (1, .long 0), (0, .ref (a 0))]) hx hb d_Md_foretold_74 hl (by decide) rfl (fun ls hl => ?_)
  refine lv_lload_n hx hb d_Md_foretold_76 rfl (lv_at hl 3 rfl) ?_
  refine lv_lload_n hx hb d_Md_foretold_77 rfl (lv_at hl 4 rfl) ?_
  refine lv_ladd hx hb d_Md_foretold_78 ?_
  refine hb_tl 0 (by decide +kernel) ?_
  refine lv_lstore_n (lv' := [(3, .long 0), (6, .int 1900), (5, .int 19), (7, .int 0), (1, .long 0), (0, .ref (a 0))]) hx hb d_Md_foretold_79 rfl hl (by decide) rfl (fun ls hl => ?_)
  refine lv_iconst (v := 0) hx hb d_Md_foretold_80 (by decide +kernel) ?_
  refine lv_istore (lv' := [(7, .int 0), (3, .long 0), (6, .int 1900), (5, .int 19), (1, .long 0), (0, .ref (a 0))]) hx hb d_Md_foretold_81 hl (by decide) rfl (fun ls hl => ?_)
  refine lv_iload hx hb d_Md_foretold_83 (lv_at hl 0 rfl) ?_
  refine lv_aload_n hx hb d_Md_foretold_85 rfl (lv_at hl 5 rfl) ?_
  refine va_get (D := (dC, dI)) (ci := 7) (v := .int 0) (C := R_Md) (T := F_Md) (N := 64) hx hb htb i_Md hown hK hP 0 rfl rfl 60 (by decide) (htb (.fieldLink R_Md 323 "WaterMenModel" "pensioners" "I") tw_164) (fun _ h9 => h9) rfl d_Md_foretold_86 ?_
  refine lv_icmp_ge (tgt := 140) hx hb d_Md_foretold_89 (by decide) (fun _ => ?_) (fun h => absurd (by decide +kernel) h)
  refine lv_iinc (v := 20) (lv' := [(5, .int 20), (7, .int 0), (3, .long 0), (6, .int 1900), (1, .long 0), (0, .ref (a 0))]) hx hb d_Md_foretold_140 hl (k := 3) rfl (by decide +kernel) (by decide) rfl (fun ls hl => ?_)
  refine lv_goto (tgt := 54) hx hb d_Md_foretold_143 (by decide) ?_
  refine lv_iload hx hb d_Md_foretold_54 (lv_at hl 0 rfl) ?_
  refine lv_bipush (v := 40) hx hb d_Md_foretold_56 (by decide +kernel) ?_
  refine lv_icmp_gt (tgt := 146) hx hb d_Md_foretold_58 (by decide) (fun h => absurd h (by decide +kernel)) (fun _ => ?_)
  refine lv_aload_n hx hb d_Md_foretold_61 rfl (lv_at hl 5 rfl) ?_
  refine vp_callSi (va_Run.run (va_runV (As := []) (rest := []) ⟨hx, hb, hml, hown, htb⟩ (c_Md_today l dC dI a k) (cwV 0 htb (gd_V tw_118 tw_119 tw_120 tw_109 tw_117) rfl rfl rfl (by decide +kernel) ⟨Nat.le_of_ble_eq_true rfl, Nat.le_of_ble_eq_true rfl⟩) ⟨pr_blind, va_recv hK hP (ci := 7) (q0 := 0) rfl rfl, pr_pre hP hK hN⟩ rfl rfl hl.1 rfl (lv_room (Nat.le_of_ble_eq_true rfl)) d_Md_foretold_62 ⟨Nat.le_of_ble_eq_true rfl, Nat.le_of_ble_eq_true rfl⟩)) (fun r er => ?_)
  subst er
  refine hb_ti 0 rfl ?_
  refine lv_bipush (v := 100) hx hb d_Md_foretold_65 (by decide +kernel) ?_
  refine lv_idiv hx hb d_Md_foretold_67 (by decide) ?_
  refine hb_ti 0 (by decide +kernel) ?_
  refine lv_iload hx hb d_Md_foretold_68 (lv_at hl 0 rfl) ?_
  refine lv_iadd hx hb d_Md_foretold_70 ?_
  refine hb_ti 20 (by decide +kernel) ?_
  refine lv_bipush (v := 100) hx hb d_Md_foretold_71 (by decide +kernel) ?_
  refine lv_imul hx hb d_Md_foretold_73 ?_
  refine hb_ti 2000 (by decide +kernel) ?_
  refine lv_istore (lv' := [(6, .int 2000), (5, .int 20), (7, .int 0), (3, .long 0), (1, .long 0), (0, .ref (a 0))]) hx hb d_Md_foretold_74 hl (by decide) rfl (fun ls hl => ?_)
  refine lv_lload_n hx hb d_Md_foretold_76 rfl (lv_at hl 3 rfl) ?_
  refine lv_lload_n hx hb d_Md_foretold_77 rfl (lv_at hl 4 rfl) ?_
  refine lv_ladd hx hb d_Md_foretold_78 ?_
  refine hb_tl 0 (by decide +kernel) ?_
  refine lv_lstore_n (lv' := [(3, .long 0), (6, .int 2000), (5, .int 20), (7, .int 0), (1, .long 0), (0, .ref (a 0))]) hx hb d_Md_foretold_79 rfl hl (by decide) rfl (fun ls hl => ?_)
  refine lv_iconst (v := 0) hx hb d_Md_foretold_80 (by decide +kernel) ?_
  refine lv_istore (lv' := [(7, .int 0), (3, .long 0), (6, .int 2000), (5, .int 20), (1, .long 0), (0, .ref (a 0))]) hx hb d_Md_foretold_81 hl (by decide) rfl (fun ls hl => ?_)
  refine lv_iload hx hb d_Md_foretold_83 (lv_at hl 0 rfl) ?_
  refine lv_aload_n hx hb d_Md_foretold_85 rfl (lv_at hl 5 rfl) ?_
  refine va_get (D := (dC, dI)) (ci := 7) (v := .int 0) (C := R_Md) (T := F_Md) (N := 64) hx hb htb i_Md hown hK hP 0 rfl rfl 60 (by decide) (htb (.fieldLink R_Md 323 "WaterMenModel" "pensioners" "I") tw_164) (fun _ h9 => h9) rfl d_Md_foretold_86 ?_
  refine lv_icmp_ge (tgt := 140) hx hb d_Md_foretold_89 (by decide) (fun _ => ?_) (fun h => absurd (by decide +kernel) h)
  refine lv_iinc (v := 21) (lv' := [(5, .int 21), (7, .int 0), (3, .long 0), (6, .int 2000), (1, .long 0), (0, .ref (a 0))]) hx hb d_Md_foretold_140 hl (k := 3) rfl (by decide +kernel) (by decide) rfl (fun ls hl => ?_)
  refine lv_goto (tgt := 54) hx hb d_Md_foretold_143 (by decide) ?_
  refine lv_iload hx hb d_Md_foretold_54 (lv_at hl 0 rfl) ?_
  refine lv_bipush (v := 40) hx hb d_Md_foretold_56 (by decide +kernel) ?_
  refine lv_icmp_gt (tgt := 146) hx hb d_Md_foretold_58 (by decide) (fun h => absurd h (by decide +kernel)) (fun _ => ?_)
  refine lv_aload_n hx hb d_Md_foretold_61 rfl (lv_at hl 5 rfl) ?_
  refine vp_callSi (va_Run.run (va_runV (As := []) (rest := []) ⟨hx, hb, hml, hown, htb⟩ (c_Md_today l dC dI a k) (cwV 0 htb (gd_V tw_118 tw_119 tw_120 tw_109 tw_117) rfl rfl rfl (by decide +kernel) ⟨Nat.le_of_ble_eq_true rfl, Nat.le_of_ble_eq_true rfl⟩) ⟨pr_blind, va_recv hK hP (ci := 7) (q0 := 0) rfl rfl, pr_pre hP hK hN⟩ rfl rfl hl.1 rfl (lv_room (Nat.le_of_ble_eq_true rfl)) d_Md_foretold_62 ⟨Nat.le_of_ble_eq_true rfl, Nat.le_of_ble_eq_true rfl⟩)) (fun r er => ?_)
  subst er
  refine hb_ti 0 rfl ?_
  refine lv_bipush (v := 100) hx hb d_Md_foretold_65 (by decide +kernel) ?_
  refine lv_idiv hx hb d_Md_foretold_67 (by decide) ?_
  refine hb_ti 0 (by decide +kernel) ?_
  refine lv_iload hx hb d_Md_foretold_68 (lv_at hl 0 rfl) ?_
  refine lv_iadd hx hb d_Md_foretold_70 ?_
  refine hb_ti 21 (by decide +kernel) ?_
  refine lv_bipush (v := 100) hx hb d_Md_foretold_71 (by decide +kernel) ?_
  refine lv_imul hx hb d_Md_foretold_73 ?_
  refine hb_ti 2100 (by decide +kernel) ?_
  refine lv_istore (lv' := [(6, .int 2100), (5, .int 21), (7, .int 0), (3, .long 0), (1, .long 0), (0, .ref (a 0))]) hx hb d_Md_foretold_74 hl (by decide) rfl (fun ls hl => ?_)
  refine lv_lload_n hx hb d_Md_foretold_76 rfl (lv_at hl 3 rfl) ?_
  refine lv_lload_n hx hb d_Md_foretold_77 rfl (lv_at hl 4 rfl) ?_
  refine lv_ladd hx hb d_Md_foretold_78 ?_
  refine hb_tl 0 (by decide +kernel) ?_
  refine lv_lstore_n (lv' := [(3, .long 0), (6, .int 2100), (5, .int 21), (7, .int 0), (1, .long 0), (0, .ref (a 0))]) hx hb d_Md_foretold_79 rfl hl (by decide) rfl (fun ls hl => ?_)
  refine lv_iconst (v := 0) hx hb d_Md_foretold_80 (by decide +kernel) ?_
  refine lv_istore (lv' := [(7, .int 0), (3, .long 0), (6, .int 2100), (5, .int 21), (1, .long 0), (0, .ref (a 0))]) hx hb d_Md_foretold_81 hl (by decide) rfl (fun ls hl => ?_)
  refine lv_iload hx hb d_Md_foretold_83 (lv_at hl 0 rfl) ?_
  refine lv_aload_n hx hb d_Md_foretold_85 rfl (lv_at hl 5 rfl) ?_
  refine va_get (D := (dC, dI)) (ci := 7) (v := .int 0) (C := R_Md) (T := F_Md) (N := 64) hx hb htb i_Md hown hK hP 0 rfl rfl 60 (by decide) (htb (.fieldLink R_Md 323 "WaterMenModel" "pensioners" "I") tw_164) (fun _ h9 => h9) rfl d_Md_foretold_86 ?_
  refine lv_icmp_ge (tgt := 140) hx hb d_Md_foretold_89 (by decide) (fun _ => ?_) (fun h => absurd (by decide +kernel) h)
  refine lv_iinc (v := 22) (lv' := [(5, .int 22), (7, .int 0), (3, .long 0), (6, .int 2100), (1, .long 0), (0, .ref (a 0))]) hx hb d_Md_foretold_140 hl (k := 3) rfl (by decide +kernel) (by decide) rfl (fun ls hl => ?_)
  refine lv_goto (tgt := 54) hx hb d_Md_foretold_143 (by decide) ?_
  refine lv_iload hx hb d_Md_foretold_54 (lv_at hl 0 rfl) ?_
  refine lv_bipush (v := 40) hx hb d_Md_foretold_56 (by decide +kernel) ?_
  refine lv_icmp_gt (tgt := 146) hx hb d_Md_foretold_58 (by decide) (fun h => absurd h (by decide +kernel)) (fun _ => ?_)
  refine lv_aload_n hx hb d_Md_foretold_61 rfl (lv_at hl 5 rfl) ?_
  refine vp_callSi (va_Run.run (va_runV (As := []) (rest := []) ⟨hx, hb, hml, hown, htb⟩ (c_Md_today l dC dI a k) (cwV 0 htb (gd_V tw_118 tw_119 tw_120 tw_109 tw_117) rfl rfl rfl (by decide +kernel) ⟨Nat.le_of_ble_eq_true rfl, Nat.le_of_ble_eq_true rfl⟩) ⟨pr_blind, va_recv hK hP (ci := 7) (q0 := 0) rfl rfl, pr_pre hP hK hN⟩ rfl rfl hl.1 rfl (lv_room (Nat.le_of_ble_eq_true rfl)) d_Md_foretold_62 ⟨Nat.le_of_ble_eq_true rfl, Nat.le_of_ble_eq_true rfl⟩)) (fun r er => ?_)
  subst er
  refine hb_ti 0 rfl ?_
  refine lv_bipush (v := 100) hx hb d_Md_foretold_65 (by decide +kernel) ?_
  refine lv_idiv hx hb d_Md_foretold_67 (by decide) ?_
  refine hb_ti 0 (by decide +kernel) ?_
  refine lv_iload hx hb d_Md_foretold_68 (lv_at hl 0 rfl) ?_
  refine lv_iadd hx hb d_Md_foretold_70 ?_
  refine hb_ti 22 (by decide +kernel) ?_
  refine lv_bipush (v := 100) hx hb d_Md_foretold_71 (by decide +kernel) ?_
  refine lv_imul hx hb d_Md_foretold_73 ?_
  refine hb_ti 2200 (by decide +kernel) ?_
  refine lv_istore (lv' := [(6, .int 2200), (5, .int 22), (7, .int 0), (3, .long 0), (1, .long 0), (0, .ref (a 0))]) hx hb d_Md_foretold_74 hl (by decide) rfl (fun ls hl => ?_)
  refine lv_lload_n hx hb d_Md_foretold_76 rfl (lv_at hl 3 rfl) ?_
  refine lv_lload_n hx hb d_Md_foretold_77 rfl (lv_at hl 4 rfl) ?_
  refine lv_ladd hx hb d_Md_foretold_78 ?_
  refine hb_tl 0 (by decide +kernel) ?_
  refine lv_lstore_n (lv' := [(3, .long 0), (6, .int 2200), (5, .int 22), (7, .int 0), (1, .long 0), (0, .ref (a 0))]) hx hb d_Md_foretold_79 rfl hl (by decide) rfl (fun ls hl => ?_)
  refine lv_iconst (v := 0) hx hb d_Md_foretold_80 (by decide +kernel) ?_
  refine lv_istore (lv' := [(7, .int 0), (3, .long 0), (6, .int 2200), (5, .int 22), (1, .long 0), (0, .ref (a 0))]) hx hb d_Md_foretold_81 hl (by decide) rfl (fun ls hl => ?_)
  refine lv_iload hx hb d_Md_foretold_83 (lv_at hl 0 rfl) ?_
  refine lv_aload_n hx hb d_Md_foretold_85 rfl (lv_at hl 5 rfl) ?_
  refine va_get (D := (dC, dI)) (ci := 7) (v := .int 0) (C := R_Md) (T := F_Md) (N := 64) hx hb htb i_Md hown hK hP 0 rfl rfl 60 (by decide) (htb (.fieldLink R_Md 323 "WaterMenModel" "pensioners" "I") tw_164) (fun _ h9 => h9) rfl d_Md_foretold_86 ?_
  refine lv_icmp_ge (tgt := 140) hx hb d_Md_foretold_89 (by decide) (fun _ => ?_) (fun h => absurd (by decide +kernel) h)
  refine lv_iinc (v := 23) (lv' := [(5, .int 23), (7, .int 0), (3, .long 0), (6, .int 2200), (1, .long 0), (0, .ref (a 0))]) hx hb d_Md_foretold_140 hl (k := 3) rfl (by decide +kernel) (by decide) rfl (fun ls hl => ?_)
  refine lv_goto (tgt := 54) hx hb d_Md_foretold_143 (by decide) ?_
  refine lv_iload hx hb d_Md_foretold_54 (lv_at hl 0 rfl) ?_
  refine lv_bipush (v := 40) hx hb d_Md_foretold_56 (by decide +kernel) ?_
  refine lv_icmp_gt (tgt := 146) hx hb d_Md_foretold_58 (by decide) (fun h => absurd h (by decide +kernel)) (fun _ => ?_)
  refine lv_aload_n hx hb d_Md_foretold_61 rfl (lv_at hl 5 rfl) ?_
  refine vp_callSi (va_Run.run (va_runV (As := []) (rest := []) ⟨hx, hb, hml, hown, htb⟩ (c_Md_today l dC dI a k) (cwV 0 htb (gd_V tw_118 tw_119 tw_120 tw_109 tw_117) rfl rfl rfl (by decide +kernel) ⟨Nat.le_of_ble_eq_true rfl, Nat.le_of_ble_eq_true rfl⟩) ⟨pr_blind, va_recv hK hP (ci := 7) (q0 := 0) rfl rfl, pr_pre hP hK hN⟩ rfl rfl hl.1 rfl (lv_room (Nat.le_of_ble_eq_true rfl)) d_Md_foretold_62 ⟨Nat.le_of_ble_eq_true rfl, Nat.le_of_ble_eq_true rfl⟩)) (fun r er => ?_)
  subst er
  refine hb_ti 0 rfl ?_
  refine lv_bipush (v := 100) hx hb d_Md_foretold_65 (by decide +kernel) ?_
  refine lv_idiv hx hb d_Md_foretold_67 (by decide) ?_
  refine hb_ti 0 (by decide +kernel) ?_
  refine lv_iload hx hb d_Md_foretold_68 (lv_at hl 0 rfl) ?_
  refine lv_iadd hx hb d_Md_foretold_70 ?_
  refine hb_ti 23 (by decide +kernel) ?_
  refine lv_bipush (v := 100) hx hb d_Md_foretold_71 (by decide +kernel) ?_
  refine lv_imul hx hb d_Md_foretold_73 ?_
  refine hb_ti 2300 (by decide +kernel) ?_
  refine lv_istore (lv' := [(6, .int 2300), (5, .int 23), (7, .int 0), (3, .long 0), (1, .long 0), (0, .ref (a 0))]) hx hb d_Md_foretold_74 hl (by decide) rfl (fun ls hl => ?_)
  refine lv_lload_n hx hb d_Md_foretold_76 rfl (lv_at hl 3 rfl) ?_
  refine lv_lload_n hx hb d_Md_foretold_77 rfl (lv_at hl 4 rfl) ?_
  refine lv_ladd hx hb d_Md_foretold_78 ?_
  refine hb_tl 0 (by decide +kernel) ?_
  refine lv_lstore_n (lv' := [(3, .long 0), (6, .int 2300), (5, .int 23), (7, .int 0), (1, .long 0), (0, .ref (a 0))]) hx hb d_Md_foretold_79 rfl hl (by decide) rfl (fun ls hl => ?_)
  refine lv_iconst (v := 0) hx hb d_Md_foretold_80 (by decide +kernel) ?_
  refine lv_istore (lv' := [(7, .int 0), (3, .long 0), (6, .int 2300), (5, .int 23), (1, .long 0), (0, .ref (a 0))]) hx hb d_Md_foretold_81 hl (by decide) rfl (fun ls hl => ?_)
  refine lv_iload hx hb d_Md_foretold_83 (lv_at hl 0 rfl) ?_
  refine lv_aload_n hx hb d_Md_foretold_85 rfl (lv_at hl 5 rfl) ?_
  refine va_get (D := (dC, dI)) (ci := 7) (v := .int 0) (C := R_Md) (T := F_Md) (N := 64) hx hb htb i_Md hown hK hP 0 rfl rfl 60 (by decide) (htb (.fieldLink R_Md 323 "WaterMenModel" "pensioners" "I") tw_164) (fun _ h9 => h9) rfl d_Md_foretold_86 ?_
  refine lv_icmp_ge (tgt := 140) hx hb d_Md_foretold_89 (by decide) (fun _ => ?_) (fun h => absurd (by decide +kernel) h)
  refine lv_iinc (v := 24) (lv' := [(5, .int 24), (7, .int 0), (3, .long 0), (6, .int 2300), (1, .long 0), (0, .ref (a 0))]) hx hb d_Md_foretold_140 hl (k := 3) rfl (by decide +kernel) (by decide) rfl (fun ls hl => ?_)
  refine lv_goto (tgt := 54) hx hb d_Md_foretold_143 (by decide) ?_
  refine lv_iload hx hb d_Md_foretold_54 (lv_at hl 0 rfl) ?_
  refine lv_bipush (v := 40) hx hb d_Md_foretold_56 (by decide +kernel) ?_
  refine lv_icmp_gt (tgt := 146) hx hb d_Md_foretold_58 (by decide) (fun h => absurd h (by decide +kernel)) (fun _ => ?_)
  refine lv_aload_n hx hb d_Md_foretold_61 rfl (lv_at hl 5 rfl) ?_
  refine vp_callSi (va_Run.run (va_runV (As := []) (rest := []) ⟨hx, hb, hml, hown, htb⟩ (c_Md_today l dC dI a k) (cwV 0 htb (gd_V tw_118 tw_119 tw_120 tw_109 tw_117) rfl rfl rfl (by decide +kernel) ⟨Nat.le_of_ble_eq_true rfl, Nat.le_of_ble_eq_true rfl⟩) ⟨pr_blind, va_recv hK hP (ci := 7) (q0 := 0) rfl rfl, pr_pre hP hK hN⟩ rfl rfl hl.1 rfl (lv_room (Nat.le_of_ble_eq_true rfl)) d_Md_foretold_62 ⟨Nat.le_of_ble_eq_true rfl, Nat.le_of_ble_eq_true rfl⟩)) (fun r er => ?_)
  subst er
  refine hb_ti 0 rfl ?_
  refine lv_bipush (v := 100) hx hb d_Md_foretold_65 (by decide +kernel) ?_
  refine lv_idiv hx hb d_Md_foretold_67 (by decide) ?_
  refine hb_ti 0 (by decide +kernel) ?_
  refine lv_iload hx hb d_Md_foretold_68 (lv_at hl 0 rfl) ?_
  refine lv_iadd hx hb d_Md_foretold_70 ?_
  refine hb_ti 24 (by decide +kernel) ?_
  refine lv_bipush (v := 100) hx hb d_Md_foretold_71 (by decide +kernel) ?_
  refine lv_imul hx hb d_Md_foretold_73 ?_
  refine hb_ti 2400 (by decide +kernel) ?_
  refine lv_istore (lv' := [(6, .int 2400), (5, .int 24), (7, .int 0), (3, .long 0), (1, .long 0), (0, .ref (a 0))]) hx hb d_Md_foretold_74 hl (by decide) rfl (fun ls hl => ?_)
  refine lv_lload_n hx hb d_Md_foretold_76 rfl (lv_at hl 3 rfl) ?_
  refine lv_lload_n hx hb d_Md_foretold_77 rfl (lv_at hl 4 rfl) ?_
  refine lv_ladd hx hb d_Md_foretold_78 ?_
  refine hb_tl 0 (by decide +kernel) ?_
  refine lv_lstore_n (lv' := [(3, .long 0), (6, .int 2400), (5, .int 24), (7, .int 0), (1, .long 0), (0, .ref (a 0))]) hx hb d_Md_foretold_79 rfl hl (by decide) rfl (fun ls hl => ?_)
  refine lv_iconst (v := 0) hx hb d_Md_foretold_80 (by decide +kernel) ?_
  refine lv_istore (lv' := [(7, .int 0), (3, .long 0), (6, .int 2400), (5, .int 24), (1, .long 0), (0, .ref (a 0))]) hx hb d_Md_foretold_81 hl (by decide) rfl (fun ls hl => ?_)
  refine lv_iload hx hb d_Md_foretold_83 (lv_at hl 0 rfl) ?_
  refine lv_aload_n hx hb d_Md_foretold_85 rfl (lv_at hl 5 rfl) ?_
  refine va_get (D := (dC, dI)) (ci := 7) (v := .int 0) (C := R_Md) (T := F_Md) (N := 64) hx hb htb i_Md hown hK hP 0 rfl rfl 60 (by decide) (htb (.fieldLink R_Md 323 "WaterMenModel" "pensioners" "I") tw_164) (fun _ h9 => h9) rfl d_Md_foretold_86 ?_
  refine lv_icmp_ge (tgt := 140) hx hb d_Md_foretold_89 (by decide) (fun _ => ?_) (fun h => absurd (by decide +kernel) h)
  refine lv_iinc (v := 25) (lv' := [(5, .int 25), (7, .int 0), (3, .long 0), (6, .int 2400), (1, .long 0), (0, .ref (a 0))]) hx hb d_Md_foretold_140 hl (k := 3) rfl (by decide +kernel) (by decide) rfl (fun ls hl => ?_)
  refine lv_goto (tgt := 54) hx hb d_Md_foretold_143 (by decide) ?_
  refine lv_iload hx hb d_Md_foretold_54 (lv_at hl 0 rfl) ?_
  refine lv_bipush (v := 40) hx hb d_Md_foretold_56 (by decide +kernel) ?_
  refine lv_icmp_gt (tgt := 146) hx hb d_Md_foretold_58 (by decide) (fun h => absurd h (by decide +kernel)) (fun _ => ?_)
  refine lv_aload_n hx hb d_Md_foretold_61 rfl (lv_at hl 5 rfl) ?_
  refine vp_callSi (va_Run.run (va_runV (As := []) (rest := []) ⟨hx, hb, hml, hown, htb⟩ (c_Md_today l dC dI a k) (cwV 0 htb (gd_V tw_118 tw_119 tw_120 tw_109 tw_117) rfl rfl rfl (by decide +kernel) ⟨Nat.le_of_ble_eq_true rfl, Nat.le_of_ble_eq_true rfl⟩) ⟨pr_blind, va_recv hK hP (ci := 7) (q0 := 0) rfl rfl, pr_pre hP hK hN⟩ rfl rfl hl.1 rfl (lv_room (Nat.le_of_ble_eq_true rfl)) d_Md_foretold_62 ⟨Nat.le_of_ble_eq_true rfl, Nat.le_of_ble_eq_true rfl⟩)) (fun r er => ?_)
  subst er
  refine hb_ti 0 rfl ?_
  refine lv_bipush (v := 100) hx hb d_Md_foretold_65 (by decide +kernel) ?_
  refine lv_idiv hx hb d_Md_foretold_67 (by decide) ?_
  refine hb_ti 0 (by decide +kernel) ?_
  refine lv_iload hx hb d_Md_foretold_68 (lv_at hl 0 rfl) ?_
  refine lv_iadd hx hb d_Md_foretold_70 ?_
  refine hb_ti 25 (by decide +kernel) ?_
  refine lv_bipush (v := 100) hx hb d_Md_foretold_71 (by decide +kernel) ?_
  refine lv_imul hx hb d_Md_foretold_73 ?_
  refine hb_ti 2500 (by decide +kernel) ?_
  refine lv_istore (lv' := [(6, .int 2500), (5, .int 25), (7, .int 0), (3, .long 0), (1, .long 0), (0, .ref (a 0))]) hx hb d_Md_foretold_74 hl (by decide) rfl (fun ls hl => ?_)
  refine lv_lload_n hx hb d_Md_foretold_76 rfl (lv_at hl 3 rfl) ?_
  refine lv_lload_n hx hb d_Md_foretold_77 rfl (lv_at hl 4 rfl) ?_
  refine lv_ladd hx hb d_Md_foretold_78 ?_
  refine hb_tl 0 (by decide +kernel) ?_
  refine lv_lstore_n (lv' := [(3, .long 0), (6, .int 2500), (5, .int 25), (7, .int 0), (1, .long 0), (0, .ref (a 0))]) hx hb d_Md_foretold_79 rfl hl (by decide) rfl (fun ls hl => ?_)
  refine lv_iconst (v := 0) hx hb d_Md_foretold_80 (by decide +kernel) ?_
  refine lv_istore (lv' := [(7, .int 0), (3, .long 0), (6, .int 2500), (5, .int 25), (1, .long 0), (0, .ref (a 0))]) hx hb d_Md_foretold_81 hl (by decide) rfl (fun ls hl => ?_)
  refine lv_iload hx hb d_Md_foretold_83 (lv_at hl 0 rfl) ?_
  refine lv_aload_n hx hb d_Md_foretold_85 rfl (lv_at hl 5 rfl) ?_
  refine va_get (D := (dC, dI)) (ci := 7) (v := .int 0) (C := R_Md) (T := F_Md) (N := 64) hx hb htb i_Md hown hK hP 0 rfl rfl 60 (by decide) (htb (.fieldLink R_Md 323 "WaterMenModel" "pensioners" "I") tw_164) (fun _ h9 => h9) rfl d_Md_foretold_86 ?_
  refine lv_icmp_ge (tgt := 140) hx hb d_Md_foretold_89 (by decide) (fun _ => ?_) (fun h => absurd (by decide +kernel) h)
  refine lv_iinc (v := 26) (lv' := [(5, .int 26), (7, .int 0), (3, .long 0), (6, .int 2500), (1, .long 0), (0, .ref (a 0))]) hx hb d_Md_foretold_140 hl (k := 3) rfl (by decide +kernel) (by decide) rfl (fun ls hl => ?_)
  refine lv_goto (tgt := 54) hx hb d_Md_foretold_143 (by decide) ?_
  refine lv_iload hx hb d_Md_foretold_54 (lv_at hl 0 rfl) ?_
  refine lv_bipush (v := 40) hx hb d_Md_foretold_56 (by decide +kernel) ?_
  refine lv_icmp_gt (tgt := 146) hx hb d_Md_foretold_58 (by decide) (fun h => absurd h (by decide +kernel)) (fun _ => ?_)
  refine lv_aload_n hx hb d_Md_foretold_61 rfl (lv_at hl 5 rfl) ?_
  refine vp_callSi (va_Run.run (va_runV (As := []) (rest := []) ⟨hx, hb, hml, hown, htb⟩ (c_Md_today l dC dI a k) (cwV 0 htb (gd_V tw_118 tw_119 tw_120 tw_109 tw_117) rfl rfl rfl (by decide +kernel) ⟨Nat.le_of_ble_eq_true rfl, Nat.le_of_ble_eq_true rfl⟩) ⟨pr_blind, va_recv hK hP (ci := 7) (q0 := 0) rfl rfl, pr_pre hP hK hN⟩ rfl rfl hl.1 rfl (lv_room (Nat.le_of_ble_eq_true rfl)) d_Md_foretold_62 ⟨Nat.le_of_ble_eq_true rfl, Nat.le_of_ble_eq_true rfl⟩)) (fun r er => ?_)
  subst er
  refine hb_ti 0 rfl ?_
  refine lv_bipush (v := 100) hx hb d_Md_foretold_65 (by decide +kernel) ?_
  refine lv_idiv hx hb d_Md_foretold_67 (by decide) ?_
  refine hb_ti 0 (by decide +kernel) ?_
  refine lv_iload hx hb d_Md_foretold_68 (lv_at hl 0 rfl) ?_
  refine lv_iadd hx hb d_Md_foretold_70 ?_
  refine hb_ti 26 (by decide +kernel) ?_
  refine lv_bipush (v := 100) hx hb d_Md_foretold_71 (by decide +kernel) ?_
  refine lv_imul hx hb d_Md_foretold_73 ?_
  refine hb_ti 2600 (by decide +kernel) ?_
  refine lv_istore (lv' := [(6, .int 2600), (5, .int 26), (7, .int 0), (3, .long 0), (1, .long 0), (0, .ref (a 0))]) hx hb d_Md_foretold_74 hl (by decide) rfl (fun ls hl => ?_)
  refine lv_lload_n hx hb d_Md_foretold_76 rfl (lv_at hl 3 rfl) ?_
  refine lv_lload_n hx hb d_Md_foretold_77 rfl (lv_at hl 4 rfl) ?_
  refine lv_ladd hx hb d_Md_foretold_78 ?_
  refine hb_tl 0 (by decide +kernel) ?_
  refine lv_lstore_n (lv' := [(3, .long 0), (6, .int 2600), (5, .int 26), (7, .int 0), (1, .long 0), (0, .ref (a 0))]) hx hb d_Md_foretold_79 rfl hl (by decide) rfl (fun ls hl => ?_)
  refine lv_iconst (v := 0) hx hb d_Md_foretold_80 (by decide +kernel) ?_
  refine lv_istore (lv' := [(7, .int 0), (3, .long 0), (6, .int 2600), (5, .int 26), (1, .long 0), (0, .ref (a 0))]) hx hb d_Md_foretold_81 hl (by decide) rfl (fun ls hl => ?_)
  refine lv_iload hx hb d_Md_foretold_83 (lv_at hl 0 rfl) ?_
  refine lv_aload_n hx hb d_Md_foretold_85 rfl (lv_at hl 5 rfl) ?_
  refine va_get (D := (dC, dI)) (ci := 7) (v := .int 0) (C := R_Md) (T := F_Md) (N := 64) hx hb htb i_Md hown hK hP 0 rfl rfl 60 (by decide) (htb (.fieldLink R_Md 323 "WaterMenModel" "pensioners" "I") tw_164) (fun _ h9 => h9) rfl d_Md_foretold_86 ?_
  refine lv_icmp_ge (tgt := 140) hx hb d_Md_foretold_89 (by decide) (fun _ => ?_) (fun h => absurd (by decide +kernel) h)
  refine lv_iinc (v := 27) (lv' := [(5, .int 27), (7, .int 0), (3, .long 0), (6, .int 2600), (1, .long 0), (0, .ref (a 0))]) hx hb d_Md_foretold_140 hl (k := 3) rfl (by decide +kernel) (by decide) rfl (fun ls hl => ?_)
  refine lv_goto (tgt := 54) hx hb d_Md_foretold_143 (by decide) ?_
  refine lv_iload hx hb d_Md_foretold_54 (lv_at hl 0 rfl) ?_
  refine lv_bipush (v := 40) hx hb d_Md_foretold_56 (by decide +kernel) ?_
  refine lv_icmp_gt (tgt := 146) hx hb d_Md_foretold_58 (by decide) (fun h => absurd h (by decide +kernel)) (fun _ => ?_)
  refine lv_aload_n hx hb d_Md_foretold_61 rfl (lv_at hl 5 rfl) ?_
  refine vp_callSi (va_Run.run (va_runV (As := []) (rest := []) ⟨hx, hb, hml, hown, htb⟩ (c_Md_today l dC dI a k) (cwV 0 htb (gd_V tw_118 tw_119 tw_120 tw_109 tw_117) rfl rfl rfl (by decide +kernel) ⟨Nat.le_of_ble_eq_true rfl, Nat.le_of_ble_eq_true rfl⟩) ⟨pr_blind, va_recv hK hP (ci := 7) (q0 := 0) rfl rfl, pr_pre hP hK hN⟩ rfl rfl hl.1 rfl (lv_room (Nat.le_of_ble_eq_true rfl)) d_Md_foretold_62 ⟨Nat.le_of_ble_eq_true rfl, Nat.le_of_ble_eq_true rfl⟩)) (fun r er => ?_)
  subst er
  refine hb_ti 0 rfl ?_
  refine lv_bipush (v := 100) hx hb d_Md_foretold_65 (by decide +kernel) ?_
  refine lv_idiv hx hb d_Md_foretold_67 (by decide) ?_
  refine hb_ti 0 (by decide +kernel) ?_
  refine lv_iload hx hb d_Md_foretold_68 (lv_at hl 0 rfl) ?_
  refine lv_iadd hx hb d_Md_foretold_70 ?_
  refine hb_ti 27 (by decide +kernel) ?_
  refine lv_bipush (v := 100) hx hb d_Md_foretold_71 (by decide +kernel) ?_
  refine lv_imul hx hb d_Md_foretold_73 ?_
  refine hb_ti 2700 (by decide +kernel) ?_
  refine lv_istore (lv' := [(6, .int 2700), (5, .int 27), (7, .int 0), (3, .long 0), (1, .long 0), (0, .ref (a 0))]) hx hb d_Md_foretold_74 hl (by decide) rfl (fun ls hl => ?_)
  refine lv_lload_n hx hb d_Md_foretold_76 rfl (lv_at hl 3 rfl) ?_
  refine lv_lload_n hx hb d_Md_foretold_77 rfl (lv_at hl 4 rfl) ?_
  refine lv_ladd hx hb d_Md_foretold_78 ?_
  refine hb_tl 0 (by decide +kernel) ?_
  refine lv_lstore_n (lv' := [(3, .long 0), (6, .int 2700), (5, .int 27), (7, .int 0), (1, .long 0), (0, .ref (a 0))]) hx hb d_Md_foretold_79 rfl hl (by decide) rfl (fun ls hl => ?_)
  refine lv_iconst (v := 0) hx hb d_Md_foretold_80 (by decide +kernel) ?_
  refine lv_istore (lv' := [(7, .int 0), (3, .long 0), (6, .int 2700), (5, .int 27), (1, .long 0), (0, .ref (a 0))]) hx hb d_Md_foretold_81 hl (by decide) rfl (fun ls hl => ?_)
  refine lv_iload hx hb d_Md_foretold_83 (lv_at hl 0 rfl) ?_
  refine lv_aload_n hx hb d_Md_foretold_85 rfl (lv_at hl 5 rfl) ?_
  refine va_get (D := (dC, dI)) (ci := 7) (v := .int 0) (C := R_Md) (T := F_Md) (N := 64) hx hb htb i_Md hown hK hP 0 rfl rfl 60 (by decide) (htb (.fieldLink R_Md 323 "WaterMenModel" "pensioners" "I") tw_164) (fun _ h9 => h9) rfl d_Md_foretold_86 ?_
  refine lv_icmp_ge (tgt := 140) hx hb d_Md_foretold_89 (by decide) (fun _ => ?_) (fun h => absurd (by decide +kernel) h)
  refine lv_iinc (v := 28) (lv' := [(5, .int 28), (7, .int 0), (3, .long 0), (6, .int 2700), (1, .long 0), (0, .ref (a 0))]) hx hb d_Md_foretold_140 hl (k := 3) rfl (by decide +kernel) (by decide) rfl (fun ls hl => ?_)
  refine lv_goto (tgt := 54) hx hb d_Md_foretold_143 (by decide) ?_
  refine lv_iload hx hb d_Md_foretold_54 (lv_at hl 0 rfl) ?_
  refine lv_bipush (v := 40) hx hb d_Md_foretold_56 (by decide +kernel) ?_
  refine lv_icmp_gt (tgt := 146) hx hb d_Md_foretold_58 (by decide) (fun h => absurd h (by decide +kernel)) (fun _ => ?_)
  refine lv_aload_n hx hb d_Md_foretold_61 rfl (lv_at hl 5 rfl) ?_
  refine vp_callSi (va_Run.run (va_runV (As := []) (rest := []) ⟨hx, hb, hml, hown, htb⟩ (c_Md_today l dC dI a k) (cwV 0 htb (gd_V tw_118 tw_119 tw_120 tw_109 tw_117) rfl rfl rfl (by decide +kernel) ⟨Nat.le_of_ble_eq_true rfl, Nat.le_of_ble_eq_true rfl⟩) ⟨pr_blind, va_recv hK hP (ci := 7) (q0 := 0) rfl rfl, pr_pre hP hK hN⟩ rfl rfl hl.1 rfl (lv_room (Nat.le_of_ble_eq_true rfl)) d_Md_foretold_62 ⟨Nat.le_of_ble_eq_true rfl, Nat.le_of_ble_eq_true rfl⟩)) (fun r er => ?_)
  subst er
  refine hb_ti 0 rfl ?_
  refine lv_bipush (v := 100) hx hb d_Md_foretold_65 (by decide +kernel) ?_
  refine lv_idiv hx hb d_Md_foretold_67 (by decide) ?_
  refine hb_ti 0 (by decide +kernel) ?_
  refine lv_iload hx hb d_Md_foretold_68 (lv_at hl 0 rfl) ?_
  refine lv_iadd hx hb d_Md_foretold_70 ?_
  refine hb_ti 28 (by decide +kernel) ?_
  refine lv_bipush (v := 100) hx hb d_Md_foretold_71 (by decide +kernel) ?_
  refine lv_imul hx hb d_Md_foretold_73 ?_
  refine hb_ti 2800 (by decide +kernel) ?_
  refine lv_istore (lv' := [(6, .int 2800), (5, .int 28), (7, .int 0), (3, .long 0), (1, .long 0), (0, .ref (a 0))]) hx hb d_Md_foretold_74 hl (by decide) rfl (fun ls hl => ?_)
  refine lv_lload_n hx hb d_Md_foretold_76 rfl (lv_at hl 3 rfl) ?_
  refine lv_lload_n hx hb d_Md_foretold_77 rfl (lv_at hl 4 rfl) ?_
  refine lv_ladd hx hb d_Md_foretold_78 ?_
  refine hb_tl 0 (by decide +kernel) ?_
  refine lv_lstore_n (lv' := [(3, .long 0), (6, .int 2800), (5, .int 28), (7, .int 0), (1, .long 0), (0, .ref (a 0))]) hx hb d_Md_foretold_79 rfl hl (by decide) rfl (fun ls hl => ?_)
  refine lv_iconst (v := 0) hx hb d_Md_foretold_80 (by decide +kernel) ?_
  refine lv_istore (lv' := [(7, .int 0), (3, .long 0), (6, .int 2800), (5, .int 28), (1, .long 0), (0, .ref (a 0))]) hx hb d_Md_foretold_81 hl (by decide) rfl (fun ls hl => ?_)
  refine lv_iload hx hb d_Md_foretold_83 (lv_at hl 0 rfl) ?_
  refine lv_aload_n hx hb d_Md_foretold_85 rfl (lv_at hl 5 rfl) ?_
  refine va_get (D := (dC, dI)) (ci := 7) (v := .int 0) (C := R_Md) (T := F_Md) (N := 64) hx hb htb i_Md hown hK hP 0 rfl rfl 60 (by decide) (htb (.fieldLink R_Md 323 "WaterMenModel" "pensioners" "I") tw_164) (fun _ h9 => h9) rfl d_Md_foretold_86 ?_
  refine lv_icmp_ge (tgt := 140) hx hb d_Md_foretold_89 (by decide) (fun _ => ?_) (fun h => absurd (by decide +kernel) h)
  refine lv_iinc (v := 29) (lv' := [(5, .int 29), (7, .int 0), (3, .long 0), (6, .int 2800), (1, .long 0), (0, .ref (a 0))]) hx hb d_Md_foretold_140 hl (k := 3) rfl (by decide +kernel) (by decide) rfl (fun ls hl => ?_)
  refine lv_goto (tgt := 54) hx hb d_Md_foretold_143 (by decide) ?_
  refine lv_iload hx hb d_Md_foretold_54 (lv_at hl 0 rfl) ?_
  refine lv_bipush (v := 40) hx hb d_Md_foretold_56 (by decide +kernel) ?_
  refine lv_icmp_gt (tgt := 146) hx hb d_Md_foretold_58 (by decide) (fun h => absurd h (by decide +kernel)) (fun _ => ?_)
  refine lv_aload_n hx hb d_Md_foretold_61 rfl (lv_at hl 5 rfl) ?_
  refine vp_callSi (va_Run.run (va_runV (As := []) (rest := []) ⟨hx, hb, hml, hown, htb⟩ (c_Md_today l dC dI a k) (cwV 0 htb (gd_V tw_118 tw_119 tw_120 tw_109 tw_117) rfl rfl rfl (by decide +kernel) ⟨Nat.le_of_ble_eq_true rfl, Nat.le_of_ble_eq_true rfl⟩) ⟨pr_blind, va_recv hK hP (ci := 7) (q0 := 0) rfl rfl, pr_pre hP hK hN⟩ rfl rfl hl.1 rfl (lv_room (Nat.le_of_ble_eq_true rfl)) d_Md_foretold_62 ⟨Nat.le_of_ble_eq_true rfl, Nat.le_of_ble_eq_true rfl⟩)) (fun r er => ?_)
  subst er
  refine hb_ti 0 rfl ?_
  refine lv_bipush (v := 100) hx hb d_Md_foretold_65 (by decide +kernel) ?_
  refine lv_idiv hx hb d_Md_foretold_67 (by decide) ?_
  refine hb_ti 0 (by decide +kernel) ?_
  refine lv_iload hx hb d_Md_foretold_68 (lv_at hl 0 rfl) ?_
  refine lv_iadd hx hb d_Md_foretold_70 ?_
  refine hb_ti 29 (by decide +kernel) ?_
  refine lv_bipush (v := 100) hx hb d_Md_foretold_71 (by decide +kernel) ?_
  refine lv_imul hx hb d_Md_foretold_73 ?_
  refine hb_ti 2900 (by decide +kernel) ?_
  refine lv_istore (lv' := [(6, .int 2900), (5, .int 29), (7, .int 0), (3, .long 0), (1, .long 0), (0, .ref (a 0))]) hx hb d_Md_foretold_74 hl (by decide) rfl (fun ls hl => ?_)
  refine lv_lload_n hx hb d_Md_foretold_76 rfl (lv_at hl 3 rfl) ?_
  refine lv_lload_n hx hb d_Md_foretold_77 rfl (lv_at hl 4 rfl) ?_
  refine lv_ladd hx hb d_Md_foretold_78 ?_
  refine hb_tl 0 (by decide +kernel) ?_
  refine lv_lstore_n (lv' := [(3, .long 0), (6, .int 2900), (5, .int 29), (7, .int 0), (1, .long 0), (0, .ref (a 0))]) hx hb d_Md_foretold_79 rfl hl (by decide) rfl (fun ls hl => ?_)
  refine lv_iconst (v := 0) hx hb d_Md_foretold_80 (by decide +kernel) ?_
  refine lv_istore (lv' := [(7, .int 0), (3, .long 0), (6, .int 2900), (5, .int 29), (1, .long 0), (0, .ref (a 0))]) hx hb d_Md_foretold_81 hl (by decide) rfl (fun ls hl => ?_)
  refine lv_iload hx hb d_Md_foretold_83 (lv_at hl 0 rfl) ?_
  refine lv_aload_n hx hb d_Md_foretold_85 rfl (lv_at hl 5 rfl) ?_
  refine va_get (D := (dC, dI)) (ci := 7) (v := .int 0) (C := R_Md) (T := F_Md) (N := 64) hx hb htb i_Md hown hK hP 0 rfl rfl 60 (by decide) (htb (.fieldLink R_Md 323 "WaterMenModel" "pensioners" "I") tw_164) (fun _ h9 => h9) rfl d_Md_foretold_86 ?_
  refine lv_icmp_ge (tgt := 140) hx hb d_Md_foretold_89 (by decide) (fun _ => ?_) (fun h => absurd (by decide +kernel) h)
  refine lv_iinc (v := 30) (lv' := [(5, .int 30), (7, .int 0), (3, .long 0), (6, .int 2900), (1, .long 0), (0, .ref (a 0))]) hx hb d_Md_foretold_140 hl (k := 3) rfl (by decide +kernel) (by decide) rfl (fun ls hl => ?_)
  refine lv_goto (tgt := 54) hx hb d_Md_foretold_143 (by decide) ?_
  refine lv_iload hx hb d_Md_foretold_54 (lv_at hl 0 rfl) ?_
  refine lv_bipush (v := 40) hx hb d_Md_foretold_56 (by decide +kernel) ?_
  refine lv_icmp_gt (tgt := 146) hx hb d_Md_foretold_58 (by decide) (fun h => absurd h (by decide +kernel)) (fun _ => ?_)
  refine lv_aload_n hx hb d_Md_foretold_61 rfl (lv_at hl 5 rfl) ?_
  refine vp_callSi (va_Run.run (va_runV (As := []) (rest := []) ⟨hx, hb, hml, hown, htb⟩ (c_Md_today l dC dI a k) (cwV 0 htb (gd_V tw_118 tw_119 tw_120 tw_109 tw_117) rfl rfl rfl (by decide +kernel) ⟨Nat.le_of_ble_eq_true rfl, Nat.le_of_ble_eq_true rfl⟩) ⟨pr_blind, va_recv hK hP (ci := 7) (q0 := 0) rfl rfl, pr_pre hP hK hN⟩ rfl rfl hl.1 rfl (lv_room (Nat.le_of_ble_eq_true rfl)) d_Md_foretold_62 ⟨Nat.le_of_ble_eq_true rfl, Nat.le_of_ble_eq_true rfl⟩)) (fun r er => ?_)
  subst er
  refine hb_ti 0 rfl ?_
  refine lv_bipush (v := 100) hx hb d_Md_foretold_65 (by decide +kernel) ?_
  refine lv_idiv hx hb d_Md_foretold_67 (by decide) ?_
  refine hb_ti 0 (by decide +kernel) ?_
  refine lv_iload hx hb d_Md_foretold_68 (lv_at hl 0 rfl) ?_
  refine lv_iadd hx hb d_Md_foretold_70 ?_
  refine hb_ti 30 (by decide +kernel) ?_
  refine lv_bipush (v := 100) hx hb d_Md_foretold_71 (by decide +kernel) ?_
  refine lv_imul hx hb d_Md_foretold_73 ?_
  refine hb_ti 3000 (by decide +kernel) ?_
  refine lv_istore (lv' := [(6, .int 3000), (5, .int 30), (7, .int 0), (3, .long 0), (1, .long 0), (0, .ref (a 0))]) hx hb d_Md_foretold_74 hl (by decide) rfl (fun ls hl => ?_)
  refine lv_lload_n hx hb d_Md_foretold_76 rfl (lv_at hl 3 rfl) ?_
  refine lv_lload_n hx hb d_Md_foretold_77 rfl (lv_at hl 4 rfl) ?_
  refine lv_ladd hx hb d_Md_foretold_78 ?_
  refine hb_tl 0 (by decide +kernel) ?_
  refine lv_lstore_n (lv' := [(3, .long 0), (6, .int 3000), (5, .int 30), (7, .int 0), (1, .long 0), (0, .ref (a 0))]) hx hb d_Md_foretold_79 rfl hl (by decide) rfl (fun ls hl => ?_)
  refine lv_iconst (v := 0) hx hb d_Md_foretold_80 (by decide +kernel) ?_
  refine lv_istore (lv' := [(7, .int 0), (3, .long 0), (6, .int 3000), (5, .int 30), (1, .long 0), (0, .ref (a 0))]) hx hb d_Md_foretold_81 hl (by decide) rfl (fun ls hl => ?_)
  refine lv_iload hx hb d_Md_foretold_83 (lv_at hl 0 rfl) ?_
  refine lv_aload_n hx hb d_Md_foretold_85 rfl (lv_at hl 5 rfl) ?_
  refine va_get (D := (dC, dI)) (ci := 7) (v := .int 0) (C := R_Md) (T := F_Md) (N := 64) hx hb htb i_Md hown hK hP 0 rfl rfl 60 (by decide) (htb (.fieldLink R_Md 323 "WaterMenModel" "pensioners" "I") tw_164) (fun _ h9 => h9) rfl d_Md_foretold_86 ?_
  refine lv_icmp_ge (tgt := 140) hx hb d_Md_foretold_89 (by decide) (fun _ => ?_) (fun h => absurd (by decide +kernel) h)
  refine lv_iinc (v := 31) (lv' := [(5, .int 31), (7, .int 0), (3, .long 0), (6, .int 3000), (1, .long 0), (0, .ref (a 0))]) hx hb d_Md_foretold_140 hl (k := 3) rfl (by decide +kernel) (by decide) rfl (fun ls hl => ?_)
  refine lv_goto (tgt := 54) hx hb d_Md_foretold_143 (by decide) ?_
  refine lv_iload hx hb d_Md_foretold_54 (lv_at hl 0 rfl) ?_
  refine lv_bipush (v := 40) hx hb d_Md_foretold_56 (by decide +kernel) ?_
  refine lv_icmp_gt (tgt := 146) hx hb d_Md_foretold_58 (by decide) (fun h => absurd h (by decide +kernel)) (fun _ => ?_)
  refine lv_aload_n hx hb d_Md_foretold_61 rfl (lv_at hl 5 rfl) ?_
  refine vp_callSi (va_Run.run (va_runV (As := []) (rest := []) ⟨hx, hb, hml, hown, htb⟩ (c_Md_today l dC dI a k) (cwV 0 htb (gd_V tw_118 tw_119 tw_120 tw_109 tw_117) rfl rfl rfl (by decide +kernel) ⟨Nat.le_of_ble_eq_true rfl, Nat.le_of_ble_eq_true rfl⟩) ⟨pr_blind, va_recv hK hP (ci := 7) (q0 := 0) rfl rfl, pr_pre hP hK hN⟩ rfl rfl hl.1 rfl (lv_room (Nat.le_of_ble_eq_true rfl)) d_Md_foretold_62 ⟨Nat.le_of_ble_eq_true rfl, Nat.le_of_ble_eq_true rfl⟩)) (fun r er => ?_)
  subst er
  refine hb_ti 0 rfl ?_
  refine lv_bipush (v := 100) hx hb d_Md_foretold_65 (by decide +kernel) ?_
  refine lv_idiv hx hb d_Md_foretold_67 (by decide) ?_
  refine hb_ti 0 (by decide +kernel) ?_
  refine lv_iload hx hb d_Md_foretold_68 (lv_at hl 0 rfl) ?_
  refine lv_iadd hx hb d_Md_foretold_70 ?_
  refine hb_ti 31 (by decide +kernel) ?_
  refine lv_bipush (v := 100) hx hb d_Md_foretold_71 (by decide +kernel) ?_
  refine lv_imul hx hb d_Md_foretold_73 ?_
  refine hb_ti 3100 (by decide +kernel) ?_
  refine lv_istore (lv' := [(6, .int 3100), (5, .int 31), (7, .int 0), (3, .long 0), (1, .long 0), (0, .ref (a 0))]) hx hb d_Md_foretold_74 hl (by decide) rfl (fun ls hl => ?_)
  refine lv_lload_n hx hb d_Md_foretold_76 rfl (lv_at hl 3 rfl) ?_
  refine lv_lload_n hx hb d_Md_foretold_77 rfl (lv_at hl 4 rfl) ?_
  refine lv_ladd hx hb d_Md_foretold_78 ?_
  refine hb_tl 0 (by decide +kernel) ?_
  refine lv_lstore_n (lv' := [(3, .long 0), (6, .int 3100), (5, .int 31), (7, .int 0), (1, .long 0), (0, .ref (a 0))]) hx hb d_Md_foretold_79 rfl hl (by decide) rfl (fun ls hl => ?_)
  refine lv_iconst (v := 0) hx hb d_Md_foretold_80 (by decide +kernel) ?_
  refine lv_istore (lv' := [(7, .int 0), (3, .long 0), (6, .int 3100), (5, .int 31), (1, .long 0), (0, .ref (a 0))]) hx hb d_Md_foretold_81 hl (by decide) rfl (fun ls hl => ?_)
  refine lv_iload hx hb d_Md_foretold_83 (lv_at hl 0 rfl) ?_
  refine lv_aload_n hx hb d_Md_foretold_85 rfl (lv_at hl 5 rfl) ?_
  refine va_get (D := (dC, dI)) (ci := 7) (v := .int 0) (C := R_Md) (T := F_Md) (N := 64) hx hb htb i_Md hown hK hP 0 rfl rfl 60 (by decide) (htb (.fieldLink R_Md 323 "WaterMenModel" "pensioners" "I") tw_164) (fun _ h9 => h9) rfl d_Md_foretold_86 ?_
  refine lv_icmp_ge (tgt := 140) hx hb d_Md_foretold_89 (by decide) (fun _ => ?_) (fun h => absurd (by decide +kernel) h)
  refine lv_iinc (v := 32) (lv' := [(5, .int 32), (7, .int 0), (3, .long 0), (6, .int 3100), (1, .long 0), (0, .ref (a 0))]) hx hb d_Md_foretold_140 hl (k := 3) rfl (by decide +kernel) (by decide) rfl (fun ls hl => ?_)
  refine lv_goto (tgt := 54) hx hb d_Md_foretold_143 (by decide) ?_
  refine lv_iload hx hb d_Md_foretold_54 (lv_at hl 0 rfl) ?_
  refine lv_bipush (v := 40) hx hb d_Md_foretold_56 (by decide +kernel) ?_
  refine lv_icmp_gt (tgt := 146) hx hb d_Md_foretold_58 (by decide) (fun h => absurd h (by decide +kernel)) (fun _ => ?_)
  refine lv_aload_n hx hb d_Md_foretold_61 rfl (lv_at hl 5 rfl) ?_
  refine vp_callSi (va_Run.run (va_runV (As := []) (rest := []) ⟨hx, hb, hml, hown, htb⟩ (c_Md_today l dC dI a k) (cwV 0 htb (gd_V tw_118 tw_119 tw_120 tw_109 tw_117) rfl rfl rfl (by decide +kernel) ⟨Nat.le_of_ble_eq_true rfl, Nat.le_of_ble_eq_true rfl⟩) ⟨pr_blind, va_recv hK hP (ci := 7) (q0 := 0) rfl rfl, pr_pre hP hK hN⟩ rfl rfl hl.1 rfl (lv_room (Nat.le_of_ble_eq_true rfl)) d_Md_foretold_62 ⟨Nat.le_of_ble_eq_true rfl, Nat.le_of_ble_eq_true rfl⟩)) (fun r er => ?_)
  subst er
  refine hb_ti 0 rfl ?_
  refine lv_bipush (v := 100) hx hb d_Md_foretold_65 (by decide +kernel) ?_
  refine lv_idiv hx hb d_Md_foretold_67 (by decide) ?_
  refine hb_ti 0 (by decide +kernel) ?_
  refine lv_iload hx hb d_Md_foretold_68 (lv_at hl 0 rfl) ?_
  refine lv_iadd hx hb d_Md_foretold_70 ?_
  refine hb_ti 32 (by decide +kernel) ?_
  refine lv_bipush (v := 100) hx hb d_Md_foretold_71 (by decide +kernel) ?_
  refine lv_imul hx hb d_Md_foretold_73 ?_
  refine hb_ti 3200 (by decide +kernel) ?_
  refine lv_istore (lv' := [(6, .int 3200), (5, .int 32), (7, .int 0), (3, .long 0), (1, .long 0), (0, .ref (a 0))]) hx hb d_Md_foretold_74 hl (by decide) rfl (fun ls hl => ?_)
  refine lv_lload_n hx hb d_Md_foretold_76 rfl (lv_at hl 3 rfl) ?_
  refine lv_lload_n hx hb d_Md_foretold_77 rfl (lv_at hl 4 rfl) ?_
  refine lv_ladd hx hb d_Md_foretold_78 ?_
  refine hb_tl 0 (by decide +kernel) ?_
  refine lv_lstore_n (lv' := [(3, .long 0), (6, .int 3200), (5, .int 32), (7, .int 0), (1, .long 0), (0, .ref (a 0))]) hx hb d_Md_foretold_79 rfl hl (by decide) rfl (fun ls hl => ?_)
  refine lv_iconst (v := 0) hx hb d_Md_foretold_80 (by decide +kernel) ?_
  refine lv_istore (lv' := [(7, .int 0), (3, .long 0), (6, .int 3200), (5, .int 32), (1, .long 0), (0, .ref (a 0))]) hx hb d_Md_foretold_81 hl (by decide) rfl (fun ls hl => ?_)
  refine lv_iload hx hb d_Md_foretold_83 (lv_at hl 0 rfl) ?_
  refine lv_aload_n hx hb d_Md_foretold_85 rfl (lv_at hl 5 rfl) ?_
  refine va_get (D := (dC, dI)) (ci := 7) (v := .int 0) (C := R_Md) (T := F_Md) (N := 64) hx hb htb i_Md hown hK hP 0 rfl rfl 60 (by decide) (htb (.fieldLink R_Md 323 "WaterMenModel" "pensioners" "I") tw_164) (fun _ h9 => h9) rfl d_Md_foretold_86 ?_
  refine lv_icmp_ge (tgt := 140) hx hb d_Md_foretold_89 (by decide) (fun _ => ?_) (fun h => absurd (by decide +kernel) h)
  refine lv_iinc (v := 33) (lv' := [(5, .int 33), (7, .int 0), (3, .long 0), (6, .int 3200), (1, .long 0), (0, .ref (a 0))]) hx hb d_Md_foretold_140 hl (k := 3) rfl (by decide +kernel) (by decide) rfl (fun ls hl => ?_)
  refine lv_goto (tgt := 54) hx hb d_Md_foretold_143 (by decide) ?_
  refine lv_iload hx hb d_Md_foretold_54 (lv_at hl 0 rfl) ?_
  refine lv_bipush (v := 40) hx hb d_Md_foretold_56 (by decide +kernel) ?_
  refine lv_icmp_gt (tgt := 146) hx hb d_Md_foretold_58 (by decide) (fun h => absurd h (by decide +kernel)) (fun _ => ?_)
  refine lv_aload_n hx hb d_Md_foretold_61 rfl (lv_at hl 5 rfl) ?_
  refine vp_callSi (va_Run.run (va_runV (As := []) (rest := []) ⟨hx, hb, hml, hown, htb⟩ (c_Md_today l dC dI a k) (cwV 0 htb (gd_V tw_118 tw_119 tw_120 tw_109 tw_117) rfl rfl rfl (by decide +kernel) ⟨Nat.le_of_ble_eq_true rfl, Nat.le_of_ble_eq_true rfl⟩) ⟨pr_blind, va_recv hK hP (ci := 7) (q0 := 0) rfl rfl, pr_pre hP hK hN⟩ rfl rfl hl.1 rfl (lv_room (Nat.le_of_ble_eq_true rfl)) d_Md_foretold_62 ⟨Nat.le_of_ble_eq_true rfl, Nat.le_of_ble_eq_true rfl⟩)) (fun r er => ?_)
  subst er
  refine hb_ti 0 rfl ?_
  refine lv_bipush (v := 100) hx hb d_Md_foretold_65 (by decide +kernel) ?_
  refine lv_idiv hx hb d_Md_foretold_67 (by decide) ?_
  refine hb_ti 0 (by decide +kernel) ?_
  refine lv_iload hx hb d_Md_foretold_68 (lv_at hl 0 rfl) ?_
  refine lv_iadd hx hb d_Md_foretold_70 ?_
  refine hb_ti 33 (by decide +kernel) ?_
  refine lv_bipush (v := 100) hx hb d_Md_foretold_71 (by decide +kernel) ?_
  refine lv_imul hx hb d_Md_foretold_73 ?_
  refine hb_ti 3300 (by decide +kernel) ?_
  refine lv_istore (lv' := [(6, .int 3300), (5, .int 33), (7, .int 0), (3, .long 0), (1, .long 0), (0, .ref (a 0))]) hx hb d_Md_foretold_74 hl (by decide) rfl (fun ls hl => ?_)
  refine lv_lload_n hx hb d_Md_foretold_76 rfl (lv_at hl 3 rfl) ?_
  refine lv_lload_n hx hb d_Md_foretold_77 rfl (lv_at hl 4 rfl) ?_
  refine lv_ladd hx hb d_Md_foretold_78 ?_
  refine hb_tl 0 (by decide +kernel) ?_
  refine lv_lstore_n (lv' := [(3, .long 0), (6, .int 3300), (5, .int 33), (7, .int 0), (1, .long 0), (0, .ref (a 0))]) hx hb d_Md_foretold_79 rfl hl (by decide) rfl (fun ls hl => ?_)
  refine lv_iconst (v := 0) hx hb d_Md_foretold_80 (by decide +kernel) ?_
  refine lv_istore (lv' := [(7, .int 0), (3, .long 0), (6, .int 3300), (5, .int 33), (1, .long 0), (0, .ref (a 0))]) hx hb d_Md_foretold_81 hl (by decide) rfl (fun ls hl => ?_)
  refine lv_iload hx hb d_Md_foretold_83 (lv_at hl 0 rfl) ?_
  refine lv_aload_n hx hb d_Md_foretold_85 rfl (lv_at hl 5 rfl) ?_
  refine va_get (D := (dC, dI)) (ci := 7) (v := .int 0) (C := R_Md) (T := F_Md) (N := 64) hx hb htb i_Md hown hK hP 0 rfl rfl 60 (by decide) (htb (.fieldLink R_Md 323 "WaterMenModel" "pensioners" "I") tw_164) (fun _ h9 => h9) rfl d_Md_foretold_86 ?_
  refine lv_icmp_ge (tgt := 140) hx hb d_Md_foretold_89 (by decide) (fun _ => ?_) (fun h => absurd (by decide +kernel) h)
  refine lv_iinc (v := 34) (lv' := [(5, .int 34), (7, .int 0), (3, .long 0), (6, .int 3300), (1, .long 0), (0, .ref (a 0))]) hx hb d_Md_foretold_140 hl (k := 3) rfl (by decide +kernel) (by decide) rfl (fun ls hl => ?_)
  refine lv_goto (tgt := 54) hx hb d_Md_foretold_143 (by decide) ?_
  refine lv_iload hx hb d_Md_foretold_54 (lv_at hl 0 rfl) ?_
  refine lv_bipush (v := 40) hx hb d_Md_foretold_56 (by decide +kernel) ?_
  refine lv_icmp_gt (tgt := 146) hx hb d_Md_foretold_58 (by decide) (fun h => absurd h (by decide +kernel)) (fun _ => ?_)
  refine lv_aload_n hx hb d_Md_foretold_61 rfl (lv_at hl 5 rfl) ?_
  refine vp_callSi (va_Run.run (va_runV (As := []) (rest := []) ⟨hx, hb, hml, hown, htb⟩ (c_Md_today l dC dI a k) (cwV 0 htb (gd_V tw_118 tw_119 tw_120 tw_109 tw_117) rfl rfl rfl (by decide +kernel) ⟨Nat.le_of_ble_eq_true rfl, Nat.le_of_ble_eq_true rfl⟩) ⟨pr_blind, va_recv hK hP (ci := 7) (q0 := 0) rfl rfl, pr_pre hP hK hN⟩ rfl rfl hl.1 rfl (lv_room (Nat.le_of_ble_eq_true rfl)) d_Md_foretold_62 ⟨Nat.le_of_ble_eq_true rfl, Nat.le_of_ble_eq_true rfl⟩)) (fun r er => ?_)
  subst er
  refine hb_ti 0 rfl ?_
  refine lv_bipush (v := 100) hx hb d_Md_foretold_65 (by decide +kernel) ?_
  refine lv_idiv hx hb d_Md_foretold_67 (by decide) ?_
  refine hb_ti 0 (by decide +kernel) ?_
  refine lv_iload hx hb d_Md_foretold_68 (lv_at hl 0 rfl) ?_
  refine lv_iadd hx hb d_Md_foretold_70 ?_
  refine hb_ti 34 (by decide +kernel) ?_
  refine lv_bipush (v := 100) hx hb d_Md_foretold_71 (by decide +kernel) ?_
  refine lv_imul hx hb d_Md_foretold_73 ?_
  refine hb_ti 3400 (by decide +kernel) ?_
  refine lv_istore (lv' := [(6, .int 3400), (5, .int 34), (7, .int 0), (3, .long 0), (1, .long 0), (0, .ref (a 0))]) hx hb d_Md_foretold_74 hl (by decide) rfl (fun ls hl => ?_)
  refine lv_lload_n hx hb d_Md_foretold_76 rfl (lv_at hl 3 rfl) ?_
  refine lv_lload_n hx hb d_Md_foretold_77 rfl (lv_at hl 4 rfl) ?_
  refine lv_ladd hx hb d_Md_foretold_78 ?_
  refine hb_tl 0 (by decide +kernel) ?_
  refine lv_lstore_n (lv' := [(3, .long 0), (6, .int 3400), (5, .int 34), (7, .int 0), (1, .long 0), (0, .ref (a 0))]) hx hb d_Md_foretold_79 rfl hl (by decide) rfl (fun ls hl => ?_)
  refine lv_iconst (v := 0) hx hb d_Md_foretold_80 (by decide +kernel) ?_
  refine lv_istore (lv' := [(7, .int 0), (3, .long 0), (6, .int 3400), (5, .int 34), (1, .long 0), (0, .ref (a 0))]) hx hb d_Md_foretold_81 hl (by decide) rfl (fun ls hl => ?_)
  refine lv_iload hx hb d_Md_foretold_83 (lv_at hl 0 rfl) ?_
  refine lv_aload_n hx hb d_Md_foretold_85 rfl (lv_at hl 5 rfl) ?_
  refine va_get (D := (dC, dI)) (ci := 7) (v := .int 0) (C := R_Md) (T := F_Md) (N := 64) hx hb htb i_Md hown hK hP 0 rfl rfl 60 (by decide) (htb (.fieldLink R_Md 323 "WaterMenModel" "pensioners" "I") tw_164) (fun _ h9 => h9) rfl d_Md_foretold_86 ?_
  refine lv_icmp_ge (tgt := 140) hx hb d_Md_foretold_89 (by decide) (fun _ => ?_) (fun h => absurd (by decide +kernel) h)
  refine lv_iinc (v := 35) (lv' := [(5, .int 35), (7, .int 0), (3, .long 0), (6, .int 3400), (1, .long 0), (0, .ref (a 0))]) hx hb d_Md_foretold_140 hl (k := 3) rfl (by decide +kernel) (by decide) rfl (fun ls hl => ?_)
  refine lv_goto (tgt := 54) hx hb d_Md_foretold_143 (by decide) ?_
  refine lv_iload hx hb d_Md_foretold_54 (lv_at hl 0 rfl) ?_
  refine lv_bipush (v := 40) hx hb d_Md_foretold_56 (by decide +kernel) ?_
  refine lv_icmp_gt (tgt := 146) hx hb d_Md_foretold_58 (by decide) (fun h => absurd h (by decide +kernel)) (fun _ => ?_)
  refine lv_aload_n hx hb d_Md_foretold_61 rfl (lv_at hl 5 rfl) ?_
  refine vp_callSi (va_Run.run (va_runV (As := []) (rest := []) ⟨hx, hb, hml, hown, htb⟩ (c_Md_today l dC dI a k) (cwV 0 htb (gd_V tw_118 tw_119 tw_120 tw_109 tw_117) rfl rfl rfl (by decide +kernel) ⟨Nat.le_of_ble_eq_true rfl, Nat.le_of_ble_eq_true rfl⟩) ⟨pr_blind, va_recv hK hP (ci := 7) (q0 := 0) rfl rfl, pr_pre hP hK hN⟩ rfl rfl hl.1 rfl (lv_room (Nat.le_of_ble_eq_true rfl)) d_Md_foretold_62 ⟨Nat.le_of_ble_eq_true rfl, Nat.le_of_ble_eq_true rfl⟩)) (fun r er => ?_)
  subst er
  refine hb_ti 0 rfl ?_
  refine lv_bipush (v := 100) hx hb d_Md_foretold_65 (by decide +kernel) ?_
  refine lv_idiv hx hb d_Md_foretold_67 (by decide) ?_
  refine hb_ti 0 (by decide +kernel) ?_
  refine lv_iload hx hb d_Md_foretold_68 (lv_at hl 0 rfl) ?_
  refine lv_iadd hx hb d_Md_foretold_70 ?_
  refine hb_ti 35 (by decide +kernel) ?_
  refine lv_bipush (v := 100) hx hb d_Md_foretold_71 (by decide +kernel) ?_
  refine lv_imul hx hb d_Md_foretold_73 ?_
  refine hb_ti 3500 (by decide +kernel) ?_
  refine lv_istore (lv' := [(6, .int 3500), (5, .int 35), (7, .int 0), (3, .long 0), (1, .long 0), (0, .ref (a 0))]) hx hb d_Md_foretold_74 hl (by decide) rfl (fun ls hl => ?_)
  refine lv_lload_n hx hb d_Md_foretold_76 rfl (lv_at hl 3 rfl) ?_
  refine lv_lload_n hx hb d_Md_foretold_77 rfl (lv_at hl 4 rfl) ?_
  refine lv_ladd hx hb d_Md_foretold_78 ?_
  refine hb_tl 0 (by decide +kernel) ?_
  refine lv_lstore_n (lv' := [(3, .long 0), (6, .int 3500), (5, .int 35), (7, .int 0), (1, .long 0), (0, .ref (a 0))]) hx hb d_Md_foretold_79 rfl hl (by decide) rfl (fun ls hl => ?_)
  refine lv_iconst (v := 0) hx hb d_Md_foretold_80 (by decide +kernel) ?_
  refine lv_istore (lv' := [(7, .int 0), (3, .long 0), (6, .int 3500), (5, .int 35), (1, .long 0), (0, .ref (a 0))]) hx hb d_Md_foretold_81 hl (by decide) rfl (fun ls hl => ?_)
  refine lv_iload hx hb d_Md_foretold_83 (lv_at hl 0 rfl) ?_
  refine lv_aload_n hx hb d_Md_foretold_85 rfl (lv_at hl 5 rfl) ?_
  refine va_get (D := (dC, dI)) (ci := 7) (v := .int 0) (C := R_Md) (T := F_Md) (N := 64) hx hb htb i_Md hown hK hP 0 rfl rfl 60 (by decide) (htb (.fieldLink R_Md 323 "WaterMenModel" "pensioners" "I") tw_164) (fun _ h9 => h9) rfl d_Md_foretold_86 ?_
  refine lv_icmp_ge (tgt := 140) hx hb d_Md_foretold_89 (by decide) (fun _ => ?_) (fun h => absurd (by decide +kernel) h)
  refine lv_iinc (v := 36) (lv' := [(5, .int 36), (7, .int 0), (3, .long 0), (6, .int 3500), (1, .long 0), (0, .ref (a 0))]) hx hb d_Md_foretold_140 hl (k := 3) rfl (by decide +kernel) (by decide) rfl (fun ls hl => ?_)
  refine lv_goto (tgt := 54) hx hb d_Md_foretold_143 (by decide) ?_
  refine lv_iload hx hb d_Md_foretold_54 (lv_at hl 0 rfl) ?_
  refine lv_bipush (v := 40) hx hb d_Md_foretold_56 (by decide +kernel) ?_
  refine lv_icmp_gt (tgt := 146) hx hb d_Md_foretold_58 (by decide) (fun h => absurd h (by decide +kernel)) (fun _ => ?_)
  refine lv_aload_n hx hb d_Md_foretold_61 rfl (lv_at hl 5 rfl) ?_
  refine vp_callSi (va_Run.run (va_runV (As := []) (rest := []) ⟨hx, hb, hml, hown, htb⟩ (c_Md_today l dC dI a k) (cwV 0 htb (gd_V tw_118 tw_119 tw_120 tw_109 tw_117) rfl rfl rfl (by decide +kernel) ⟨Nat.le_of_ble_eq_true rfl, Nat.le_of_ble_eq_true rfl⟩) ⟨pr_blind, va_recv hK hP (ci := 7) (q0 := 0) rfl rfl, pr_pre hP hK hN⟩ rfl rfl hl.1 rfl (lv_room (Nat.le_of_ble_eq_true rfl)) d_Md_foretold_62 ⟨Nat.le_of_ble_eq_true rfl, Nat.le_of_ble_eq_true rfl⟩)) (fun r er => ?_)
  subst er
  refine hb_ti 0 rfl ?_
  refine lv_bipush (v := 100) hx hb d_Md_foretold_65 (by decide +kernel) ?_
  refine lv_idiv hx hb d_Md_foretold_67 (by decide) ?_
  refine hb_ti 0 (by decide +kernel) ?_
  refine lv_iload hx hb d_Md_foretold_68 (lv_at hl 0 rfl) ?_
  refine lv_iadd hx hb d_Md_foretold_70 ?_
  refine hb_ti 36 (by decide +kernel) ?_
  refine lv_bipush (v := 100) hx hb d_Md_foretold_71 (by decide +kernel) ?_
  refine lv_imul hx hb d_Md_foretold_73 ?_
  refine hb_ti 3600 (by decide +kernel) ?_
  refine lv_istore (lv' := [(6, .int 3600), (5, .int 36), (7, .int 0), (3, .long 0), (1, .long 0), (0, .ref (a 0))]) hx hb d_Md_foretold_74 hl (by decide) rfl (fun ls hl => ?_)
  refine lv_lload_n hx hb d_Md_foretold_76 rfl (lv_at hl 3 rfl) ?_
  refine lv_lload_n hx hb d_Md_foretold_77 rfl (lv_at hl 4 rfl) ?_
  refine lv_ladd hx hb d_Md_foretold_78 ?_
  refine hb_tl 0 (by decide +kernel) ?_
  refine lv_lstore_n (lv' := [(3, .long 0), (6, .int 3600), (5, .int 36), (7, .int 0), (1, .long 0), (0, .ref (a 0))]) hx hb d_Md_foretold_79 rfl hl (by decide) rfl (fun ls hl => ?_)
  refine lv_iconst (v := 0) hx hb d_Md_foretold_80 (by decide +kernel) ?_
  refine lv_istore (lv' := [(7, .int 0), (3, .long 0), (6, .int 3600), (5, .int 36), (1, .long 0), (0, .ref (a 0))]) hx hb d_Md_foretold_81 hl (by decide) rfl (fun ls hl => ?_)
  refine lv_iload hx hb d_Md_foretold_83 (lv_at hl 0 rfl) ?_
  refine lv_aload_n hx hb d_Md_foretold_85 rfl (lv_at hl 5 rfl) ?_
  refine va_get (D := (dC, dI)) (ci := 7) (v := .int 0) (C := R_Md) (T := F_Md) (N := 64) hx hb htb i_Md hown hK hP 0 rfl rfl 60 (by decide) (htb (.fieldLink R_Md 323 "WaterMenModel" "pensioners" "I") tw_164) (fun _ h9 => h9) rfl d_Md_foretold_86 ?_
  refine lv_icmp_ge (tgt := 140) hx hb d_Md_foretold_89 (by decide) (fun _ => ?_) (fun h => absurd (by decide +kernel) h)
  refine lv_iinc (v := 37) (lv' := [(5, .int 37), (7, .int 0), (3, .long 0), (6, .int 3600), (1, .long 0), (0, .ref (a 0))]) hx hb d_Md_foretold_140 hl (k := 3) rfl (by decide +kernel) (by decide) rfl (fun ls hl => ?_)
  refine lv_goto (tgt := 54) hx hb d_Md_foretold_143 (by decide) ?_
  refine lv_iload hx hb d_Md_foretold_54 (lv_at hl 0 rfl) ?_
  refine lv_bipush (v := 40) hx hb d_Md_foretold_56 (by decide +kernel) ?_
  refine lv_icmp_gt (tgt := 146) hx hb d_Md_foretold_58 (by decide) (fun h => absurd h (by decide +kernel)) (fun _ => ?_)
  refine lv_aload_n hx hb d_Md_foretold_61 rfl (lv_at hl 5 rfl) ?_
  refine vp_callSi (va_Run.run (va_runV (As := []) (rest := []) ⟨hx, hb, hml, hown, htb⟩ (c_Md_today l dC dI a k) (cwV 0 htb (gd_V tw_118 tw_119 tw_120 tw_109 tw_117) rfl rfl rfl (by decide +kernel) ⟨Nat.le_of_ble_eq_true rfl, Nat.le_of_ble_eq_true rfl⟩) ⟨pr_blind, va_recv hK hP (ci := 7) (q0 := 0) rfl rfl, pr_pre hP hK hN⟩ rfl rfl hl.1 rfl (lv_room (Nat.le_of_ble_eq_true rfl)) d_Md_foretold_62 ⟨Nat.le_of_ble_eq_true rfl, Nat.le_of_ble_eq_true rfl⟩)) (fun r er => ?_)
  subst er
  refine hb_ti 0 rfl ?_
  refine lv_bipush (v := 100) hx hb d_Md_foretold_65 (by decide +kernel) ?_
  refine lv_idiv hx hb d_Md_foretold_67 (by decide) ?_
  refine hb_ti 0 (by decide +kernel) ?_
  refine lv_iload hx hb d_Md_foretold_68 (lv_at hl 0 rfl) ?_
  refine lv_iadd hx hb d_Md_foretold_70 ?_
  refine hb_ti 37 (by decide +kernel) ?_
  refine lv_bipush (v := 100) hx hb d_Md_foretold_71 (by decide +kernel) ?_
  refine lv_imul hx hb d_Md_foretold_73 ?_
  refine hb_ti 3700 (by decide +kernel) ?_
  refine lv_istore (lv' := [(6, .int 3700), (5, .int 37), (7, .int 0), (3, .long 0), (1, .long 0), (0, .ref (a 0))]) hx hb d_Md_foretold_74 hl (by decide) rfl (fun ls hl => ?_)
  refine lv_lload_n hx hb d_Md_foretold_76 rfl (lv_at hl 3 rfl) ?_
  refine lv_lload_n hx hb d_Md_foretold_77 rfl (lv_at hl 4 rfl) ?_
  refine lv_ladd hx hb d_Md_foretold_78 ?_
  refine hb_tl 0 (by decide +kernel) ?_
  refine lv_lstore_n (lv' := [(3, .long 0), (6, .int 3700), (5, .int 37), (7, .int 0), (1, .long 0), (0, .ref (a 0))]) hx hb d_Md_foretold_79 rfl hl (by decide) rfl (fun ls hl => ?_)
  refine lv_iconst (v := 0) hx hb d_Md_foretold_80 (by decide +kernel) ?_
  refine lv_istore (lv' := [(7, .int 0), (3, .long 0), (6, .int 3700), (5, .int 37), (1, .long 0), (0, .ref (a 0))]) hx hb d_Md_foretold_81 hl (by decide) rfl (fun ls hl => ?_)
  refine lv_iload hx hb d_Md_foretold_83 (lv_at hl 0 rfl) ?_
  refine lv_aload_n hx hb d_Md_foretold_85 rfl (lv_at hl 5 rfl) ?_
  refine va_get (D := (dC, dI)) (ci := 7) (v := .int 0) (C := R_Md) (T := F_Md) (N := 64) hx hb htb i_Md hown hK hP 0 rfl rfl 60 (by decide) (htb (.fieldLink R_Md 323 "WaterMenModel" "pensioners" "I") tw_164) (fun _ h9 => h9) rfl d_Md_foretold_86 ?_
  refine lv_icmp_ge (tgt := 140) hx hb d_Md_foretold_89 (by decide) (fun _ => ?_) (fun h => absurd (by decide +kernel) h)
  refine lv_iinc (v := 38) (lv' := [(5, .int 38), (7, .int 0), (3, .long 0), (6, .int 3700), (1, .long 0), (0, .ref (a 0))]) hx hb d_Md_foretold_140 hl (k := 3) rfl (by decide +kernel) (by decide) rfl (fun ls hl => ?_)
  refine lv_goto (tgt := 54) hx hb d_Md_foretold_143 (by decide) ?_
  refine lv_iload hx hb d_Md_foretold_54 (lv_at hl 0 rfl) ?_
  refine lv_bipush (v := 40) hx hb d_Md_foretold_56 (by decide +kernel) ?_
  refine lv_icmp_gt (tgt := 146) hx hb d_Md_foretold_58 (by decide) (fun h => absurd h (by decide +kernel)) (fun _ => ?_)
  refine lv_aload_n hx hb d_Md_foretold_61 rfl (lv_at hl 5 rfl) ?_
  refine vp_callSi (va_Run.run (va_runV (As := []) (rest := []) ⟨hx, hb, hml, hown, htb⟩ (c_Md_today l dC dI a k) (cwV 0 htb (gd_V tw_118 tw_119 tw_120 tw_109 tw_117) rfl rfl rfl (by decide +kernel) ⟨Nat.le_of_ble_eq_true rfl, Nat.le_of_ble_eq_true rfl⟩) ⟨pr_blind, va_recv hK hP (ci := 7) (q0 := 0) rfl rfl, pr_pre hP hK hN⟩ rfl rfl hl.1 rfl (lv_room (Nat.le_of_ble_eq_true rfl)) d_Md_foretold_62 ⟨Nat.le_of_ble_eq_true rfl, Nat.le_of_ble_eq_true rfl⟩)) (fun r er => ?_)
  subst er
  refine hb_ti 0 rfl ?_
  refine lv_bipush (v := 100) hx hb d_Md_foretold_65 (by decide +kernel) ?_
  refine lv_idiv hx hb d_Md_foretold_67 (by decide) ?_
  refine hb_ti 0 (by decide +kernel) ?_
  refine lv_iload hx hb d_Md_foretold_68 (lv_at hl 0 rfl) ?_
  refine lv_iadd hx hb d_Md_foretold_70 ?_
  refine hb_ti 38 (by decide +kernel) ?_
  refine lv_bipush (v := 100) hx hb d_Md_foretold_71 (by decide +kernel) ?_
  refine lv_imul hx hb d_Md_foretold_73 ?_
  refine hb_ti 3800 (by decide +kernel) ?_
  refine lv_istore (lv' := [(6, .int 3800), (5, .int 38), (7, .int 0), (3, .long 0), (1, .long 0), (0, .ref (a 0))]) hx hb d_Md_foretold_74 hl (by decide) rfl (fun ls hl => ?_)
  refine lv_lload_n hx hb d_Md_foretold_76 rfl (lv_at hl 3 rfl) ?_
  refine lv_lload_n hx hb d_Md_foretold_77 rfl (lv_at hl 4 rfl) ?_
  refine lv_ladd hx hb d_Md_foretold_78 ?_
  refine hb_tl 0 (by decide +kernel) ?_
  refine lv_lstore_n (lv' := [(3, .long 0), (6, .int 3800), (5, .int 38), (7, .int 0), (1, .long 0), (0, .ref (a 0))]) hx hb d_Md_foretold_79 rfl hl (by decide) rfl (fun ls hl => ?_)
  refine lv_iconst (v := 0) hx hb d_Md_foretold_80 (by decide +kernel) ?_
  refine lv_istore (lv' := [(7, .int 0), (3, .long 0), (6, .int 3800), (5, .int 38), (1, .long 0), (0, .ref (a 0))]) hx hb d_Md_foretold_81 hl (by decide) rfl (fun ls hl => ?_)
  refine lv_iload hx hb d_Md_foretold_83 (lv_at hl 0 rfl) ?_
  refine lv_aload_n hx hb d_Md_foretold_85 rfl (lv_at hl 5 rfl) ?_
  refine va_get (D := (dC, dI)) (ci := 7) (v := .int 0) (C := R_Md) (T := F_Md) (N := 64) hx hb htb i_Md hown hK hP 0 rfl rfl 60 (by decide) (htb (.fieldLink R_Md 323 "WaterMenModel" "pensioners" "I") tw_164) (fun _ h9 => h9) rfl d_Md_foretold_86 ?_
  refine lv_icmp_ge (tgt := 140) hx hb d_Md_foretold_89 (by decide) (fun _ => ?_) (fun h => absurd (by decide +kernel) h)
  refine lv_iinc (v := 39) (lv' := [(5, .int 39), (7, .int 0), (3, .long 0), (6, .int 3800), (1, .long 0), (0, .ref (a 0))]) hx hb d_Md_foretold_140 hl (k := 3) rfl (by decide +kernel) (by decide) rfl (fun ls hl => ?_)
  refine lv_goto (tgt := 54) hx hb d_Md_foretold_143 (by decide) ?_
  refine lv_iload hx hb d_Md_foretold_54 (lv_at hl 0 rfl) ?_
  refine lv_bipush (v := 40) hx hb d_Md_foretold_56 (by decide +kernel) ?_
  refine lv_icmp_gt (tgt := 146) hx hb d_Md_foretold_58 (by decide) (fun h => absurd h (by decide +kernel)) (fun _ => ?_)
  refine lv_aload_n hx hb d_Md_foretold_61 rfl (lv_at hl 5 rfl) ?_
  refine vp_callSi (va_Run.run (va_runV (As := []) (rest := []) ⟨hx, hb, hml, hown, htb⟩ (c_Md_today l dC dI a k) (cwV 0 htb (gd_V tw_118 tw_119 tw_120 tw_109 tw_117) rfl rfl rfl (by decide +kernel) ⟨Nat.le_of_ble_eq_true rfl, Nat.le_of_ble_eq_true rfl⟩) ⟨pr_blind, va_recv hK hP (ci := 7) (q0 := 0) rfl rfl, pr_pre hP hK hN⟩ rfl rfl hl.1 rfl (lv_room (Nat.le_of_ble_eq_true rfl)) d_Md_foretold_62 ⟨Nat.le_of_ble_eq_true rfl, Nat.le_of_ble_eq_true rfl⟩)) (fun r er => ?_)
  subst er
  refine hb_ti 0 rfl ?_
  refine lv_bipush (v := 100) hx hb d_Md_foretold_65 (by decide +kernel) ?_
  refine lv_idiv hx hb d_Md_foretold_67 (by decide) ?_
  refine hb_ti 0 (by decide +kernel) ?_
  refine lv_iload hx hb d_Md_foretold_68 (lv_at hl 0 rfl) ?_
  refine lv_iadd hx hb d_Md_foretold_70 ?_
  refine hb_ti 39 (by decide +kernel) ?_
  refine lv_bipush (v := 100) hx hb d_Md_foretold_71 (by decide +kernel) ?_
  refine lv_imul hx hb d_Md_foretold_73 ?_
  refine hb_ti 3900 (by decide +kernel) ?_
  refine lv_istore (lv' := [(6, .int 3900), (5, .int 39), (7, .int 0), (3, .long 0), (1, .long 0), (0, .ref (a 0))]) hx hb d_Md_foretold_74 hl (by decide) rfl (fun ls hl => ?_)
  refine lv_lload_n hx hb d_Md_foretold_76 rfl (lv_at hl 3 rfl) ?_
  refine lv_lload_n hx hb d_Md_foretold_77 rfl (lv_at hl 4 rfl) ?_
  refine lv_ladd hx hb d_Md_foretold_78 ?_
  refine hb_tl 0 (by decide +kernel) ?_
  refine lv_lstore_n (lv' := [(3, .long 0), (6, .int 3900), (5, .int 39), (7, .int 0), (1, .long 0), (0, .ref (a 0))]) hx hb d_Md_foretold_79 rfl hl (by decide) rfl (fun ls hl => ?_)
  refine lv_iconst (v := 0) hx hb d_Md_foretold_80 (by decide +kernel) ?_
  refine lv_istore (lv' := [(7, .int 0), (3, .long 0), (6, .int 3900), (5, .int 39), (1, .long 0), (0, .ref (a 0))]) hx hb d_Md_foretold_81 hl (by decide) rfl (fun ls hl => ?_)
  refine lv_iload hx hb d_Md_foretold_83 (lv_at hl 0 rfl) ?_
  refine lv_aload_n hx hb d_Md_foretold_85 rfl (lv_at hl 5 rfl) ?_
  refine va_get (D := (dC, dI)) (ci := 7) (v := .int 0) (C := R_Md) (T := F_Md) (N := 64) hx hb htb i_Md hown hK hP 0 rfl rfl 60 (by decide) (htb (.fieldLink R_Md 323 "WaterMenModel" "pensioners" "I") tw_164) (fun _ h9 => h9) rfl d_Md_foretold_86 ?_
  refine lv_icmp_ge (tgt := 140) hx hb d_Md_foretold_89 (by decide) (fun _ => ?_) (fun h => absurd (by decide +kernel) h)
  refine lv_iinc (v := 40) (lv' := [(5, .int 40), (7, .int 0), (3, .long 0), (6, .int 3900), (1, .long 0), (0, .ref (a 0))]) hx hb d_Md_foretold_140 hl (k := 3) rfl (by decide +kernel) (by decide) rfl (fun ls hl => ?_)
  refine lv_goto (tgt := 54) hx hb d_Md_foretold_143 (by decide) ?_
  refine lv_iload hx hb d_Md_foretold_54 (lv_at hl 0 rfl) ?_
  refine lv_bipush (v := 40) hx hb d_Md_foretold_56 (by decide +kernel) ?_
  refine lv_icmp_gt (tgt := 146) hx hb d_Md_foretold_58 (by decide) (fun h => absurd h (by decide +kernel)) (fun _ => ?_)
  refine lv_aload_n hx hb d_Md_foretold_61 rfl (lv_at hl 5 rfl) ?_
  refine vp_callSi (va_Run.run (va_runV (As := []) (rest := []) ⟨hx, hb, hml, hown, htb⟩ (c_Md_today l dC dI a k) (cwV 0 htb (gd_V tw_118 tw_119 tw_120 tw_109 tw_117) rfl rfl rfl (by decide +kernel) ⟨Nat.le_of_ble_eq_true rfl, Nat.le_of_ble_eq_true rfl⟩) ⟨pr_blind, va_recv hK hP (ci := 7) (q0 := 0) rfl rfl, pr_pre hP hK hN⟩ rfl rfl hl.1 rfl (lv_room (Nat.le_of_ble_eq_true rfl)) d_Md_foretold_62 ⟨Nat.le_of_ble_eq_true rfl, Nat.le_of_ble_eq_true rfl⟩)) (fun r er => ?_)
  subst er
  refine hb_ti 0 rfl ?_
  refine lv_bipush (v := 100) hx hb d_Md_foretold_65 (by decide +kernel) ?_
  refine lv_idiv hx hb d_Md_foretold_67 (by decide) ?_
  refine hb_ti 0 (by decide +kernel) ?_
  refine lv_iload hx hb d_Md_foretold_68 (lv_at hl 0 rfl) ?_
  refine lv_iadd hx hb d_Md_foretold_70 ?_
  refine hb_ti 40 (by decide +kernel) ?_
  refine lv_bipush (v := 100) hx hb d_Md_foretold_71 (by decide +kernel) ?_
  refine lv_imul hx hb d_Md_foretold_73 ?_
  refine hb_ti 4000 (by decide +kernel) ?_
  refine lv_istore (lv' := [(6, .int 4000), (5, .int 40), (7, .int 0), (3, .long 0), (1, .long 0), (0, .ref (a 0))]) hx hb d_Md_foretold_74 hl (by decide) rfl (fun ls hl => ?_)
  refine lv_lload_n hx hb d_Md_foretold_76 rfl (lv_at hl 3 rfl) ?_
  refine lv_lload_n hx hb d_Md_foretold_77 rfl (lv_at hl 4 rfl) ?_
  refine lv_ladd hx hb d_Md_foretold_78 ?_
  refine hb_tl 0 (by decide +kernel) ?_
  refine lv_lstore_n (lv' := [(3, .long 0), (6, .int 4000), (5, .int 40), (7, .int 0), (1, .long 0), (0, .ref (a 0))]) hx hb d_Md_foretold_79 rfl hl (by decide) rfl (fun ls hl => ?_)
  refine lv_iconst (v := 0) hx hb d_Md_foretold_80 (by decide +kernel) ?_
  refine lv_istore (lv' := [(7, .int 0), (3, .long 0), (6, .int 4000), (5, .int 40), (1, .long 0), (0, .ref (a 0))]) hx hb d_Md_foretold_81 hl (by decide) rfl (fun ls hl => ?_)
  refine lv_iload hx hb d_Md_foretold_83 (lv_at hl 0 rfl) ?_
  refine lv_aload_n hx hb d_Md_foretold_85 rfl (lv_at hl 5 rfl) ?_
  refine va_get (D := (dC, dI)) (ci := 7) (v := .int 0) (C := R_Md) (T := F_Md) (N := 64) hx hb htb i_Md hown hK hP 0 rfl rfl 60 (by decide) (htb (.fieldLink R_Md 323 "WaterMenModel" "pensioners" "I") tw_164) (fun _ h9 => h9) rfl d_Md_foretold_86 ?_
  refine lv_icmp_ge (tgt := 140) hx hb d_Md_foretold_89 (by decide) (fun _ => ?_) (fun h => absurd (by decide +kernel) h)
  refine lv_iinc (v := 41) (lv' := [(5, .int 41), (7, .int 0), (3, .long 0), (6, .int 4000), (1, .long 0), (0, .ref (a 0))]) hx hb d_Md_foretold_140 hl (k := 3) rfl (by decide +kernel) (by decide) rfl (fun ls hl => ?_)
  refine lv_goto (tgt := 54) hx hb d_Md_foretold_143 (by decide) ?_
  refine lv_iload hx hb d_Md_foretold_54 (lv_at hl 0 rfl) ?_
  refine lv_bipush (v := 40) hx hb d_Md_foretold_56 (by decide +kernel) ?_
  refine lv_icmp_gt (tgt := 146) hx hb d_Md_foretold_58 (by decide) (fun _ => ?_) (fun h => absurd (by decide +kernel) h)
  refine lv_bipush (v := (-2)) hx hb d_Md_foretold_146 (by decide +kernel) ?_
  exact W.iret (v := (-2)) hx hb hr (fun t ht hW => ⟨(-2), rfl, rfl, ht⟩) t_nil d_Md_foretold_148
