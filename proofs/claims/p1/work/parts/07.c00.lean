def f_Rv_highest  : Int32 := (-1)
set_option maxHeartbeats 4000000 in
set_option maxRecDepth 100000 in
theorem c_Rv_highest (l : Launch) (dC : Nat → ClassId) (dI : Nat → Nat → Nat) (a : Nat → Nat) (k : Nat → ClassId) (L : List Nat) (hL : L.length = 40)    : Met l y_Rv_highest (.code y_Rv_highest b_Rv_highest 1 (some .int) :: TB) ({ frames := 0, cells := 0, slots := 0, locals := 0 }) (va_Pc [.ref (a 1)] (PR dC dI (XW a k L) (XT k))) (vp_Si (fun r => r = f_Rv_highest)) 0 0 (fun _ => False) := by
  refine Met.ofW (cc := b_Rv_highest) (maxL := 1) (ret := (some .int)) (by decide) rfl ?_
  intro p e s m args below meth c s₁ B hml hv
  obtain ⟨rfl, hP, hK, hN⟩ := hv
  have hx := B.exec
  have hb := B.bytes
  have hr := B.returns
  have hts := atoms_spec (ws := (.code y_Rv_highest b_Rv_highest 1 (some .int) :: TB)) B.pre
  have htb := fun w (h : w ∈ TB) => hts w (List.mem_cons_of_mem _ h)
  have hown : s.vm.findClass R_Rv = some m.cls := findClass_of_methodNamed B.named
  have hlocks := B.notSynchronized
  have hl := lv_entry ([.ref (a 1)]) (n := 1) (Nat.le_of_ble_eq_true rfl)
  rw [lg_entry_eq]
  generalize (lg_sl ([.ref (a 1)]) ++ List.replicate (1 - (lg_sl ([.ref (a 1)])).length) Slot.unset).toArray = ls at hl ⊢
  have hl : lv_has ls 1 [(0, .ref (a 1))] := hl
  refine lv_aload_n hx hb d_Rv_highest_0 rfl (lv_at hl 0 rfl) ?_
  refine va_get (D := (dC, dI)) (ci := 1) (v := .int 0) (C := R_Rv) (T := F_Rv) (N := 6) hx hb htb i_Rv hown hK hP 1 rfl rfl 4 (by decide) (htb (.fieldLink R_Rv 35 "WaterMen$River" "stairCount" "I") tw_1) (fun _ h9 => h9) rfl d_Rv_highest_1 ?_
  refine lv_if_ne (tgt := 11) hx hb d_Rv_highest_4 (by decide) (fun h => absurd (by decide +kernel) h) (fun _ => ?_)
  refine lv_iconst (v := (-1)) hx hb d_Rv_highest_7 (by decide +kernel) ?_
  refine lv_goto (tgt := 22) hx hb d_Rv_highest_8 (by decide) ?_
  exact W.iret (v := (-1)) hx hb hr (fun t ht hW => ⟨(-1), rfl, rfl, ht⟩) t_nil d_Rv_highest_22
def f_Rv_addStairs (p_0 : Int32) : Int32 := 0
set_option maxHeartbeats 4000000 in
set_option maxRecDepth 100000 in
theorem c_Rv_addStairs (l : Launch) (dC : Nat → ClassId) (dI : Nat → Nat → Nat) (a : Nat → Nat) (k : Nat → ClassId) (L : List Nat) (hL : L.length = 40) (sz : Nat) (p_0 : Int32)  : Met l y_Rv_addStairs (.code y_Rv_addStairs b_Rv_addStairs 2 (some .int) :: TB) ({ frames := 0, cells := 0, slots := 0, locals := 0 }) (va_Pc [.ref (a 1), .int p_0] (PC dC dI (XW a k L) (XT k) sz)) (va_Qi (fun r (_ : Unit) => r = f_Rv_addStairs p_0) (fun (_ : Unit) (_ : State) => True) (va_A (XW a k L) sz)) 0 0 (va_A (XW a k L) sz) := by
  refine Met.ofW (cc := b_Rv_addStairs) (maxL := 2) (ret := (some .int)) (by decide) rfl ?_
  intro p e s m args below meth c s₁ B hml hv
  obtain ⟨rfl, hsz, hP, hK, hD0, hN⟩ := hv
  have hx := B.exec
  have hb := B.bytes
  have hr := B.returns
  have hts := atoms_spec (ws := (.code y_Rv_addStairs b_Rv_addStairs 2 (some .int) :: TB)) B.pre
  have htb := fun w (h : w ∈ TB) => hts w (List.mem_cons_of_mem _ h)
  have hown : s.vm.findClass R_Rv = some m.cls := findClass_of_methodNamed B.named
  have hlocks := B.notSynchronized
  have hl := lv_entry ([.ref (a 1), .int p_0]) (n := 2) (Nat.le_of_ble_eq_true rfl)
  rw [lg_entry_eq]
  generalize (lg_sl ([.ref (a 1), .int p_0]) ++ List.replicate (2 - (lg_sl ([.ref (a 1), .int p_0])).length) Slot.unset).toArray = ls at hl ⊢
  have hl : lv_has ls 2 [(0, .ref (a 1)), (1, .int p_0)] := hl
  subst hsz
  have hD := hD0.self (sz := s.heap.size)
  obtain ⟨A, hAe⟩ : ∃ A, va_A (XW a k L) s.heap.size = A := ⟨_, rfl⟩
  rw [hAe] at hD
  have hA : ∀ q : Nat, s.heap.size ≤ q → A q := fun q h => by rw [← hAe]; exact Or.inr h
  have hS : va_S A s.heap s.heap [] := va_S.rf
  have hP := hP
  refine lv_aload_n hx hb d_Rv_addStairs_0 rfl (lv_at hl 0 rfl) ?_
  refine va_get (D := (dC, dI)) (ci := 1) (v := .ref (a 2)) (C := R_Rv) (T := F_Rv) (N := 6) hx hb htb i_Rv hown hK hP 1 rfl rfl 0 (by decide) (htb (.fieldLink R_Rv 9 "WaterMen$River" "milesUp" "[I") tw_8) (fun _ h9 => h9) rfl d_Rv_addStairs_1 ?_
  refine lv_aload_n hx hb d_Rv_addStairs_4 rfl (lv_at hl 0 rfl) ?_
  refine va_get (D := (dC, dI)) (ci := 1) (v := .int 0) (C := R_Rv) (T := F_Rv) (N := 6) hx hb htb i_Rv hown hK hP 1 rfl rfl 4 (by decide) (htb (.fieldLink R_Rv 35 "WaterMen$River" "stairCount" "I") tw_1) (fun _ h9 => h9) rfl d_Rv_addStairs_5 ?_
  refine lv_iload_n hx hb d_Rv_addStairs_8 rfl (lv_at hl 1 rfl) ?_
  refine va_iast hx hb hK hP hD hS 2 0 rfl rfl (by unfold vp_in; decide +kernel) d_Rv_addStairs_9 (fun H locs hP hD hS => ?_)
  refine lv_aload_n hx hb d_Rv_addStairs_10 rfl (lv_at hl 0 rfl) ?_
  refine lv_dup hx hb d_Rv_addStairs_11 rfl ?_
  refine va_get (D := (dC, dI)) (ci := 1) (v := .int 0) (C := R_Rv) (T := F_Rv) (N := 6) hx hb htb i_Rv hown hK hP 1 rfl rfl 4 (by decide) (htb (.fieldLink R_Rv 35 "WaterMen$River" "stairCount" "I") tw_1) (fun _ h9 => h9) rfl d_Rv_addStairs_12 ?_
  refine lv_iconst (v := 1) hx hb d_Rv_addStairs_15 (by decide +kernel) ?_
  refine lv_iadd hx hb d_Rv_addStairs_16 ?_
  refine hb_ti 1 (by decide +kernel) ?_
  refine va_put (D := (dC, dI)) (ci := 1) (v := .int 1) (ty := .int) (C := R_Rv) (T := F_Rv) (N := 6) hx hb htb i_Rv t_Rv t_Rv_ok n_Rv hown hK hP hD hS 1 rfl rfl 4 (by decide) (htb (.fieldLink R_Rv 35 "WaterMen$River" "stairCount" "I") tw_1) (fun _ h9 => h9) rfl (by decide +kernel) rfl rfl (Nat.le_of_ble_eq_true rfl) d_Rv_addStairs_17 (fun H locs hP hD hS => ?_)
  refine lv_aload_n hx hb d_Rv_addStairs_20 rfl (lv_at hl 0 rfl) ?_
  refine va_get (D := (dC, dI)) (ci := 1) (v := .int 1) (C := R_Rv) (T := F_Rv) (N := 6) hx hb htb i_Rv hown hK hP 1 rfl rfl 4 (by decide) (htb (.fieldLink R_Rv 35 "WaterMen$River" "stairCount" "I") tw_1) (fun _ h9 => h9) rfl d_Rv_addStairs_21 ?_
  refine lv_iconst (v := 1) hx hb d_Rv_addStairs_24 (by decide +kernel) ?_
  refine lv_isub hx hb d_Rv_addStairs_25 ?_
  refine hb_ti 0 (by decide +kernel) ?_
  refine W.widen (k := 0) (n := 0) (Nat.le_of_ble_eq_true rfl) (Nat.le_of_ble_eq_true rfl) ?_
  exact W.iret (v := 0) hx hb hr (fun t ht hW => ⟨⟨0, (), rfl, rfl, trivial⟩, by rw [hAe]; exact hS.F ht⟩) (by rw [hAe]; exact hS.2.2) d_Rv_addStairs_26
def f_WM_stairs (p_0 : Int32) : Int32 := if p_0 < 0 then ((-1)) else (if 60 < p_0 then ((-1)) else (0))
set_option maxHeartbeats 4000000 in
set_option maxRecDepth 100000 in
theorem c_WM_stairs (l : Launch) (dC : Nat → ClassId) (dI : Nat → Nat → Nat) (a : Nat → Nat) (k : Nat → ClassId) (L : List Nat) (hL : L.length = 40) (sz : Nat) (p_0 : Int32)  : Met l y_WM_stairs (.code y_WM_stairs b_WM_stairs 2 (some .int) :: TB) ({ frames := 1, cells := 0, slots := 0, locals := 21 }) (va_Pc [.ref (a 0), .int p_0] (PC dC dI (XW a k L) (XT k) sz)) (va_Qi (fun r (_ : Unit) => r = f_WM_stairs p_0) (fun (_ : Unit) (_ : State) => True) (va_A (XW a k L) sz)) 0 0 (va_A (XW a k L) sz) := by
  refine Met.ofW (cc := b_WM_stairs) (maxL := 2) (ret := (some .int)) (by decide) rfl ?_
  intro p e s m args below meth c s₁ B hml hv
  obtain ⟨rfl, hsz, hP, hK, hD0, hN⟩ := hv
  have hx := B.exec
  have hb := B.bytes
  have hr := B.returns
  have hts := atoms_spec (ws := (.code y_WM_stairs b_WM_stairs 2 (some .int) :: TB)) B.pre
  have htb := fun w (h : w ∈ TB) => hts w (List.mem_cons_of_mem _ h)
  have hown : s.vm.findClass R_WM = some m.cls := findClass_of_methodNamed B.named
  have hlocks := B.notSynchronized
  have hl := lv_entry ([.ref (a 0), .int p_0]) (n := 2) (Nat.le_of_ble_eq_true rfl)
  rw [lg_entry_eq]
  generalize (lg_sl ([.ref (a 0), .int p_0]) ++ List.replicate (2 - (lg_sl ([.ref (a 0), .int p_0])).length) Slot.unset).toArray = ls at hl ⊢
  have hl : lv_has ls 2 [(0, .ref (a 0)), (1, .int p_0)] := hl
  subst hsz
  have hD := hD0.self (sz := s.heap.size)
  obtain ⟨A, hAe⟩ : ∃ A, va_A (XW a k L) s.heap.size = A := ⟨_, rfl⟩
  rw [hAe] at hD
  have hA : ∀ q : Nat, s.heap.size ≤ q → A q := fun q h => by rw [← hAe]; exact Or.inr h
  have hS : va_S A s.heap s.heap [] := va_S.rf
  have hP := hP
  refine lv_iload_n hx hb d_WM_stairs_0 rfl (lv_at hl 1 rfl) ?_
  refine lv_if_lt (tgt := 21) hx hb d_WM_stairs_1 (by decide) (fun c_1 => ?_) (fun c_1 => ?_)
  · refine lv_iconst (v := (-1)) hx hb d_WM_stairs_21 (by decide +kernel) ?_
    refine W.widen (k := 0) (n := 0) (Nat.le_of_ble_eq_true rfl) (Nat.le_of_ble_eq_true rfl) ?_
    exact W.iret (v := (-1)) hx hb hr (fun t ht hW => ⟨⟨(-1), (), rfl, (by unfold f_WM_stairs; rw [if_pos c_1]), trivial⟩, by rw [hAe]; exact hS.F ht⟩) (by rw [hAe]; exact hS.2.2) d_WM_stairs_22
  · refine lv_iload_n hx hb d_WM_stairs_4 rfl (lv_at hl 1 rfl) ?_
    refine lv_bipush (v := 60) hx hb d_WM_stairs_5 (by decide +kernel) ?_
    refine lv_icmp_gt (tgt := 21) hx hb d_WM_stairs_7 (by decide) (fun c_2 => ?_) (fun c_2 => ?_)
    · refine lv_iconst (v := (-1)) hx hb d_WM_stairs_21 (by decide +kernel) ?_
      refine W.widen (k := 0) (n := 0) (Nat.le_of_ble_eq_true rfl) (Nat.le_of_ble_eq_true rfl) ?_
      exact W.iret (v := (-1)) hx hb hr (fun t ht hW => ⟨⟨(-1), (), rfl, (by unfold f_WM_stairs; rw [if_neg c_1, if_pos c_2]), trivial⟩, by rw [hAe]; exact hS.F ht⟩) (by rw [hAe]; exact hS.2.2) d_WM_stairs_22
    · refine lv_iload_n hx hb d_WM_stairs_10 rfl (lv_at hl 1 rfl) ?_
      refine lv_aload_n hx hb d_WM_stairs_11 rfl (lv_at hl 0 rfl) ?_
      refine va_get (D := (dC, dI)) (ci := 0) (v := .ref (a 1)) (C := R_WM) (T := F_WM) (N := 13) hx hb htb i_WM hown hK hP 0 rfl rfl 0 (by decide) (htb (.fieldLink R_WM 12 "WaterMen" "river" "LWaterMen$River;") tw_0) (fun _ h9 => h9) rfl d_WM_stairs_12 ?_
      refine vp_callSi (va_Run.run (va_runV (As := []) (rest := [.int p_0]) ⟨hx, hb, hml, hown, htb⟩ (c_Rv_highest l dC dI a k L hL) (cwV 0 htb (gd_V tw_4 tw_5 tw_6 tw_3 tw_2) rfl rfl rfl (by decide +kernel) ⟨Nat.le_of_ble_eq_true rfl, Nat.le_of_ble_eq_true rfl⟩) ⟨pr_blind, va_recv hK hP (ci := 1) (q0 := 1) rfl rfl, pr_pre hP hK hN⟩ rfl rfl hl.1 rfl (lv_room (Nat.le_of_ble_eq_true rfl)) d_WM_stairs_15 ⟨Nat.le_of_ble_eq_true rfl, Nat.le_of_ble_eq_true rfl⟩)) (fun r er => ?_)
      subst er
      refine hb_ti (-1) rfl ?_
      refine lv_icmp_gt (tgt := 23) hx hb d_WM_stairs_18 (by decide) (fun _ => ?_) (fun h => absurd (show (-1) < p_0 from by have e0 := c_1; rw [Int32.lt_iff_toInt_lt] at e0; have e1 := c_2; rw [Int32.lt_iff_toInt_lt] at e1; have z0 : ((-1) : Int32).toInt = -1 := (by decide +kernel); have z1 : (0 : Int32).toInt = 0 := (by decide +kernel); have z2 : (60 : Int32).toInt = 60 := (by decide +kernel); rw [Int32.lt_iff_toInt_lt]; omega) h)
      refine lv_aload_n hx hb d_WM_stairs_23 rfl (lv_at hl 0 rfl) ?_
      refine va_get (D := (dC, dI)) (ci := 0) (v := .ref (a 1)) (C := R_WM) (T := F_WM) (N := 13) hx hb htb i_WM hown hK hP 0 rfl rfl 0 (by decide) (htb (.fieldLink R_WM 12 "WaterMen" "river" "LWaterMen$River;") tw_0) (fun _ h9 => h9) rfl d_WM_stairs_24 ?_
      refine va_get (D := (dC, dI)) (ci := 1) (v := .int 0) (C := R_Rv) (T := F_Rv) (N := 6) hx hb htb i_Rv hown hK hP 1 rfl rfl 4 (by decide) (htb (.fieldLink R_WM 64 "WaterMen$River" "stairCount" "I") tw_7) (fun _ h9 => h9) rfl d_WM_stairs_27 ?_
      refine lv_bipush (v := 12) hx hb d_WM_stairs_30 (by decide +kernel) ?_
      refine lv_icmp_lt (tgt := 40) hx hb d_WM_stairs_32 (by decide) (fun _ => ?_) (fun h => absurd (by decide +kernel) h)
      refine lv_aload_n hx hb d_WM_stairs_40 rfl (lv_at hl 0 rfl) ?_
      refine va_get (D := (dC, dI)) (ci := 0) (v := .ref (a 1)) (C := R_WM) (T := F_WM) (N := 13) hx hb htb i_WM hown hK hP 0 rfl rfl 0 (by decide) (htb (.fieldLink R_WM 12 "WaterMen" "river" "LWaterMen$River;") tw_0) (fun _ h9 => h9) rfl d_WM_stairs_41 ?_
      refine lv_iload_n hx hb d_WM_stairs_44 rfl (lv_at hl 1 rfl) ?_
      have hFc := hb_free hD hS hA
      refine va_calli (va_runV (As := [.int p_0]) (rest := []) ⟨hx, hb, hml, hown, htb⟩ (c_Rv_addStairs l dC dI a k L hL _ p_0) (cwV 1 htb (gd_V tw_10 tw_11 tw_12 tw_3 tw_9) rfl rfl rfl (by decide +kernel) ⟨Nat.le_of_ble_eq_true rfl, Nat.le_of_ble_eq_true rfl⟩) ⟨pc_blind, va_recv hK hP (ci := 1) (q0 := 1) rfl rfl, pc_pre hP hK hD hN⟩ rfl rfl hl.1 rfl (lv_room (Nat.le_of_ble_eq_true rfl)) d_WM_stairs_45 ⟨Nat.le_of_ble_eq_true rfl, Nat.le_of_ble_eq_true rfl⟩) hS (fun q _ h => hFc q h) hFc (fun r u t H1 locs ht hvm er hB hz1 hk1 hS => ?_)
      subst er
      refine hb_ti 0 rfl ?_
      refine W.widen (k := 0) (n := 0) (Nat.le_of_ble_eq_true rfl) (Nat.le_of_ble_eq_true rfl) ?_
      exact W.iret (v := 0) hx hb hr (fun t ht hW => ⟨⟨0, (), rfl, (by unfold f_WM_stairs; rw [if_neg c_1, if_neg c_2]), trivial⟩, by rw [hAe]; exact hS.F ht⟩) (by rw [hAe]; exact hS.2.2) d_WM_stairs_48
def f_WM_bridge (p_0 : Int32) : Int32 := if p_0 = (-1) then (1) else (if p_0 < 0 then ((-1)) else ((-1)))
set_option maxHeartbeats 4000000 in
set_option maxRecDepth 100000 in
theorem c_WM_bridge (l : Launch) (dC : Nat → ClassId) (dI : Nat → Nat → Nat) (a : Nat → Nat) (k : Nat → ClassId) (L : List Nat) (hL : L.length = 40) (sz : Nat) (p_0 : Int32)  : Met l y_WM_bridge (.code y_WM_bridge b_WM_bridge 2 (some .int) :: TB) ({ frames := 0, cells := 0, slots := 0, locals := 0 }) (va_Pc [.ref (a 0), .int p_0] (PC dC dI (XW a k L) (XT k) sz)) (va_Qi (fun r (_ : Unit) => r = f_WM_bridge p_0) (fun (_ : Unit) (_ : State) => True) (va_A (XW a k L) sz)) 0 0 (va_A (XW a k L) sz) := by
  refine Met.ofW (cc := b_WM_bridge) (maxL := 2) (ret := (some .int)) (by decide) rfl ?_
  intro p e s m args below meth c s₁ B hml hv
  obtain ⟨rfl, hsz, hP, hK, hD0, hN⟩ := hv
  have hx := B.exec
  have hb := B.bytes
  have hr := B.returns
  have hts := atoms_spec (ws := (.code y_WM_bridge b_WM_bridge 2 (some .int) :: TB)) B.pre
  have htb := fun w (h : w ∈ TB) => hts w (List.mem_cons_of_mem _ h)
  have hown : s.vm.findClass R_WM = some m.cls := findClass_of_methodNamed B.named
  have hlocks := B.notSynchronized
  have hl := lv_entry ([.ref (a 0), .int p_0]) (n := 2) (Nat.le_of_ble_eq_true rfl)
  rw [lg_entry_eq]
  generalize (lg_sl ([.ref (a 0), .int p_0]) ++ List.replicate (2 - (lg_sl ([.ref (a 0), .int p_0])).length) Slot.unset).toArray = ls at hl ⊢
  have hl : lv_has ls 2 [(0, .ref (a 0)), (1, .int p_0)] := hl
  subst hsz
  have hD := hD0.self (sz := s.heap.size)
  obtain ⟨A, hAe⟩ : ∃ A, va_A (XW a k L) s.heap.size = A := ⟨_, rfl⟩
  rw [hAe] at hD
  have hA : ∀ q : Nat, s.heap.size ≤ q → A q := fun q h => by rw [← hAe]; exact Or.inr h
  have hS : va_S A s.heap s.heap [] := va_S.rf
  have hP := hP
  refine lv_iload_n hx hb d_WM_bridge_0 rfl (lv_at hl 1 rfl) ?_
  refine lv_iconst (v := (-1)) hx hb d_WM_bridge_1 (by decide +kernel) ?_
  refine lv_icmp_eq (tgt := 24) hx hb d_WM_bridge_2 (by decide) (fun c_1 => ?_) (fun c_1 => ?_)
  · refine lv_aload_n hx hb d_WM_bridge_24 rfl (lv_at hl 0 rfl) ?_
    refine va_get (D := (dC, dI)) (ci := 0) (v := .ref (a 1)) (C := R_WM) (T := F_WM) (N := 13) hx hb htb i_WM hown hK hP 0 rfl rfl 0 (by decide) (htb (.fieldLink R_WM 12 "WaterMen" "river" "LWaterMen$River;") tw_0) (fun _ h9 => h9) rfl d_WM_bridge_25 ?_
    refine lv_iload_n hx hb d_WM_bridge_28 rfl (lv_at hl 1 rfl) ?_
    refine va_put (D := (dC, dI)) (ci := 1) (v := .int p_0) (ty := .int) (C := R_Rv) (T := F_Rv) (N := 6) hx hb htb i_Rv t_Rv t_Rv_ok n_Rv hown hK hP hD hS 1 rfl rfl 5 (by decide) (htb (.fieldLink R_WM 72 "WaterMen$River" "bridgeAbove" "I") tw_13) (fun _ h9 => h9) rfl (by decide +kernel) rfl rfl (Nat.le_of_ble_eq_true rfl) d_WM_bridge_29 (fun H locs hP hD hS => ?_)
    refine lv_iconst (v := 1) hx hb d_WM_bridge_32 (by decide +kernel) ?_
    refine W.widen (k := 0) (n := 0) (Nat.le_of_ble_eq_true rfl) (Nat.le_of_ble_eq_true rfl) ?_
    exact W.iret (v := 1) hx hb hr (fun t ht hW => ⟨⟨1, (), rfl, (by unfold f_WM_bridge; rw [if_pos c_1]), trivial⟩, by rw [hAe]; exact hS.F ht⟩) (by rw [hAe]; exact hS.2.2) d_WM_bridge_33
  · refine lv_iload_n hx hb d_WM_bridge_5 rfl (lv_at hl 1 rfl) ?_
    refine lv_if_lt (tgt := 22) hx hb d_WM_bridge_6 (by decide) (fun c_2 => ?_) (fun c_2 => ?_)
    · refine lv_iconst (v := (-1)) hx hb d_WM_bridge_22 (by decide +kernel) ?_
      refine W.widen (k := 0) (n := 0) (Nat.le_of_ble_eq_true rfl) (Nat.le_of_ble_eq_true rfl) ?_
      exact W.iret (v := (-1)) hx hb hr (fun t ht hW => ⟨⟨(-1), (), rfl, (by unfold f_WM_bridge; rw [if_neg c_1, if_pos c_2]), trivial⟩, by rw [hAe]; exact hS.F ht⟩) (by rw [hAe]; exact hS.2.2) d_WM_bridge_23
    · refine lv_iload_n hx hb d_WM_bridge_9 rfl (lv_at hl 1 rfl) ?_
      refine lv_aload_n hx hb d_WM_bridge_10 rfl (lv_at hl 0 rfl) ?_
      refine va_get (D := (dC, dI)) (ci := 0) (v := .ref (a 1)) (C := R_WM) (T := F_WM) (N := 13) hx hb htb i_WM hown hK hP 0 rfl rfl 0 (by decide) (htb (.fieldLink R_WM 12 "WaterMen" "river" "LWaterMen$River;") tw_0) (fun _ h9 => h9) rfl d_WM_bridge_11 ?_
      refine va_get (D := (dC, dI)) (ci := 1) (v := .int 0) (C := R_Rv) (T := F_Rv) (N := 6) hx hb htb i_Rv hown hK hP 1 rfl rfl 4 (by decide) (htb (.fieldLink R_WM 64 "WaterMen$River" "stairCount" "I") tw_7) (fun _ h9 => h9) rfl d_WM_bridge_14 ?_
      refine lv_iconst (v := 1) hx hb d_WM_bridge_17 (by decide +kernel) ?_
      refine lv_isub hx hb d_WM_bridge_18 ?_
      refine hb_ti (-1) (by decide +kernel) ?_
      refine lv_icmp_lt (tgt := 24) hx hb d_WM_bridge_19 (by decide) (fun h => absurd h (show ¬ (p_0 < (-1)) from by have e0 := c_2; rw [Int32.lt_iff_toInt_lt] at e0; have z0 : ((-1) : Int32).toInt = -1 := (by decide +kernel); have z1 : (0 : Int32).toInt = 0 := (by decide +kernel); rw [Int32.lt_iff_toInt_lt]; omega)) (fun _ => ?_)
      refine lv_iconst (v := (-1)) hx hb d_WM_bridge_22 (by decide +kernel) ?_
      refine W.widen (k := 0) (n := 0) (Nat.le_of_ble_eq_true rfl) (Nat.le_of_ble_eq_true rfl) ?_
      exact W.iret (v := (-1)) hx hb hr (fun t ht hW => ⟨⟨(-1), (), rfl, (by unfold f_WM_bridge; rw [if_neg c_1, if_neg c_2]), trivial⟩, by rw [hAe]; exact hS.F ht⟩) (by rw [hAe]; exact hS.2.2) d_WM_bridge_23
def f_WM_isDay (p_0 : Int32) : Int32 := if p_0 < 0 then (0) else (if 500 ≤ p_0 then (0) else (1))
set_option maxHeartbeats 4000000 in
set_option maxRecDepth 100000 in
theorem c_WM_isDay (l : Launch)  (p_0 : Int32)  : Met l y_WM_isDay (.code y_WM_isDay b_WM_isDay 1 (some .boolean) :: TB) ({ frames := 0, cells := 0, slots := 0, locals := 0 }) (va_Pc [.int p_0] (fun _ => True)) (vp_Si (fun r => r = f_WM_isDay p_0)) 0 0 (fun _ => False) := by
  refine Met.ofW (cc := b_WM_isDay) (maxL := 1) (ret := (some .boolean)) (by decide) rfl ?_
  intro p e s m args below meth c s₁ B hml hv
  obtain ⟨rfl, -⟩ := hv
  have hx := B.exec
  have hb := B.bytes
  have hr := B.returns
  have hts := atoms_spec (ws := (.code y_WM_isDay b_WM_isDay 1 (some .boolean) :: TB)) B.pre
  have htb := fun w (h : w ∈ TB) => hts w (List.mem_cons_of_mem _ h)
  have hown : s.vm.findClass R_WM = some m.cls := findClass_of_methodNamed B.named
  have hlocks := B.notSynchronized
  have hl := lv_entry ([.int p_0]) (n := 1) (Nat.le_of_ble_eq_true rfl)
  rw [lg_entry_eq]
  generalize (lg_sl ([.int p_0]) ++ List.replicate (1 - (lg_sl ([.int p_0])).length) Slot.unset).toArray = ls at hl ⊢
  have hl : lv_has ls 1 [(0, .int p_0)] := hl
  refine lv_iload_n hx hb d_WM_isDay_0 rfl (lv_at hl 0 rfl) ?_
  refine lv_if_lt (tgt := 15) hx hb d_WM_isDay_1 (by decide) (fun c_1 => ?_) (fun c_1 => ?_)
  · refine lv_iconst (v := 0) hx hb d_WM_isDay_15 (by decide +kernel) ?_
    exact W.zret (v := 0) hx hb hr (by decide +kernel) (fun t ht hW => ⟨0, rfl, (by unfold f_WM_isDay; rw [if_pos c_1]), ht⟩) t_nil d_WM_isDay_16
  · refine lv_iload_n hx hb d_WM_isDay_4 rfl (lv_at hl 0 rfl) ?_
    refine lv_sipush (v := 500) hx hb d_WM_isDay_5 (by decide +kernel) ?_
    refine lv_icmp_ge (tgt := 15) hx hb d_WM_isDay_8 (by decide) (fun c_2 => ?_) (fun c_2 => ?_)
    · refine lv_iconst (v := 0) hx hb d_WM_isDay_15 (by decide +kernel) ?_
      exact W.zret (v := 0) hx hb hr (by decide +kernel) (fun t ht hW => ⟨0, rfl, (by unfold f_WM_isDay; rw [if_neg c_1, if_pos c_2]), ht⟩) t_nil d_WM_isDay_16
    · refine lv_iconst (v := 1) hx hb d_WM_isDay_11 (by decide +kernel) ?_
      refine lv_goto (tgt := 16) hx hb d_WM_isDay_12 (by decide) ?_
      exact W.zret (v := 1) hx hb hr (by decide +kernel) (fun t ht hW => ⟨1, rfl, (by unfold f_WM_isDay; rw [if_neg c_1, if_neg c_2]), ht⟩) t_nil d_WM_isDay_16
def f_WM_isHour (p_0 : Int32) : Int32 := if p_0 < 0 then (0) else (if 12 ≤ p_0 then (0) else (1))
set_option maxHeartbeats 4000000 in
set_option maxRecDepth 100000 in
theorem c_WM_isHour (l : Launch)  (p_0 : Int32)  : Met l y_WM_isHour (.code y_WM_isHour b_WM_isHour 1 (some .boolean) :: TB) ({ frames := 0, cells := 0, slots := 0, locals := 0 }) (va_Pc [.int p_0] (fun _ => True)) (vp_Si (fun r => r = f_WM_isHour p_0)) 0 0 (fun _ => False) := by
  refine Met.ofW (cc := b_WM_isHour) (maxL := 1) (ret := (some .boolean)) (by decide) rfl ?_
  intro p e s m args below meth c s₁ B hml hv
  obtain ⟨rfl, -⟩ := hv
  have hx := B.exec
  have hb := B.bytes
  have hr := B.returns
  have hts := atoms_spec (ws := (.code y_WM_isHour b_WM_isHour 1 (some .boolean) :: TB)) B.pre
  have htb := fun w (h : w ∈ TB) => hts w (List.mem_cons_of_mem _ h)
  have hown : s.vm.findClass R_WM = some m.cls := findClass_of_methodNamed B.named
  have hlocks := B.notSynchronized
  have hl := lv_entry ([.int p_0]) (n := 1) (Nat.le_of_ble_eq_true rfl)
  rw [lg_entry_eq]
  generalize (lg_sl ([.int p_0]) ++ List.replicate (1 - (lg_sl ([.int p_0])).length) Slot.unset).toArray = ls at hl ⊢
  have hl : lv_has ls 1 [(0, .int p_0)] := hl
  refine lv_iload_n hx hb d_WM_isHour_0 rfl (lv_at hl 0 rfl) ?_
  refine lv_if_lt (tgt := 14) hx hb d_WM_isHour_1 (by decide) (fun c_1 => ?_) (fun c_1 => ?_)
  · refine lv_iconst (v := 0) hx hb d_WM_isHour_14 (by decide +kernel) ?_
    exact W.zret (v := 0) hx hb hr (by decide +kernel) (fun t ht hW => ⟨0, rfl, (by unfold f_WM_isHour; rw [if_pos c_1]), ht⟩) t_nil d_WM_isHour_15
  · refine lv_iload_n hx hb d_WM_isHour_4 rfl (lv_at hl 0 rfl) ?_
    refine lv_bipush (v := 12) hx hb d_WM_isHour_5 (by decide +kernel) ?_
    refine lv_icmp_ge (tgt := 14) hx hb d_WM_isHour_7 (by decide) (fun c_2 => ?_) (fun c_2 => ?_)
    · refine lv_iconst (v := 0) hx hb d_WM_isHour_14 (by decide +kernel) ?_
      exact W.zret (v := 0) hx hb hr (by decide +kernel) (fun t ht hW => ⟨0, rfl, (by unfold f_WM_isHour; rw [if_neg c_1, if_pos c_2]), ht⟩) t_nil d_WM_isHour_15
    · refine lv_iconst (v := 1) hx hb d_WM_isHour_10 (by decide +kernel) ?_
      refine lv_goto (tgt := 15) hx hb d_WM_isHour_11 (by decide) ?_
      exact W.zret (v := 1) hx hb hr (by decide +kernel) (fun t ht hW => ⟨1, rfl, (by unfold f_WM_isHour; rw [if_neg c_1, if_neg c_2]), ht⟩) t_nil d_WM_isHour_15
def f_WM_isLevel (p_0 : Int32) : Int32 := if p_0 < (-90) then (0) else (if 90 < p_0 then (0) else (1))
set_option maxHeartbeats 4000000 in
set_option maxRecDepth 100000 in
theorem c_WM_isLevel (l : Launch)  (p_0 : Int32)  : Met l y_WM_isLevel (.code y_WM_isLevel b_WM_isLevel 1 (some .boolean) :: TB) ({ frames := 0, cells := 0, slots := 0, locals := 0 }) (va_Pc [.int p_0] (fun _ => True)) (vp_Si (fun r => r = f_WM_isLevel p_0)) 0 0 (fun _ => False) := by
  refine Met.ofW (cc := b_WM_isLevel) (maxL := 1) (ret := (some .boolean)) (by decide) rfl ?_
  intro p e s m args below meth c s₁ B hml hv
  obtain ⟨rfl, -⟩ := hv
  have hx := B.exec
  have hb := B.bytes
  have hr := B.returns
  have hts := atoms_spec (ws := (.code y_WM_isLevel b_WM_isLevel 1 (some .boolean) :: TB)) B.pre
  have htb := fun w (h : w ∈ TB) => hts w (List.mem_cons_of_mem _ h)
  have hown : s.vm.findClass R_WM = some m.cls := findClass_of_methodNamed B.named
  have hlocks := B.notSynchronized
  have hl := lv_entry ([.int p_0]) (n := 1) (Nat.le_of_ble_eq_true rfl)
  rw [lg_entry_eq]
  generalize (lg_sl ([.int p_0]) ++ List.replicate (1 - (lg_sl ([.int p_0])).length) Slot.unset).toArray = ls at hl ⊢
  have hl : lv_has ls 1 [(0, .int p_0)] := hl
  refine lv_iload_n hx hb d_WM_isLevel_0 rfl (lv_at hl 0 rfl) ?_
  refine lv_bipush (v := (-90)) hx hb d_WM_isLevel_1 (by decide +kernel) ?_
  refine lv_icmp_lt (tgt := 16) hx hb d_WM_isLevel_3 (by decide) (fun c_1 => ?_) (fun c_1 => ?_)
  · refine lv_iconst (v := 0) hx hb d_WM_isLevel_16 (by decide +kernel) ?_
    exact W.zret (v := 0) hx hb hr (by decide +kernel) (fun t ht hW => ⟨0, rfl, (by unfold f_WM_isLevel; rw [if_pos c_1]), ht⟩) t_nil d_WM_isLevel_17
  · refine lv_iload_n hx hb d_WM_isLevel_6 rfl (lv_at hl 0 rfl) ?_
    refine lv_bipush (v := 90) hx hb d_WM_isLevel_7 (by decide +kernel) ?_
    refine lv_icmp_gt (tgt := 16) hx hb d_WM_isLevel_9 (by decide) (fun c_2 => ?_) (fun c_2 => ?_)
    · refine lv_iconst (v := 0) hx hb d_WM_isLevel_16 (by decide +kernel) ?_
      exact W.zret (v := 0) hx hb hr (by decide +kernel) (fun t ht hW => ⟨0, rfl, (by unfold f_WM_isLevel; rw [if_neg c_1, if_pos c_2]), ht⟩) t_nil d_WM_isLevel_17
    · refine lv_iconst (v := 1) hx hb d_WM_isLevel_12 (by decide +kernel) ?_
      refine lv_goto (tgt := 17) hx hb d_WM_isLevel_13 (by decide) ?_
      exact W.zret (v := 1) hx hb hr (by decide +kernel) (fun t ht hW => ⟨1, rfl, (by unfold f_WM_isLevel; rw [if_neg c_1, if_neg c_2]), ht⟩) t_nil d_WM_isLevel_17
set_option maxHeartbeats 4000000 in
set_option maxRecDepth 100000 in
theorem c_Rv_tell (l : Launch) (dC : Nat → ClassId) (dI : Nat → Nat → Nat) (a : Nat → Nat) (k : Nat → ClassId) (L : List Nat) (hL : L.length = 40) (sz : Nat) (p_0 : Int32) (p_1 : Int32) (p_2 : Int32) (as_0 : ¬ (p_0 < 0)) (as_1 : ¬ (500 ≤ p_0)) (as_2 : ¬ (p_1 < 0)) (as_3 : ¬ (12 ≤ p_1)) : Met l y_Rv_tell (.code y_Rv_tell b_Rv_tell 6 none :: TB) ({ frames := 0, cells := 1, slots := 12, locals := 0 }) (va_Pc [.ref (a 1), .int p_0, .int p_1, .int p_2] (PC dC dI (XW a k L) (XT k) sz)) (va_Qv (fun (_ : Unit) => True) (fun (_ : Unit) (_ : State) => True) (va_A (XW a k L) sz)) 1 12 (va_A (XW a k L) sz) := by
  refine Met.ofW (cc := b_Rv_tell) (maxL := 6) (ret := none) (by decide) rfl ?_
  intro p e s m args below meth c s₁ B hml hv
  obtain ⟨rfl, hsz, hP, hK, hD0, hN⟩ := hv
  have hx := B.exec
  have hb := B.bytes
  have hr := B.returns
  have hts := atoms_spec (ws := (.code y_Rv_tell b_Rv_tell 6 none :: TB)) B.pre
  have htb := fun w (h : w ∈ TB) => hts w (List.mem_cons_of_mem _ h)
  have hown : s.vm.findClass R_Rv = some m.cls := findClass_of_methodNamed B.named
  have hlocks := B.notSynchronized
  have hl := lv_entry ([.ref (a 1), .int p_0, .int p_1, .int p_2]) (n := 6) (Nat.le_of_ble_eq_true rfl)
  rw [lg_entry_eq]
  generalize (lg_sl ([.ref (a 1), .int p_0, .int p_1, .int p_2]) ++ List.replicate (6 - (lg_sl ([.ref (a 1), .int p_0, .int p_1, .int p_2])).length) Slot.unset).toArray = ls at hl ⊢
  have hl : lv_has ls 6 [(0, .ref (a 1)), (1, .int p_0), (2, .int p_1), (3, .int p_2)] := hl
  subst hsz
  have hD := hD0.self (sz := s.heap.size)
  obtain ⟨A, hAe⟩ : ∃ A, va_A (XW a k L) s.heap.size = A := ⟨_, rfl⟩
  rw [hAe] at hD
  have hA : ∀ q : Nat, s.heap.size ≤ q → A q := fun q h => by rw [← hAe]; exact Or.inr h
  have hS : va_S A s.heap s.heap [] := va_S.rf
  have hP := hP
  have hP := hP.sub (ws' := [((a 1), .inr (1, [.ref (a 2), .ref (a 3), .ref (a 4), .ref (a 5), .int 0, .int (-1)])), ((a 3), .inl ((k 3), 12, .inl (fun _ => 0))), ((a 4), .inl ((k 4), 500, .inr (.inr (.inr (.inr (fun _ => none))))))]) [1, 3, 4] rfl
  have hD := hD.sub (ws' := [((a 1), .inr (1, [.ref (a 2), .ref (a 3), .ref (a 4), .ref (a 5), .int 0, .int (-1)])), ((a 3), .inl ((k 3), 12, .inl (fun _ => 0))), ((a 4), .inl ((k 4), 500, .inr (.inr (.inr (.inr (fun _ => none))))))]) [1, 3, 4] (by decide) rfl
  have hK := hK.sub (tys' := [((k 3), .int), ((k 4), .array .int)]) [1, 2] rfl
  refine lv_aload_n hx hb d_Rv_tell_0 rfl (lv_at hl 0 rfl) ?_
  refine va_get (D := (dC, dI)) (ci := 1) (v := .ref (a 4)) (C := R_Rv) (T := F_Rv) (N := 6) hx hb htb i_Rv hown hK hP 0 rfl rfl 2 (by decide) (htb (.fieldLink R_Rv 19 "WaterMen$River" "rows" "[[I") tw_24) (fun _ h9 => h9) rfl d_Rv_tell_1 ?_
  refine lv_iload_n hx hb d_Rv_tell_4 rfl (lv_at hl 1 rfl) ?_
  refine va_aldA hx hb hK hP 2 1 rfl rfl (hb_in as_0 as_1 (by decide +kernel)) d_Rv_tell_5 ?_
  refine hb_tv .null rfl ?_
  refine lv_astoreN (lv' := [(4, .null), (0, .ref (a 1)), (1, .int p_0), (2, .int p_1), (3, .int p_2)]) hx hb d_Rv_tell_6 hl (by decide) rfl (fun ls hl => ?_)
  refine lv_aloadN hx hb d_Rv_tell_8 (lv_at hl 0 rfl) ?_
  refine lv_ifnonnullN hx hb d_Rv_tell_10 ?_
  refine lv_bipush (v := 12) hx hb d_Rv_tell_13 (by decide +kernel) ?_
  refine va_newa (atype := .int) (ty := .int) (N' := 12) (a0 := (12, .inl (fun _ => 0))) hx hb (htb (.arrayClass .int) tw_25) rfl hK hP hD hS hA (fun _ => rfl) (by decide +kernel) (by decide +kernel) (by decide +kernel) (Nat.le_of_ble_eq_true rfl) (Nat.le_of_ble_eq_true rfl) d_Rv_tell_15 (fun q_1 k_2 H hK hP hD hS => ?_)
  have hP : va_P (dC, dI) vwCl [((a 1), .inr (1, [.ref (a 2), .ref (a 3), .ref (a 4), .ref (a 5), .int 0, .int (-1)])), ((a 3), .inl ((k 3), 12, .inl (fun _ => 0))), ((a 4), .inl ((k 4), 500, .inr (.inr (.inr (.inr (fun _ => none)))))), (q_1, .inl (k_2, 12, .inl (fun _ => 0)))] H := hP
  have hD : va_D A [((a 1), .inr (1, [.ref (a 2), .ref (a 3), .ref (a 4), .ref (a 5), .int 0, .int (-1)])), ((a 3), .inl ((k 3), 12, .inl (fun _ => 0))), ((a 4), .inl ((k 4), 500, .inr (.inr (.inr (.inr (fun _ => none)))))), (q_1, .inl (k_2, 12, .inl (fun _ => 0)))] := hD
  refine lv_astore (lv' := [(4, .ref q_1), (0, .ref (a 1)), (1, .int p_0), (2, .int p_1), (3, .int p_2)]) hx hb d_Rv_tell_17 hl (by decide) rfl (fun ls hl => ?_)
  refine lv_iconst (v := 0) hx hb d_Rv_tell_19 (by decide +kernel) ?_
  refine lv_istore (lv' := [(5, .int 0), (4, .ref q_1), (0, .ref (a 1)), (1, .int p_0), (2, .int p_1), (3, .int p_2)]) hx hb d_Rv_tell_20 hl (by decide) rfl (fun ls hl => ?_)
  refine lv_iload hx hb d_Rv_tell_22 (lv_at hl 0 rfl) ?_
  refine lv_bipush (v := 12) hx hb d_Rv_tell_24 (by decide +kernel) ?_
  refine lv_icmp_ge (tgt := 52) hx hb d_Rv_tell_26 (by decide) (fun h => absurd h (by decide +kernel)) (fun _ => ?_)
  refine lv_aload hx hb d_Rv_tell_29 (lv_at hl 1 rfl) ?_
  refine lv_iload hx hb d_Rv_tell_31 (lv_at hl 0 rfl) ?_
  refine lv_aload_n hx hb d_Rv_tell_33 rfl (lv_at hl 2 rfl) ?_
  refine va_get (D := (dC, dI)) (ci := 1) (v := .ref (a 3)) (C := R_Rv) (T := F_Rv) (N := 6) hx hb htb i_Rv hown hK hP 0 rfl rfl 1 (by decide) (htb (.fieldLink R_Rv 15 "WaterMen$River" "table" "[I") tw_26) (fun _ h9 => h9) rfl d_Rv_tell_34 ?_
  refine lv_iload hx hb d_Rv_tell_37 (lv_at hl 0 rfl) ?_
  refine lv_iload_n hx hb d_Rv_tell_39 rfl (lv_at hl 3 rfl) ?_
  refine lv_iadd hx hb d_Rv_tell_40 ?_
  refine lv_bipush (v := 12) hx hb d_Rv_tell_41 (by decide +kernel) ?_
  refine lv_irem hx hb d_Rv_tell_43 (by decide) ?_
  refine va_iald hx hb hK hP 1 0 rfl rfl (hb_rem12 (by decide +kernel) (by decide +kernel) as_0 (show ¬ (1000 < p_0) from by have e0 := as_0; rw [Int32.lt_iff_toInt_lt] at e0; have e1 := as_1; rw [Int32.le_iff_toInt_le] at e1; have z0 : (0 : Int32).toInt = 0 := (by decide +kernel); have z1 : (500 : Int32).toInt = 500 := (by decide +kernel); have z2 : (1000 : Int32).toInt = 1000 := (by decide +kernel); rw [Int32.lt_iff_toInt_lt]; omega)) d_Rv_tell_44 ?_
  refine hb_ti 0 rfl ?_
  refine va_iast hx hb hK hP hD hS 3 2 rfl rfl (by unfold vp_in; decide +kernel) d_Rv_tell_45 (fun H locs hP hD hS => ?_)
  rw [hb_upd0 0 (0 : Int32).toNatClampNeg (0) (by decide +kernel)] at hP hD
  have hP : va_P (dC, dI) vwCl [((a 1), .inr (1, [.ref (a 2), .ref (a 3), .ref (a 4), .ref (a 5), .int 0, .int (-1)])), ((a 3), .inl ((k 3), 12, .inl (fun _ => 0))), ((a 4), .inl ((k 4), 500, .inr (.inr (.inr (.inr (fun _ => none)))))), (q_1, .inl (k_2, 12, .inl (fun _ => 0)))] H := hP
  have hD : va_D A [((a 1), .inr (1, [.ref (a 2), .ref (a 3), .ref (a 4), .ref (a 5), .int 0, .int (-1)])), ((a 3), .inl ((k 3), 12, .inl (fun _ => 0))), ((a 4), .inl ((k 4), 500, .inr (.inr (.inr (.inr (fun _ => none)))))), (q_1, .inl (k_2, 12, .inl (fun _ => 0)))] := hD
  refine lv_iinc (v := 1) (lv' := [(5, .int 1), (4, .ref q_1), (0, .ref (a 1)), (1, .int p_0), (2, .int p_1), (3, .int p_2)]) hx hb d_Rv_tell_46 hl (k := 0) rfl (by decide +kernel) (by decide) rfl (fun ls hl => ?_)
  refine lv_goto (tgt := 22) hx hb d_Rv_tell_49 (by decide) ?_
  refine lv_iload hx hb d_Rv_tell_22 (lv_at hl 0 rfl) ?_
  refine lv_bipush (v := 12) hx hb d_Rv_tell_24 (by decide +kernel) ?_
  refine lv_icmp_ge (tgt := 52) hx hb d_Rv_tell_26 (by decide) (fun h => absurd h (by decide +kernel)) (fun _ => ?_)
  refine lv_aload hx hb d_Rv_tell_29 (lv_at hl 1 rfl) ?_
  refine lv_iload hx hb d_Rv_tell_31 (lv_at hl 0 rfl) ?_
  refine lv_aload_n hx hb d_Rv_tell_33 rfl (lv_at hl 2 rfl) ?_
  refine va_get (D := (dC, dI)) (ci := 1) (v := .ref (a 3)) (C := R_Rv) (T := F_Rv) (N := 6) hx hb htb i_Rv hown hK hP 0 rfl rfl 1 (by decide) (htb (.fieldLink R_Rv 15 "WaterMen$River" "table" "[I") tw_26) (fun _ h9 => h9) rfl d_Rv_tell_34 ?_
  refine lv_iload hx hb d_Rv_tell_37 (lv_at hl 0 rfl) ?_
  refine lv_iload_n hx hb d_Rv_tell_39 rfl (lv_at hl 3 rfl) ?_
  refine lv_iadd hx hb d_Rv_tell_40 ?_
  refine lv_bipush (v := 12) hx hb d_Rv_tell_41 (by decide +kernel) ?_
  refine lv_irem hx hb d_Rv_tell_43 (by decide) ?_
  refine va_iald hx hb hK hP 1 0 rfl rfl (hb_rem12 (by decide +kernel) (by decide +kernel) as_0 (show ¬ (1000 < p_0) from by have e0 := as_0; rw [Int32.lt_iff_toInt_lt] at e0; have e1 := as_1; rw [Int32.le_iff_toInt_le] at e1; have z0 : (0 : Int32).toInt = 0 := (by decide +kernel); have z1 : (500 : Int32).toInt = 500 := (by decide +kernel); have z2 : (1000 : Int32).toInt = 1000 := (by decide +kernel); rw [Int32.lt_iff_toInt_lt]; omega)) d_Rv_tell_44 ?_
  refine hb_ti 0 rfl ?_
  refine va_iast hx hb hK hP hD hS 3 2 rfl rfl (by unfold vp_in; decide +kernel) d_Rv_tell_45 (fun H locs hP hD hS => ?_)
  rw [hb_upd0 0 (1 : Int32).toNatClampNeg (0) (by decide +kernel)] at hP hD
  have hP : va_P (dC, dI) vwCl [((a 1), .inr (1, [.ref (a 2), .ref (a 3), .ref (a 4), .ref (a 5), .int 0, .int (-1)])), ((a 3), .inl ((k 3), 12, .inl (fun _ => 0))), ((a 4), .inl ((k 4), 500, .inr (.inr (.inr (.inr (fun _ => none)))))), (q_1, .inl (k_2, 12, .inl (fun _ => 0)))] H := hP
  have hD : va_D A [((a 1), .inr (1, [.ref (a 2), .ref (a 3), .ref (a 4), .ref (a 5), .int 0, .int (-1)])), ((a 3), .inl ((k 3), 12, .inl (fun _ => 0))), ((a 4), .inl ((k 4), 500, .inr (.inr (.inr (.inr (fun _ => none)))))), (q_1, .inl (k_2, 12, .inl (fun _ => 0)))] := hD
  refine lv_iinc (v := 2) (lv' := [(5, .int 2), (4, .ref q_1), (0, .ref (a 1)), (1, .int p_0), (2, .int p_1), (3, .int p_2)]) hx hb d_Rv_tell_46 hl (k := 0) rfl (by decide +kernel) (by decide) rfl (fun ls hl => ?_)
  refine lv_goto (tgt := 22) hx hb d_Rv_tell_49 (by decide) ?_
  refine lv_iload hx hb d_Rv_tell_22 (lv_at hl 0 rfl) ?_
  refine lv_bipush (v := 12) hx hb d_Rv_tell_24 (by decide +kernel) ?_
  refine lv_icmp_ge (tgt := 52) hx hb d_Rv_tell_26 (by decide) (fun h => absurd h (by decide +kernel)) (fun _ => ?_)
  refine lv_aload hx hb d_Rv_tell_29 (lv_at hl 1 rfl) ?_
  refine lv_iload hx hb d_Rv_tell_31 (lv_at hl 0 rfl) ?_
  refine lv_aload_n hx hb d_Rv_tell_33 rfl (lv_at hl 2 rfl) ?_
  refine va_get (D := (dC, dI)) (ci := 1) (v := .ref (a 3)) (C := R_Rv) (T := F_Rv) (N := 6) hx hb htb i_Rv hown hK hP 0 rfl rfl 1 (by decide) (htb (.fieldLink R_Rv 15 "WaterMen$River" "table" "[I") tw_26) (fun _ h9 => h9) rfl d_Rv_tell_34 ?_
  refine lv_iload hx hb d_Rv_tell_37 (lv_at hl 0 rfl) ?_
  refine lv_iload_n hx hb d_Rv_tell_39 rfl (lv_at hl 3 rfl) ?_
  refine lv_iadd hx hb d_Rv_tell_40 ?_
  refine lv_bipush (v := 12) hx hb d_Rv_tell_41 (by decide +kernel) ?_
  refine lv_irem hx hb d_Rv_tell_43 (by decide) ?_
  refine va_iald hx hb hK hP 1 0 rfl rfl (hb_rem12 (by decide +kernel) (by decide +kernel) as_0 (show ¬ (1000 < p_0) from by have e0 := as_0; rw [Int32.lt_iff_toInt_lt] at e0; have e1 := as_1; rw [Int32.le_iff_toInt_le] at e1; have z0 : (0 : Int32).toInt = 0 := (by decide +kernel); have z1 : (500 : Int32).toInt = 500 := (by decide +kernel); have z2 : (1000 : Int32).toInt = 1000 := (by decide +kernel); rw [Int32.lt_iff_toInt_lt]; omega)) d_Rv_tell_44 ?_
  refine hb_ti 0 rfl ?_
  refine va_iast hx hb hK hP hD hS 3 2 rfl rfl (by unfold vp_in; decide +kernel) d_Rv_tell_45 (fun H locs hP hD hS => ?_)
  rw [hb_upd0 0 (2 : Int32).toNatClampNeg (0) (by decide +kernel)] at hP hD
  have hP : va_P (dC, dI) vwCl [((a 1), .inr (1, [.ref (a 2), .ref (a 3), .ref (a 4), .ref (a 5), .int 0, .int (-1)])), ((a 3), .inl ((k 3), 12, .inl (fun _ => 0))), ((a 4), .inl ((k 4), 500, .inr (.inr (.inr (.inr (fun _ => none)))))), (q_1, .inl (k_2, 12, .inl (fun _ => 0)))] H := hP
  have hD : va_D A [((a 1), .inr (1, [.ref (a 2), .ref (a 3), .ref (a 4), .ref (a 5), .int 0, .int (-1)])), ((a 3), .inl ((k 3), 12, .inl (fun _ => 0))), ((a 4), .inl ((k 4), 500, .inr (.inr (.inr (.inr (fun _ => none)))))), (q_1, .inl (k_2, 12, .inl (fun _ => 0)))] := hD
  refine lv_iinc (v := 3) (lv' := [(5, .int 3), (4, .ref q_1), (0, .ref (a 1)), (1, .int p_0), (2, .int p_1), (3, .int p_2)]) hx hb d_Rv_tell_46 hl (k := 0) rfl (by decide +kernel) (by decide) rfl (fun ls hl => ?_)
  refine lv_goto (tgt := 22) hx hb d_Rv_tell_49 (by decide) ?_
  refine lv_iload hx hb d_Rv_tell_22 (lv_at hl 0 rfl) ?_
  refine lv_bipush (v := 12) hx hb d_Rv_tell_24 (by decide +kernel) ?_
  refine lv_icmp_ge (tgt := 52) hx hb d_Rv_tell_26 (by decide) (fun h => absurd h (by decide +kernel)) (fun _ => ?_)
  refine lv_aload hx hb d_Rv_tell_29 (lv_at hl 1 rfl) ?_
  refine lv_iload hx hb d_Rv_tell_31 (lv_at hl 0 rfl) ?_
  refine lv_aload_n hx hb d_Rv_tell_33 rfl (lv_at hl 2 rfl) ?_
  refine va_get (D := (dC, dI)) (ci := 1) (v := .ref (a 3)) (C := R_Rv) (T := F_Rv) (N := 6) hx hb htb i_Rv hown hK hP 0 rfl rfl 1 (by decide) (htb (.fieldLink R_Rv 15 "WaterMen$River" "table" "[I") tw_26) (fun _ h9 => h9) rfl d_Rv_tell_34 ?_
  refine lv_iload hx hb d_Rv_tell_37 (lv_at hl 0 rfl) ?_
  refine lv_iload_n hx hb d_Rv_tell_39 rfl (lv_at hl 3 rfl) ?_
  refine lv_iadd hx hb d_Rv_tell_40 ?_
  refine lv_bipush (v := 12) hx hb d_Rv_tell_41 (by decide +kernel) ?_
  refine lv_irem hx hb d_Rv_tell_43 (by decide) ?_
  refine va_iald hx hb hK hP 1 0 rfl rfl (hb_rem12 (by decide +kernel) (by decide +kernel) as_0 (show ¬ (1000 < p_0) from by have e0 := as_0; rw [Int32.lt_iff_toInt_lt] at e0; have e1 := as_1; rw [Int32.le_iff_toInt_le] at e1; have z0 : (0 : Int32).toInt = 0 := (by decide +kernel); have z1 : (500 : Int32).toInt = 500 := (by decide +kernel); have z2 : (1000 : Int32).toInt = 1000 := (by decide +kernel); rw [Int32.lt_iff_toInt_lt]; omega)) d_Rv_tell_44 ?_
  refine hb_ti 0 rfl ?_
  refine va_iast hx hb hK hP hD hS 3 2 rfl rfl (by unfold vp_in; decide +kernel) d_Rv_tell_45 (fun H locs hP hD hS => ?_)
  rw [hb_upd0 0 (3 : Int32).toNatClampNeg (0) (by decide +kernel)] at hP hD
  have hP : va_P (dC, dI) vwCl [((a 1), .inr (1, [.ref (a 2), .ref (a 3), .ref (a 4), .ref (a 5), .int 0, .int (-1)])), ((a 3), .inl ((k 3), 12, .inl (fun _ => 0))), ((a 4), .inl ((k 4), 500, .inr (.inr (.inr (.inr (fun _ => none)))))), (q_1, .inl (k_2, 12, .inl (fun _ => 0)))] H := hP
  have hD : va_D A [((a 1), .inr (1, [.ref (a 2), .ref (a 3), .ref (a 4), .ref (a 5), .int 0, .int (-1)])), ((a 3), .inl ((k 3), 12, .inl (fun _ => 0))), ((a 4), .inl ((k 4), 500, .inr (.inr (.inr (.inr (fun _ => none)))))), (q_1, .inl (k_2, 12, .inl (fun _ => 0)))] := hD
  refine lv_iinc (v := 4) (lv' := [(5, .int 4), (4, .ref q_1), (0, .ref (a 1)), (1, .int p_0), (2, .int p_1), (3, .int p_2)]) hx hb d_Rv_tell_46 hl (k := 0) rfl (by decide +kernel) (by decide) rfl (fun ls hl => ?_)
  refine lv_goto (tgt := 22) hx hb d_Rv_tell_49 (by decide) ?_
  refine lv_iload hx hb d_Rv_tell_22 (lv_at hl 0 rfl) ?_
  refine lv_bipush (v := 12) hx hb d_Rv_tell_24 (by decide +kernel) ?_
  refine lv_icmp_ge (tgt := 52) hx hb d_Rv_tell_26 (by decide) (fun h => absurd h (by decide +kernel)) (fun _ => ?_)
  refine lv_aload hx hb d_Rv_tell_29 (lv_at hl 1 rfl) ?_
  refine lv_iload hx hb d_Rv_tell_31 (lv_at hl 0 rfl) ?_
  refine lv_aload_n hx hb d_Rv_tell_33 rfl (lv_at hl 2 rfl) ?_
  refine va_get (D := (dC, dI)) (ci := 1) (v := .ref (a 3)) (C := R_Rv) (T := F_Rv) (N := 6) hx hb htb i_Rv hown hK hP 0 rfl rfl 1 (by decide) (htb (.fieldLink R_Rv 15 "WaterMen$River" "table" "[I") tw_26) (fun _ h9 => h9) rfl d_Rv_tell_34 ?_
  refine lv_iload hx hb d_Rv_tell_37 (lv_at hl 0 rfl) ?_
  refine lv_iload_n hx hb d_Rv_tell_39 rfl (lv_at hl 3 rfl) ?_
  refine lv_iadd hx hb d_Rv_tell_40 ?_
  refine lv_bipush (v := 12) hx hb d_Rv_tell_41 (by decide +kernel) ?_
  refine lv_irem hx hb d_Rv_tell_43 (by decide) ?_
  refine va_iald hx hb hK hP 1 0 rfl rfl (hb_rem12 (by decide +kernel) (by decide +kernel) as_0 (show ¬ (1000 < p_0) from by have e0 := as_0; rw [Int32.lt_iff_toInt_lt] at e0; have e1 := as_1; rw [Int32.le_iff_toInt_le] at e1; have z0 : (0 : Int32).toInt = 0 := (by decide +kernel); have z1 : (500 : Int32).toInt = 500 := (by decide +kernel); have z2 : (1000 : Int32).toInt = 1000 := (by decide +kernel); rw [Int32.lt_iff_toInt_lt]; omega)) d_Rv_tell_44 ?_
  refine hb_ti 0 rfl ?_
  refine va_iast hx hb hK hP hD hS 3 2 rfl rfl (by unfold vp_in; decide +kernel) d_Rv_tell_45 (fun H locs hP hD hS => ?_)
  rw [hb_upd0 0 (4 : Int32).toNatClampNeg (0) (by decide +kernel)] at hP hD
  have hP : va_P (dC, dI) vwCl [((a 1), .inr (1, [.ref (a 2), .ref (a 3), .ref (a 4), .ref (a 5), .int 0, .int (-1)])), ((a 3), .inl ((k 3), 12, .inl (fun _ => 0))), ((a 4), .inl ((k 4), 500, .inr (.inr (.inr (.inr (fun _ => none)))))), (q_1, .inl (k_2, 12, .inl (fun _ => 0)))] H := hP
  have hD : va_D A [((a 1), .inr (1, [.ref (a 2), .ref (a 3), .ref (a 4), .ref (a 5), .int 0, .int (-1)])), ((a 3), .inl ((k 3), 12, .inl (fun _ => 0))), ((a 4), .inl ((k 4), 500, .inr (.inr (.inr (.inr (fun _ => none)))))), (q_1, .inl (k_2, 12, .inl (fun _ => 0)))] := hD
  refine lv_iinc (v := 5) (lv' := [(5, .int 5), (4, .ref q_1), (0, .ref (a 1)), (1, .int p_0), (2, .int p_1), (3, .int p_2)]) hx hb d_Rv_tell_46 hl (k := 0) rfl (by decide +kernel) (by decide) rfl (fun ls hl => ?_)
  refine lv_goto (tgt := 22) hx hb d_Rv_tell_49 (by decide) ?_
  refine lv_iload hx hb d_Rv_tell_22 (lv_at hl 0 rfl) ?_
  refine lv_bipush (v := 12) hx hb d_Rv_tell_24 (by decide +kernel) ?_
  refine lv_icmp_ge (tgt := 52) hx hb d_Rv_tell_26 (by decide) (fun h => absurd h (by decide +kernel)) (fun _ => ?_)
  refine lv_aload hx hb d_Rv_tell_29 (lv_at hl 1 rfl) ?_
  refine lv_iload hx hb d_Rv_tell_31 (lv_at hl 0 rfl) ?_
  refine lv_aload_n hx hb d_Rv_tell_33 rfl (lv_at hl 2 rfl) ?_
  refine va_get (D := (dC, dI)) (ci := 1) (v := .ref (a 3)) (C := R_Rv) (T := F_Rv) (N := 6) hx hb htb i_Rv hown hK hP 0 rfl rfl 1 (by decide) (htb (.fieldLink R_Rv 15 "WaterMen$River" "table" "[I") tw_26) (fun _ h9 => h9) rfl d_Rv_tell_34 ?_
  refine lv_iload hx hb d_Rv_tell_37 (lv_at hl 0 rfl) ?_
  refine lv_iload_n hx hb d_Rv_tell_39 rfl (lv_at hl 3 rfl) ?_
  refine lv_iadd hx hb d_Rv_tell_40 ?_
  refine lv_bipush (v := 12) hx hb d_Rv_tell_41 (by decide +kernel) ?_
  refine lv_irem hx hb d_Rv_tell_43 (by decide) ?_
  refine va_iald hx hb hK hP 1 0 rfl rfl (hb_rem12 (by decide +kernel) (by decide +kernel) as_0 (show ¬ (1000 < p_0) from by have e0 := as_0; rw [Int32.lt_iff_toInt_lt] at e0; have e1 := as_1; rw [Int32.le_iff_toInt_le] at e1; have z0 : (0 : Int32).toInt = 0 := (by decide +kernel); have z1 : (500 : Int32).toInt = 500 := (by decide +kernel); have z2 : (1000 : Int32).toInt = 1000 := (by decide +kernel); rw [Int32.lt_iff_toInt_lt]; omega)) d_Rv_tell_44 ?_
  refine hb_ti 0 rfl ?_
  refine va_iast hx hb hK hP hD hS 3 2 rfl rfl (by unfold vp_in; decide +kernel) d_Rv_tell_45 (fun H locs hP hD hS => ?_)
  rw [hb_upd0 0 (5 : Int32).toNatClampNeg (0) (by decide +kernel)] at hP hD
  have hP : va_P (dC, dI) vwCl [((a 1), .inr (1, [.ref (a 2), .ref (a 3), .ref (a 4), .ref (a 5), .int 0, .int (-1)])), ((a 3), .inl ((k 3), 12, .inl (fun _ => 0))), ((a 4), .inl ((k 4), 500, .inr (.inr (.inr (.inr (fun _ => none)))))), (q_1, .inl (k_2, 12, .inl (fun _ => 0)))] H := hP
  have hD : va_D A [((a 1), .inr (1, [.ref (a 2), .ref (a 3), .ref (a 4), .ref (a 5), .int 0, .int (-1)])), ((a 3), .inl ((k 3), 12, .inl (fun _ => 0))), ((a 4), .inl ((k 4), 500, .inr (.inr (.inr (.inr (fun _ => none)))))), (q_1, .inl (k_2, 12, .inl (fun _ => 0)))] := hD
  refine lv_iinc (v := 6) (lv' := [(5, .int 6), (4, .ref q_1), (0, .ref (a 1)), (1, .int p_0), (2, .int p_1), (3, .int p_2)]) hx hb d_Rv_tell_46 hl (k := 0) rfl (by decide +kernel) (by decide) rfl (fun ls hl => ?_)
  refine lv_goto (tgt := 22) hx hb d_Rv_tell_49 (by decide) ?_
  refine lv_iload hx hb d_Rv_tell_22 (lv_at hl 0 rfl) ?_
  refine lv_bipush (v := 12) hx hb d_Rv_tell_24 (by decide +kernel) ?_
  refine lv_icmp_ge (tgt := 52) hx hb d_Rv_tell_26 (by decide) (fun h => absurd h (by decide +kernel)) (fun _ => ?_)
  refine lv_aload hx hb d_Rv_tell_29 (lv_at hl 1 rfl) ?_
  refine lv_iload hx hb d_Rv_tell_31 (lv_at hl 0 rfl) ?_
  refine lv_aload_n hx hb d_Rv_tell_33 rfl (lv_at hl 2 rfl) ?_
  refine va_get (D := (dC, dI)) (ci := 1) (v := .ref (a 3)) (C := R_Rv) (T := F_Rv) (N := 6) hx hb htb i_Rv hown hK hP 0 rfl rfl 1 (by decide) (htb (.fieldLink R_Rv 15 "WaterMen$River" "table" "[I") tw_26) (fun _ h9 => h9) rfl d_Rv_tell_34 ?_
  refine lv_iload hx hb d_Rv_tell_37 (lv_at hl 0 rfl) ?_
  refine lv_iload_n hx hb d_Rv_tell_39 rfl (lv_at hl 3 rfl) ?_
  refine lv_iadd hx hb d_Rv_tell_40 ?_
  refine lv_bipush (v := 12) hx hb d_Rv_tell_41 (by decide +kernel) ?_
  refine lv_irem hx hb d_Rv_tell_43 (by decide) ?_
  refine va_iald hx hb hK hP 1 0 rfl rfl (hb_rem12 (by decide +kernel) (by decide +kernel) as_0 (show ¬ (1000 < p_0) from by have e0 := as_0; rw [Int32.lt_iff_toInt_lt] at e0; have e1 := as_1; rw [Int32.le_iff_toInt_le] at e1; have z0 : (0 : Int32).toInt = 0 := (by decide +kernel); have z1 : (500 : Int32).toInt = 500 := (by decide +kernel); have z2 : (1000 : Int32).toInt = 1000 := (by decide +kernel); rw [Int32.lt_iff_toInt_lt]; omega)) d_Rv_tell_44 ?_
  refine hb_ti 0 rfl ?_
  refine va_iast hx hb hK hP hD hS 3 2 rfl rfl (by unfold vp_in; decide +kernel) d_Rv_tell_45 (fun H locs hP hD hS => ?_)
  rw [hb_upd0 0 (6 : Int32).toNatClampNeg (0) (by decide +kernel)] at hP hD
  have hP : va_P (dC, dI) vwCl [((a 1), .inr (1, [.ref (a 2), .ref (a 3), .ref (a 4), .ref (a 5), .int 0, .int (-1)])), ((a 3), .inl ((k 3), 12, .inl (fun _ => 0))), ((a 4), .inl ((k 4), 500, .inr (.inr (.inr (.inr (fun _ => none)))))), (q_1, .inl (k_2, 12, .inl (fun _ => 0)))] H := hP
  have hD : va_D A [((a 1), .inr (1, [.ref (a 2), .ref (a 3), .ref (a 4), .ref (a 5), .int 0, .int (-1)])), ((a 3), .inl ((k 3), 12, .inl (fun _ => 0))), ((a 4), .inl ((k 4), 500, .inr (.inr (.inr (.inr (fun _ => none)))))), (q_1, .inl (k_2, 12, .inl (fun _ => 0)))] := hD
  refine lv_iinc (v := 7) (lv' := [(5, .int 7), (4, .ref q_1), (0, .ref (a 1)), (1, .int p_0), (2, .int p_1), (3, .int p_2)]) hx hb d_Rv_tell_46 hl (k := 0) rfl (by decide +kernel) (by decide) rfl (fun ls hl => ?_)
  refine lv_goto (tgt := 22) hx hb d_Rv_tell_49 (by decide) ?_
  refine lv_iload hx hb d_Rv_tell_22 (lv_at hl 0 rfl) ?_
  refine lv_bipush (v := 12) hx hb d_Rv_tell_24 (by decide +kernel) ?_
  refine lv_icmp_ge (tgt := 52) hx hb d_Rv_tell_26 (by decide) (fun h => absurd h (by decide +kernel)) (fun _ => ?_)
  refine lv_aload hx hb d_Rv_tell_29 (lv_at hl 1 rfl) ?_
  refine lv_iload hx hb d_Rv_tell_31 (lv_at hl 0 rfl) ?_
  refine lv_aload_n hx hb d_Rv_tell_33 rfl (lv_at hl 2 rfl) ?_
  refine va_get (D := (dC, dI)) (ci := 1) (v := .ref (a 3)) (C := R_Rv) (T := F_Rv) (N := 6) hx hb htb i_Rv hown hK hP 0 rfl rfl 1 (by decide) (htb (.fieldLink R_Rv 15 "WaterMen$River" "table" "[I") tw_26) (fun _ h9 => h9) rfl d_Rv_tell_34 ?_
  refine lv_iload hx hb d_Rv_tell_37 (lv_at hl 0 rfl) ?_
  refine lv_iload_n hx hb d_Rv_tell_39 rfl (lv_at hl 3 rfl) ?_
  refine lv_iadd hx hb d_Rv_tell_40 ?_
  refine lv_bipush (v := 12) hx hb d_Rv_tell_41 (by decide +kernel) ?_
  refine lv_irem hx hb d_Rv_tell_43 (by decide) ?_
  refine va_iald hx hb hK hP 1 0 rfl rfl (hb_rem12 (by decide +kernel) (by decide +kernel) as_0 (show ¬ (1000 < p_0) from by have e0 := as_0; rw [Int32.lt_iff_toInt_lt] at e0; have e1 := as_1; rw [Int32.le_iff_toInt_le] at e1; have z0 : (0 : Int32).toInt = 0 := (by decide +kernel); have z1 : (500 : Int32).toInt = 500 := (by decide +kernel); have z2 : (1000 : Int32).toInt = 1000 := (by decide +kernel); rw [Int32.lt_iff_toInt_lt]; omega)) d_Rv_tell_44 ?_
  refine hb_ti 0 rfl ?_
  refine va_iast hx hb hK hP hD hS 3 2 rfl rfl (by unfold vp_in; decide +kernel) d_Rv_tell_45 (fun H locs hP hD hS => ?_)
  rw [hb_upd0 0 (7 : Int32).toNatClampNeg (0) (by decide +kernel)] at hP hD
  have hP : va_P (dC, dI) vwCl [((a 1), .inr (1, [.ref (a 2), .ref (a 3), .ref (a 4), .ref (a 5), .int 0, .int (-1)])), ((a 3), .inl ((k 3), 12, .inl (fun _ => 0))), ((a 4), .inl ((k 4), 500, .inr (.inr (.inr (.inr (fun _ => none)))))), (q_1, .inl (k_2, 12, .inl (fun _ => 0)))] H := hP
  have hD : va_D A [((a 1), .inr (1, [.ref (a 2), .ref (a 3), .ref (a 4), .ref (a 5), .int 0, .int (-1)])), ((a 3), .inl ((k 3), 12, .inl (fun _ => 0))), ((a 4), .inl ((k 4), 500, .inr (.inr (.inr (.inr (fun _ => none)))))), (q_1, .inl (k_2, 12, .inl (fun _ => 0)))] := hD
  refine lv_iinc (v := 8) (lv' := [(5, .int 8), (4, .ref q_1), (0, .ref (a 1)), (1, .int p_0), (2, .int p_1), (3, .int p_2)]) hx hb d_Rv_tell_46 hl (k := 0) rfl (by decide +kernel) (by decide) rfl (fun ls hl => ?_)
  refine lv_goto (tgt := 22) hx hb d_Rv_tell_49 (by decide) ?_
  refine lv_iload hx hb d_Rv_tell_22 (lv_at hl 0 rfl) ?_
  refine lv_bipush (v := 12) hx hb d_Rv_tell_24 (by decide +kernel) ?_
  refine lv_icmp_ge (tgt := 52) hx hb d_Rv_tell_26 (by decide) (fun h => absurd h (by decide +kernel)) (fun _ => ?_)
  refine lv_aload hx hb d_Rv_tell_29 (lv_at hl 1 rfl) ?_
  refine lv_iload hx hb d_Rv_tell_31 (lv_at hl 0 rfl) ?_
  refine lv_aload_n hx hb d_Rv_tell_33 rfl (lv_at hl 2 rfl) ?_
  refine va_get (D := (dC, dI)) (ci := 1) (v := .ref (a 3)) (C := R_Rv) (T := F_Rv) (N := 6) hx hb htb i_Rv hown hK hP 0 rfl rfl 1 (by decide) (htb (.fieldLink R_Rv 15 "WaterMen$River" "table" "[I") tw_26) (fun _ h9 => h9) rfl d_Rv_tell_34 ?_
  refine lv_iload hx hb d_Rv_tell_37 (lv_at hl 0 rfl) ?_
  refine lv_iload_n hx hb d_Rv_tell_39 rfl (lv_at hl 3 rfl) ?_
  refine lv_iadd hx hb d_Rv_tell_40 ?_
  refine lv_bipush (v := 12) hx hb d_Rv_tell_41 (by decide +kernel) ?_
  refine lv_irem hx hb d_Rv_tell_43 (by decide) ?_
  refine va_iald hx hb hK hP 1 0 rfl rfl (hb_rem12 (by decide +kernel) (by decide +kernel) as_0 (show ¬ (1000 < p_0) from by have e0 := as_0; rw [Int32.lt_iff_toInt_lt] at e0; have e1 := as_1; rw [Int32.le_iff_toInt_le] at e1; have z0 : (0 : Int32).toInt = 0 := (by decide +kernel); have z1 : (500 : Int32).toInt = 500 := (by decide +kernel); have z2 : (1000 : Int32).toInt = 1000 := (by decide +kernel); rw [Int32.lt_iff_toInt_lt]; omega)) d_Rv_tell_44 ?_
  refine hb_ti 0 rfl ?_
  refine va_iast hx hb hK hP hD hS 3 2 rfl rfl (by unfold vp_in; decide +kernel) d_Rv_tell_45 (fun H locs hP hD hS => ?_)
  rw [hb_upd0 0 (8 : Int32).toNatClampNeg (0) (by decide +kernel)] at hP hD
  have hP : va_P (dC, dI) vwCl [((a 1), .inr (1, [.ref (a 2), .ref (a 3), .ref (a 4), .ref (a 5), .int 0, .int (-1)])), ((a 3), .inl ((k 3), 12, .inl (fun _ => 0))), ((a 4), .inl ((k 4), 500, .inr (.inr (.inr (.inr (fun _ => none)))))), (q_1, .inl (k_2, 12, .inl (fun _ => 0)))] H := hP
  have hD : va_D A [((a 1), .inr (1, [.ref (a 2), .ref (a 3), .ref (a 4), .ref (a 5), .int 0, .int (-1)])), ((a 3), .inl ((k 3), 12, .inl (fun _ => 0))), ((a 4), .inl ((k 4), 500, .inr (.inr (.inr (.inr (fun _ => none)))))), (q_1, .inl (k_2, 12, .inl (fun _ => 0)))] := hD
  refine lv_iinc (v := 9) (lv' := [(5, .int 9), (4, .ref q_1), (0, .ref (a 1)), (1, .int p_0), (2, .int p_1), (3, .int p_2)]) hx hb d_Rv_tell_46 hl (k := 0) rfl (by decide +kernel) (by decide) rfl (fun ls hl => ?_)
  refine lv_goto (tgt := 22) hx hb d_Rv_tell_49 (by decide) ?_
  refine lv_iload hx hb d_Rv_tell_22 (lv_at hl 0 rfl) ?_
  refine lv_bipush (v := 12) hx hb d_Rv_tell_24 (by decide +kernel) ?_
  refine lv_icmp_ge (tgt := 52) hx hb d_Rv_tell_26 (by decide) (fun h => absurd h (by decide +kernel)) (fun _ => ?_)
  refine lv_aload hx hb d_Rv_tell_29 (lv_at hl 1 rfl) ?_
  refine lv_iload hx hb d_Rv_tell_31 (lv_at hl 0 rfl) ?_
  refine lv_aload_n hx hb d_Rv_tell_33 rfl (lv_at hl 2 rfl) ?_
  refine va_get (D := (dC, dI)) (ci := 1) (v := .ref (a 3)) (C := R_Rv) (T := F_Rv) (N := 6) hx hb htb i_Rv hown hK hP 0 rfl rfl 1 (by decide) (htb (.fieldLink R_Rv 15 "WaterMen$River" "table" "[I") tw_26) (fun _ h9 => h9) rfl d_Rv_tell_34 ?_
  refine lv_iload hx hb d_Rv_tell_37 (lv_at hl 0 rfl) ?_
  refine lv_iload_n hx hb d_Rv_tell_39 rfl (lv_at hl 3 rfl) ?_
  refine lv_iadd hx hb d_Rv_tell_40 ?_
  refine lv_bipush (v := 12) hx hb d_Rv_tell_41 (by decide +kernel) ?_
  refine lv_irem hx hb d_Rv_tell_43 (by decide) ?_
  refine va_iald hx hb hK hP 1 0 rfl rfl (hb_rem12 (by decide +kernel) (by decide +kernel) as_0 (show ¬ (1000 < p_0) from by have e0 := as_0; rw [Int32.lt_iff_toInt_lt] at e0; have e1 := as_1; rw [Int32.le_iff_toInt_le] at e1; have z0 : (0 : Int32).toInt = 0 := (by decide +kernel); have z1 : (500 : Int32).toInt = 500 := (by decide +kernel); have z2 : (1000 : Int32).toInt = 1000 := (by decide +kernel); rw [Int32.lt_iff_toInt_lt]; omega)) d_Rv_tell_44 ?_
  refine hb_ti 0 rfl ?_
  refine va_iast hx hb hK hP hD hS 3 2 rfl rfl (by unfold vp_in; decide +kernel) d_Rv_tell_45 (fun H locs hP hD hS => ?_)
  rw [hb_upd0 0 (9 : Int32).toNatClampNeg (0) (by decide +kernel)] at hP hD
  have hP : va_P (dC, dI) vwCl [((a 1), .inr (1, [.ref (a 2), .ref (a 3), .ref (a 4), .ref (a 5), .int 0, .int (-1)])), ((a 3), .inl ((k 3), 12, .inl (fun _ => 0))), ((a 4), .inl ((k 4), 500, .inr (.inr (.inr (.inr (fun _ => none)))))), (q_1, .inl (k_2, 12, .inl (fun _ => 0)))] H := hP
  have hD : va_D A [((a 1), .inr (1, [.ref (a 2), .ref (a 3), .ref (a 4), .ref (a 5), .int 0, .int (-1)])), ((a 3), .inl ((k 3), 12, .inl (fun _ => 0))), ((a 4), .inl ((k 4), 500, .inr (.inr (.inr (.inr (fun _ => none)))))), (q_1, .inl (k_2, 12, .inl (fun _ => 0)))] := hD
  refine lv_iinc (v := 10) (lv' := [(5, .int 10), (4, .ref q_1), (0, .ref (a 1)), (1, .int p_0), (2, .int p_1), (3, .int p_2)]) hx hb d_Rv_tell_46 hl (k := 0) rfl (by decide +kernel) (by decide) rfl (fun ls hl => ?_)
  refine lv_goto (tgt := 22) hx hb d_Rv_tell_49 (by decide) ?_
  refine lv_iload hx hb d_Rv_tell_22 (lv_at hl 0 rfl) ?_
  refine lv_bipush (v := 12) hx hb d_Rv_tell_24 (by decide +kernel) ?_
  refine lv_icmp_ge (tgt := 52) hx hb d_Rv_tell_26 (by decide) (fun h => absurd h (by decide +kernel)) (fun _ => ?_)
  refine lv_aload hx hb d_Rv_tell_29 (lv_at hl 1 rfl) ?_
  refine lv_iload hx hb d_Rv_tell_31 (lv_at hl 0 rfl) ?_
  refine lv_aload_n hx hb d_Rv_tell_33 rfl (lv_at hl 2 rfl) ?_
  refine va_get (D := (dC, dI)) (ci := 1) (v := .ref (a 3)) (C := R_Rv) (T := F_Rv) (N := 6) hx hb htb i_Rv hown hK hP 0 rfl rfl 1 (by decide) (htb (.fieldLink R_Rv 15 "WaterMen$River" "table" "[I") tw_26) (fun _ h9 => h9) rfl d_Rv_tell_34 ?_
  refine lv_iload hx hb d_Rv_tell_37 (lv_at hl 0 rfl) ?_
  refine lv_iload_n hx hb d_Rv_tell_39 rfl (lv_at hl 3 rfl) ?_
  refine lv_iadd hx hb d_Rv_tell_40 ?_
  refine lv_bipush (v := 12) hx hb d_Rv_tell_41 (by decide +kernel) ?_
  refine lv_irem hx hb d_Rv_tell_43 (by decide) ?_
  refine va_iald hx hb hK hP 1 0 rfl rfl (hb_rem12 (by decide +kernel) (by decide +kernel) as_0 (show ¬ (1000 < p_0) from by have e0 := as_0; rw [Int32.lt_iff_toInt_lt] at e0; have e1 := as_1; rw [Int32.le_iff_toInt_le] at e1; have z0 : (0 : Int32).toInt = 0 := (by decide +kernel); have z1 : (500 : Int32).toInt = 500 := (by decide +kernel); have z2 : (1000 : Int32).toInt = 1000 := (by decide +kernel); rw [Int32.lt_iff_toInt_lt]; omega)) d_Rv_tell_44 ?_
  refine hb_ti 0 rfl ?_
  refine va_iast hx hb hK hP hD hS 3 2 rfl rfl (by unfold vp_in; decide +kernel) d_Rv_tell_45 (fun H locs hP hD hS => ?_)
  rw [hb_upd0 0 (10 : Int32).toNatClampNeg (0) (by decide +kernel)] at hP hD
  have hP : va_P (dC, dI) vwCl [((a 1), .inr (1, [.ref (a 2), .ref (a 3), .ref (a 4), .ref (a 5), .int 0, .int (-1)])), ((a 3), .inl ((k 3), 12, .inl (fun _ => 0))), ((a 4), .inl ((k 4), 500, .inr (.inr (.inr (.inr (fun _ => none)))))), (q_1, .inl (k_2, 12, .inl (fun _ => 0)))] H := hP
  have hD : va_D A [((a 1), .inr (1, [.ref (a 2), .ref (a 3), .ref (a 4), .ref (a 5), .int 0, .int (-1)])), ((a 3), .inl ((k 3), 12, .inl (fun _ => 0))), ((a 4), .inl ((k 4), 500, .inr (.inr (.inr (.inr (fun _ => none)))))), (q_1, .inl (k_2, 12, .inl (fun _ => 0)))] := hD
  refine lv_iinc (v := 11) (lv' := [(5, .int 11), (4, .ref q_1), (0, .ref (a 1)), (1, .int p_0), (2, .int p_1), (3, .int p_2)]) hx hb d_Rv_tell_46 hl (k := 0) rfl (by decide +kernel) (by decide) rfl (fun ls hl => ?_)
  refine lv_goto (tgt := 22) hx hb d_Rv_tell_49 (by decide) ?_
  refine lv_iload hx hb d_Rv_tell_22 (lv_at hl 0 rfl) ?_
  refine lv_bipush (v := 12) hx hb d_Rv_tell_24 (by decide +kernel) ?_
  refine lv_icmp_ge (tgt := 52) hx hb d_Rv_tell_26 (by decide) (fun h => absurd h (by decide +kernel)) (fun _ => ?_)
  refine lv_aload hx hb d_Rv_tell_29 (lv_at hl 1 rfl) ?_
  refine lv_iload hx hb d_Rv_tell_31 (lv_at hl 0 rfl) ?_
  refine lv_aload_n hx hb d_Rv_tell_33 rfl (lv_at hl 2 rfl) ?_
  refine va_get (D := (dC, dI)) (ci := 1) (v := .ref (a 3)) (C := R_Rv) (T := F_Rv) (N := 6) hx hb htb i_Rv hown hK hP 0 rfl rfl 1 (by decide) (htb (.fieldLink R_Rv 15 "WaterMen$River" "table" "[I") tw_26) (fun _ h9 => h9) rfl d_Rv_tell_34 ?_
  refine lv_iload hx hb d_Rv_tell_37 (lv_at hl 0 rfl) ?_
  refine lv_iload_n hx hb d_Rv_tell_39 rfl (lv_at hl 3 rfl) ?_
  refine lv_iadd hx hb d_Rv_tell_40 ?_
  refine lv_bipush (v := 12) hx hb d_Rv_tell_41 (by decide +kernel) ?_
  refine lv_irem hx hb d_Rv_tell_43 (by decide) ?_
  refine va_iald hx hb hK hP 1 0 rfl rfl (hb_rem12 (by decide +kernel) (by decide +kernel) as_0 (show ¬ (1000 < p_0) from by have e0 := as_0; rw [Int32.lt_iff_toInt_lt] at e0; have e1 := as_1; rw [Int32.le_iff_toInt_le] at e1; have z0 : (0 : Int32).toInt = 0 := (by decide +kernel); have z1 : (500 : Int32).toInt = 500 := (by decide +kernel); have z2 : (1000 : Int32).toInt = 1000 := (by decide +kernel); rw [Int32.lt_iff_toInt_lt]; omega)) d_Rv_tell_44 ?_
  refine hb_ti 0 rfl ?_
  refine va_iast hx hb hK hP hD hS 3 2 rfl rfl (by unfold vp_in; decide +kernel) d_Rv_tell_45 (fun H locs hP hD hS => ?_)
  rw [hb_upd0 0 (11 : Int32).toNatClampNeg (0) (by decide +kernel)] at hP hD
  have hP : va_P (dC, dI) vwCl [((a 1), .inr (1, [.ref (a 2), .ref (a 3), .ref (a 4), .ref (a 5), .int 0, .int (-1)])), ((a 3), .inl ((k 3), 12, .inl (fun _ => 0))), ((a 4), .inl ((k 4), 500, .inr (.inr (.inr (.inr (fun _ => none)))))), (q_1, .inl (k_2, 12, .inl (fun _ => 0)))] H := hP
  have hD : va_D A [((a 1), .inr (1, [.ref (a 2), .ref (a 3), .ref (a 4), .ref (a 5), .int 0, .int (-1)])), ((a 3), .inl ((k 3), 12, .inl (fun _ => 0))), ((a 4), .inl ((k 4), 500, .inr (.inr (.inr (.inr (fun _ => none)))))), (q_1, .inl (k_2, 12, .inl (fun _ => 0)))] := hD
  refine lv_iinc (v := 12) (lv' := [(5, .int 12), (4, .ref q_1), (0, .ref (a 1)), (1, .int p_0), (2, .int p_1), (3, .int p_2)]) hx hb d_Rv_tell_46 hl (k := 0) rfl (by decide +kernel) (by decide) rfl (fun ls hl => ?_)
  refine lv_goto (tgt := 22) hx hb d_Rv_tell_49 (by decide) ?_
  refine lv_iload hx hb d_Rv_tell_22 (lv_at hl 0 rfl) ?_
  refine lv_bipush (v := 12) hx hb d_Rv_tell_24 (by decide +kernel) ?_
  refine lv_icmp_ge (tgt := 52) hx hb d_Rv_tell_26 (by decide) (fun _ => ?_) (fun h => absurd (by decide +kernel) h)
  refine lv_aload_n hx hb d_Rv_tell_52 rfl (lv_at hl 2 rfl) ?_
  refine va_get (D := (dC, dI)) (ci := 1) (v := .ref (a 4)) (C := R_Rv) (T := F_Rv) (N := 6) hx hb htb i_Rv hown hK hP 0 rfl rfl 2 (by decide) (htb (.fieldLink R_Rv 19 "WaterMen$River" "rows" "[[I") tw_24) (fun _ h9 => h9) rfl d_Rv_tell_53 ?_
  refine lv_iload_n hx hb d_Rv_tell_56 rfl (lv_at hl 3 rfl) ?_
  refine lv_aload hx hb d_Rv_tell_57 (lv_at hl 1 rfl) ?_
  refine va_astA hx hb (over_moved (Vm.Alike.refl s.vm) hN.2.2) hK hP hD hS 2 1 3 2 rfl rfl rfl rfl (hb_in as_0 as_1 (by decide +kernel)) d_Rv_tell_59 (fun H locs hP hD hS => ?_)
  have hP : va_P (dC, dI) vwCl [((a 1), .inr (1, [.ref (a 2), .ref (a 3), .ref (a 4), .ref (a 5), .int 0, .int (-1)])), ((a 3), .inl ((k 3), 12, .inl (fun _ => 0))), ((a 4), .inl ((k 4), 500, .inr (.inr (.inr (.inr (va_up (fun _ => none) (p_0 : Int32).toNatClampNeg (some q_1))))))), (q_1, .inl (k_2, 12, .inl (fun _ => 0)))] H := hP
  have hD : va_D A [((a 1), .inr (1, [.ref (a 2), .ref (a 3), .ref (a 4), .ref (a 5), .int 0, .int (-1)])), ((a 3), .inl ((k 3), 12, .inl (fun _ => 0))), ((a 4), .inl ((k 4), 500, .inr (.inr (.inr (.inr (va_up (fun _ => none) (p_0 : Int32).toNatClampNeg (some q_1))))))), (q_1, .inl (k_2, 12, .inl (fun _ => 0)))] := hD
  refine lv_aload hx hb d_Rv_tell_60 (lv_at hl 1 rfl) ?_
  refine lv_iload_n hx hb d_Rv_tell_62 rfl (lv_at hl 4 rfl) ?_
  refine lv_iload_n hx hb d_Rv_tell_63 rfl (lv_at hl 5 rfl) ?_
  refine va_iast hx hb hK hP hD hS 3 2 rfl rfl (hb_in as_2 as_3 (by decide +kernel)) d_Rv_tell_64 (fun H locs hP hD hS => ?_)
  have hP : va_P (dC, dI) vwCl [((a 1), .inr (1, [.ref (a 2), .ref (a 3), .ref (a 4), .ref (a 5), .int 0, .int (-1)])), ((a 3), .inl ((k 3), 12, .inl (fun _ => 0))), ((a 4), .inl ((k 4), 500, .inr (.inr (.inr (.inr (va_up (fun _ => none) (p_0 : Int32).toNatClampNeg (some q_1))))))), (q_1, .inl (k_2, 12, .inl (upd (fun _ => 0) (p_1 : Int32).toNatClampNeg p_2)))] H := hP
  have hD : va_D A [((a 1), .inr (1, [.ref (a 2), .ref (a 3), .ref (a 4), .ref (a 5), .int 0, .int (-1)])), ((a 3), .inl ((k 3), 12, .inl (fun _ => 0))), ((a 4), .inl ((k 4), 500, .inr (.inr (.inr (.inr (va_up (fun _ => none) (p_0 : Int32).toNatClampNeg (some q_1))))))), (q_1, .inl (k_2, 12, .inl (upd (fun _ => 0) (p_1 : Int32).toNatClampNeg p_2)))] := hD
  refine W.widen (k := 1) (n := 12) (Nat.le_of_ble_eq_true rfl) (Nat.le_of_ble_eq_true rfl) ?_
  exact W.vret hx hb hr (fun t ht hW => ⟨⟨(), rfl, trivial, trivial⟩, by rw [hAe]; exact hS.F ht⟩) (by rw [hAe]; exact hS.2.2) d_Rv_tell_65
def f_WM_level (p_0 : Int32) (p_1 : Int32) (p_2 : Int32) : Int32 := if p_0 < 0 then ((-1)) else (if 500 ≤ p_0 then ((-1)) else (if p_1 < 0 then ((-1)) else (if 12 ≤ p_1 then ((-1)) else (if p_2 < (-90) then ((-1)) else (if 90 < p_2 then ((-1)) else (1))))))
set_option maxHeartbeats 4000000 in
set_option maxRecDepth 100000 in
theorem c_WM_level (l : Launch) (dC : Nat → ClassId) (dI : Nat → Nat → Nat) (a : Nat → Nat) (k : Nat → ClassId) (L : List Nat) (hL : L.length = 40) (sz : Nat) (p_0 : Int32) (p_1 : Int32) (p_2 : Int32)  : Met l y_WM_level (.code y_WM_level b_WM_level 4 (some .int) :: TB) ({ frames := 1, cells := 1, slots := 12, locals := 25 }) (va_Pc [.ref (a 0), .int p_0, .int p_1, .int p_2] (PC dC dI (XW a k L) (XT k) sz)) (va_Qi (fun r (_ : Unit) => r = f_WM_level p_0 p_1 p_2) (fun (_ : Unit) (_ : State) => True) (va_A (XW a k L) sz)) 1 12 (va_A (XW a k L) sz) := by
  refine Met.ofW (cc := b_WM_level) (maxL := 4) (ret := (some .int)) (by decide) rfl ?_
  intro p e s m args below meth c s₁ B hml hv
  obtain ⟨rfl, hsz, hP, hK, hD0, hN⟩ := hv
  have hx := B.exec
  have hb := B.bytes
  have hr := B.returns
  have hts := atoms_spec (ws := (.code y_WM_level b_WM_level 4 (some .int) :: TB)) B.pre
  have htb := fun w (h : w ∈ TB) => hts w (List.mem_cons_of_mem _ h)
  have hown : s.vm.findClass R_WM = some m.cls := findClass_of_methodNamed B.named
  have hlocks := B.notSynchronized
  have hl := lv_entry ([.ref (a 0), .int p_0, .int p_1, .int p_2]) (n := 4) (Nat.le_of_ble_eq_true rfl)
  rw [lg_entry_eq]
  generalize (lg_sl ([.ref (a 0), .int p_0, .int p_1, .int p_2]) ++ List.replicate (4 - (lg_sl ([.ref (a 0), .int p_0, .int p_1, .int p_2])).length) Slot.unset).toArray = ls at hl ⊢
  have hl : lv_has ls 4 [(0, .ref (a 0)), (1, .int p_0), (2, .int p_1), (3, .int p_2)] := hl
  subst hsz
  have hD := hD0.self (sz := s.heap.size)
  obtain ⟨A, hAe⟩ : ∃ A, va_A (XW a k L) s.heap.size = A := ⟨_, rfl⟩
  rw [hAe] at hD
  have hA : ∀ q : Nat, s.heap.size ≤ q → A q := fun q h => by rw [← hAe]; exact Or.inr h
  have hS : va_S A s.heap s.heap [] := va_S.rf
  have hP := hP
  refine lv_iload_n hx hb d_WM_level_0 rfl (lv_at hl 1 rfl) ?_
  refine vp_callSi (va_Run.run (va_runS (As := [.int p_0]) (rest := []) ⟨hx, hb, hml, hown, htb⟩ (c_WM_isDay l p_0) (cwS 1 htb (gd_S tw_16 tw_17 tw_15 tw_14) rfl rfl rfl (by decide +kernel) ⟨Nat.le_of_ble_eq_true rfl, Nat.le_of_ble_eq_true rfl⟩) ⟨fun _ _ _ _ h => h, fun U _ _ => ⟨rfl, trivial⟩⟩ rfl rfl hl.1 rfl (lv_room (Nat.le_of_ble_eq_true rfl)) d_WM_level_1 ⟨Nat.le_of_ble_eq_true rfl, Nat.le_of_ble_eq_true rfl⟩)) (fun r er => ?_)
  subst er
  by_cases c_1 : p_0 < 0
  · refine hb_ti 0 (by unfold f_WM_isDay; rw [if_pos c_1]) ?_
    refine lv_if_eq (tgt := 21) hx hb d_WM_level_4 (by decide) (fun _ => ?_) (fun h => absurd (by decide +kernel) h)
    refine lv_iconst (v := (-1)) hx hb d_WM_level_21 (by decide +kernel) ?_
    refine W.widen (k := 1) (n := 12) (Nat.le_of_ble_eq_true rfl) (Nat.le_of_ble_eq_true rfl) ?_
    exact W.iret (v := (-1)) hx hb hr (fun t ht hW => ⟨⟨(-1), (), rfl, (by unfold f_WM_level; rw [if_pos c_1]), trivial⟩, by rw [hAe]; exact hS.F ht⟩) (by rw [hAe]; exact hS.2.2) d_WM_level_22
  · by_cases c_2 : 500 ≤ p_0
    · refine hb_ti 0 (by unfold f_WM_isDay; rw [if_neg c_1, if_pos c_2]) ?_
      refine lv_if_eq (tgt := 21) hx hb d_WM_level_4 (by decide) (fun _ => ?_) (fun h => absurd (by decide +kernel) h)
      refine lv_iconst (v := (-1)) hx hb d_WM_level_21 (by decide +kernel) ?_
      refine W.widen (k := 1) (n := 12) (Nat.le_of_ble_eq_true rfl) (Nat.le_of_ble_eq_true rfl) ?_
      exact W.iret (v := (-1)) hx hb hr (fun t ht hW => ⟨⟨(-1), (), rfl, (by unfold f_WM_level; rw [if_neg c_1, if_pos c_2]), trivial⟩, by rw [hAe]; exact hS.F ht⟩) (by rw [hAe]; exact hS.2.2) d_WM_level_22
    · refine hb_ti 1 (by unfold f_WM_isDay; rw [if_neg c_1, if_neg c_2]) ?_
      refine lv_if_eq (tgt := 21) hx hb d_WM_level_4 (by decide) (fun h => absurd h (by decide +kernel)) (fun _ => ?_)
      refine lv_iload_n hx hb d_WM_level_7 rfl (lv_at hl 2 rfl) ?_
      refine vp_callSi (va_Run.run (va_runS (As := [.int p_1]) (rest := []) ⟨hx, hb, hml, hown, htb⟩ (c_WM_isHour l p_1) (cwS 1 htb (gd_S tw_19 tw_20 tw_15 tw_18) rfl rfl rfl (by decide +kernel) ⟨Nat.le_of_ble_eq_true rfl, Nat.le_of_ble_eq_true rfl⟩) ⟨fun _ _ _ _ h => h, fun U _ _ => ⟨rfl, trivial⟩⟩ rfl rfl hl.1 rfl (lv_room (Nat.le_of_ble_eq_true rfl)) d_WM_level_8 ⟨Nat.le_of_ble_eq_true rfl, Nat.le_of_ble_eq_true rfl⟩)) (fun r er => ?_)
      subst er
      by_cases c_3 : p_1 < 0
      · refine hb_ti 0 (by unfold f_WM_isHour; rw [if_pos c_3]) ?_
        refine lv_if_eq (tgt := 21) hx hb d_WM_level_11 (by decide) (fun _ => ?_) (fun h => absurd (by decide +kernel) h)
        refine lv_iconst (v := (-1)) hx hb d_WM_level_21 (by decide +kernel) ?_
        refine W.widen (k := 1) (n := 12) (Nat.le_of_ble_eq_true rfl) (Nat.le_of_ble_eq_true rfl) ?_
        exact W.iret (v := (-1)) hx hb hr (fun t ht hW => ⟨⟨(-1), (), rfl, (by unfold f_WM_level; rw [if_neg c_1, if_neg c_2, if_pos c_3]), trivial⟩, by rw [hAe]; exact hS.F ht⟩) (by rw [hAe]; exact hS.2.2) d_WM_level_22
      · by_cases c_4 : 12 ≤ p_1
        · refine hb_ti 0 (by unfold f_WM_isHour; rw [if_neg c_3, if_pos c_4]) ?_
          refine lv_if_eq (tgt := 21) hx hb d_WM_level_11 (by decide) (fun _ => ?_) (fun h => absurd (by decide +kernel) h)
          refine lv_iconst (v := (-1)) hx hb d_WM_level_21 (by decide +kernel) ?_
          refine W.widen (k := 1) (n := 12) (Nat.le_of_ble_eq_true rfl) (Nat.le_of_ble_eq_true rfl) ?_
          exact W.iret (v := (-1)) hx hb hr (fun t ht hW => ⟨⟨(-1), (), rfl, (by unfold f_WM_level; rw [if_neg c_1, if_neg c_2, if_neg c_3, if_pos c_4]), trivial⟩, by rw [hAe]; exact hS.F ht⟩) (by rw [hAe]; exact hS.2.2) d_WM_level_22
        · refine hb_ti 1 (by unfold f_WM_isHour; rw [if_neg c_3, if_neg c_4]) ?_
          refine lv_if_eq (tgt := 21) hx hb d_WM_level_11 (by decide) (fun h => absurd h (by decide +kernel)) (fun _ => ?_)
          refine lv_iload_n hx hb d_WM_level_14 rfl (lv_at hl 3 rfl) ?_
          refine vp_callSi (va_Run.run (va_runS (As := [.int p_2]) (rest := []) ⟨hx, hb, hml, hown, htb⟩ (c_WM_isLevel l p_2) (cwS 1 htb (gd_S tw_22 tw_23 tw_15 tw_21) rfl rfl rfl (by decide +kernel) ⟨Nat.le_of_ble_eq_true rfl, Nat.le_of_ble_eq_true rfl⟩) ⟨fun _ _ _ _ h => h, fun U _ _ => ⟨rfl, trivial⟩⟩ rfl rfl hl.1 rfl (lv_room (Nat.le_of_ble_eq_true rfl)) d_WM_level_15 ⟨Nat.le_of_ble_eq_true rfl, Nat.le_of_ble_eq_true rfl⟩)) (fun r er => ?_)
          subst er
          by_cases c_5 : p_2 < (-90)
          · refine hb_ti 0 (by unfold f_WM_isLevel; rw [if_pos c_5]) ?_
            refine lv_if_ne (tgt := 23) hx hb d_WM_level_18 (by decide) (fun h => absurd (by decide +kernel) h) (fun _ => ?_)
            refine lv_iconst (v := (-1)) hx hb d_WM_level_21 (by decide +kernel) ?_
            refine W.widen (k := 1) (n := 12) (Nat.le_of_ble_eq_true rfl) (Nat.le_of_ble_eq_true rfl) ?_
            exact W.iret (v := (-1)) hx hb hr (fun t ht hW => ⟨⟨(-1), (), rfl, (by unfold f_WM_level; rw [if_neg c_1, if_neg c_2, if_neg c_3, if_neg c_4, if_pos c_5]), trivial⟩, by rw [hAe]; exact hS.F ht⟩) (by rw [hAe]; exact hS.2.2) d_WM_level_22
          · by_cases c_6 : 90 < p_2
            · refine hb_ti 0 (by unfold f_WM_isLevel; rw [if_neg c_5, if_pos c_6]) ?_
              refine lv_if_ne (tgt := 23) hx hb d_WM_level_18 (by decide) (fun h => absurd (by decide +kernel) h) (fun _ => ?_)
              refine lv_iconst (v := (-1)) hx hb d_WM_level_21 (by decide +kernel) ?_
              refine W.widen (k := 1) (n := 12) (Nat.le_of_ble_eq_true rfl) (Nat.le_of_ble_eq_true rfl) ?_
              exact W.iret (v := (-1)) hx hb hr (fun t ht hW => ⟨⟨(-1), (), rfl, (by unfold f_WM_level; rw [if_neg c_1, if_neg c_2, if_neg c_3, if_neg c_4, if_neg c_5, if_pos c_6]), trivial⟩, by rw [hAe]; exact hS.F ht⟩) (by rw [hAe]; exact hS.2.2) d_WM_level_22
            · refine hb_ti 1 (by unfold f_WM_isLevel; rw [if_neg c_5, if_neg c_6]) ?_
              refine lv_if_ne (tgt := 23) hx hb d_WM_level_18 (by decide) (fun _ => ?_) (fun h => absurd h (by decide +kernel))
              refine lv_aload_n hx hb d_WM_level_23 rfl (lv_at hl 0 rfl) ?_
              refine va_get (D := (dC, dI)) (ci := 0) (v := .ref (a 1)) (C := R_WM) (T := F_WM) (N := 13) hx hb htb i_WM hown hK hP 0 rfl rfl 0 (by decide) (htb (.fieldLink R_WM 12 "WaterMen" "river" "LWaterMen$River;") tw_0) (fun _ h9 => h9) rfl d_WM_level_24 ?_
              refine lv_iload_n hx hb d_WM_level_27 rfl (lv_at hl 1 rfl) ?_
              refine lv_iload_n hx hb d_WM_level_28 rfl (lv_at hl 2 rfl) ?_
              refine lv_iload_n hx hb d_WM_level_29 rfl (lv_at hl 3 rfl) ?_
              have hFc := hb_free hD hS hA
              refine va_callv (va_runV (As := [.int p_0, .int p_1, .int p_2]) (rest := []) ⟨hx, hb, hml, hown, htb⟩ (c_Rv_tell l dC dI a k L hL _ p_0 p_1 p_2 c_1 c_2 c_3 c_4) (cwV 3 htb (gd_V tw_28 tw_29 tw_30 tw_3 tw_27) rfl rfl rfl (by decide +kernel) ⟨Nat.le_of_ble_eq_true rfl, Nat.le_of_ble_eq_true rfl⟩) ⟨pc_blind, va_recv hK hP (ci := 1) (q0 := 1) rfl rfl, pc_pre hP hK hD hN⟩ rfl rfl hl.1 rfl (lv_room (Nat.le_of_ble_eq_true rfl)) d_WM_level_30 ⟨Nat.le_of_ble_eq_true rfl, Nat.le_of_ble_eq_true rfl⟩) hS (fun q _ h => hFc q h) hFc (fun u t H1 locs ht hvm _ hB hz1 hk1 hS => ?_)
              refine lv_iconst (v := 1) hx hb d_WM_level_33 (by decide +kernel) ?_
              refine W.widen (k := 1) (n := 12) (Nat.le_of_ble_eq_true rfl) (Nat.le_of_ble_eq_true rfl) ?_
              exact W.iret (v := 1) hx hb hr (fun t ht hW => ⟨⟨1, (), rfl, (by unfold f_WM_level; rw [if_neg c_1, if_neg c_2, if_neg c_3, if_neg c_4, if_neg c_5, if_neg c_6]), trivial⟩, by rw [hAe]; exact hS.F ht⟩) (by rw [hAe]; exact hS.2.2) d_WM_level_34
def f_WM_table (p_0 : Int32) (p_1 : Int32) : Int32 := if p_0 < 0 then ((-1000)) else (if 12 ≤ p_0 then ((-1000)) else (if p_1 < (-90) then ((-1000)) else (if 90 < p_1 then ((-1000)) else (0))))
set_option maxHeartbeats 4000000 in
set_option maxRecDepth 100000 in
theorem c_WM_table (l : Launch) (dC : Nat → ClassId) (dI : Nat → Nat → Nat) (a : Nat → Nat) (k : Nat → ClassId) (L : List Nat) (hL : L.length = 40) (sz : Nat) (p_0 : Int32) (p_1 : Int32)  : Met l y_WM_table (.code y_WM_table b_WM_table 4 (some .int) :: TB) ({ frames := 1, cells := 0, slots := 0, locals := 20 }) (va_Pc [.ref (a 0), .int p_0, .int p_1] (PC dC dI (XW a k L) (XT k) sz)) (va_Qi (fun r (_ : Unit) => r = f_WM_table p_0 p_1) (fun (_ : Unit) (_ : State) => True) (va_A (XW a k L) sz)) 0 0 (va_A (XW a k L) sz) := by
  refine Met.ofW (cc := b_WM_table) (maxL := 4) (ret := (some .int)) (by decide) rfl ?_
  intro p e s m args below meth c s₁ B hml hv
  obtain ⟨rfl, hsz, hP, hK, hD0, hN⟩ := hv
  have hx := B.exec
  have hb := B.bytes
  have hr := B.returns
  have hts := atoms_spec (ws := (.code y_WM_table b_WM_table 4 (some .int) :: TB)) B.pre
  have htb := fun w (h : w ∈ TB) => hts w (List.mem_cons_of_mem _ h)
  have hown : s.vm.findClass R_WM = some m.cls := findClass_of_methodNamed B.named
  have hlocks := B.notSynchronized
  have hl := lv_entry ([.ref (a 0), .int p_0, .int p_1]) (n := 4) (Nat.le_of_ble_eq_true rfl)
  rw [lg_entry_eq]
  generalize (lg_sl ([.ref (a 0), .int p_0, .int p_1]) ++ List.replicate (4 - (lg_sl ([.ref (a 0), .int p_0, .int p_1])).length) Slot.unset).toArray = ls at hl ⊢
  have hl : lv_has ls 4 [(0, .ref (a 0)), (1, .int p_0), (2, .int p_1)] := hl
  subst hsz
  have hD := hD0.self (sz := s.heap.size)
  obtain ⟨A, hAe⟩ : ∃ A, va_A (XW a k L) s.heap.size = A := ⟨_, rfl⟩
  rw [hAe] at hD
  have hA : ∀ q : Nat, s.heap.size ≤ q → A q := fun q h => by rw [← hAe]; exact Or.inr h
  have hS : va_S A s.heap s.heap [] := va_S.rf
  have hP := hP
  refine lv_iload_n hx hb d_WM_table_0 rfl (lv_at hl 1 rfl) ?_
  refine vp_callSi (va_Run.run (va_runS (As := [.int p_0]) (rest := []) ⟨hx, hb, hml, hown, htb⟩ (c_WM_isHour l p_0) (cwS 1 htb (gd_S tw_19 tw_20 tw_15 tw_18) rfl rfl rfl (by decide +kernel) ⟨Nat.le_of_ble_eq_true rfl, Nat.le_of_ble_eq_true rfl⟩) ⟨fun _ _ _ _ h => h, fun U _ _ => ⟨rfl, trivial⟩⟩ rfl rfl hl.1 rfl (lv_room (Nat.le_of_ble_eq_true rfl)) d_WM_table_1 ⟨Nat.le_of_ble_eq_true rfl, Nat.le_of_ble_eq_true rfl⟩)) (fun r er => ?_)
  subst er
  by_cases c_1 : p_0 < 0
  · refine hb_ti 0 (by unfold f_WM_isHour; rw [if_pos c_1]) ?_
    refine lv_if_eq (tgt := 14) hx hb d_WM_table_4 (by decide) (fun _ => ?_) (fun h => absurd (by decide +kernel) h)
    refine lv_sipush (v := (-1000)) hx hb d_WM_table_14 (by decide +kernel) ?_
    refine W.widen (k := 0) (n := 0) (Nat.le_of_ble_eq_true rfl) (Nat.le_of_ble_eq_true rfl) ?_
    exact W.iret (v := (-1000)) hx hb hr (fun t ht hW => ⟨⟨(-1000), (), rfl, (by unfold f_WM_table; rw [if_pos c_1]), trivial⟩, by rw [hAe]; exact hS.F ht⟩) (by rw [hAe]; exact hS.2.2) d_WM_table_17
  · by_cases c_2 : 12 ≤ p_0
    · refine hb_ti 0 (by unfold f_WM_isHour; rw [if_neg c_1, if_pos c_2]) ?_
      refine lv_if_eq (tgt := 14) hx hb d_WM_table_4 (by decide) (fun _ => ?_) (fun h => absurd (by decide +kernel) h)
      refine lv_sipush (v := (-1000)) hx hb d_WM_table_14 (by decide +kernel) ?_
      refine W.widen (k := 0) (n := 0) (Nat.le_of_ble_eq_true rfl) (Nat.le_of_ble_eq_true rfl) ?_
      exact W.iret (v := (-1000)) hx hb hr (fun t ht hW => ⟨⟨(-1000), (), rfl, (by unfold f_WM_table; rw [if_neg c_1, if_pos c_2]), trivial⟩, by rw [hAe]; exact hS.F ht⟩) (by rw [hAe]; exact hS.2.2) d_WM_table_17
    · refine hb_ti 1 (by unfold f_WM_isHour; rw [if_neg c_1, if_neg c_2]) ?_
      refine lv_if_eq (tgt := 14) hx hb d_WM_table_4 (by decide) (fun h => absurd h (by decide +kernel)) (fun _ => ?_)
      refine lv_iload_n hx hb d_WM_table_7 rfl (lv_at hl 2 rfl) ?_
      refine vp_callSi (va_Run.run (va_runS (As := [.int p_1]) (rest := []) ⟨hx, hb, hml, hown, htb⟩ (c_WM_isLevel l p_1) (cwS 1 htb (gd_S tw_22 tw_23 tw_15 tw_21) rfl rfl rfl (by decide +kernel) ⟨Nat.le_of_ble_eq_true rfl, Nat.le_of_ble_eq_true rfl⟩) ⟨fun _ _ _ _ h => h, fun U _ _ => ⟨rfl, trivial⟩⟩ rfl rfl hl.1 rfl (lv_room (Nat.le_of_ble_eq_true rfl)) d_WM_table_8 ⟨Nat.le_of_ble_eq_true rfl, Nat.le_of_ble_eq_true rfl⟩)) (fun r er => ?_)
      subst er
      by_cases c_3 : p_1 < (-90)
      · refine hb_ti 0 (by unfold f_WM_isLevel; rw [if_pos c_3]) ?_
        refine lv_if_ne (tgt := 18) hx hb d_WM_table_11 (by decide) (fun h => absurd (by decide +kernel) h) (fun _ => ?_)
        refine lv_sipush (v := (-1000)) hx hb d_WM_table_14 (by decide +kernel) ?_
        refine W.widen (k := 0) (n := 0) (Nat.le_of_ble_eq_true rfl) (Nat.le_of_ble_eq_true rfl) ?_
        exact W.iret (v := (-1000)) hx hb hr (fun t ht hW => ⟨⟨(-1000), (), rfl, (by unfold f_WM_table; rw [if_neg c_1, if_neg c_2, if_pos c_3]), trivial⟩, by rw [hAe]; exact hS.F ht⟩) (by rw [hAe]; exact hS.2.2) d_WM_table_17
      · by_cases c_4 : 90 < p_1
        · refine hb_ti 0 (by unfold f_WM_isLevel; rw [if_neg c_3, if_pos c_4]) ?_
          refine lv_if_ne (tgt := 18) hx hb d_WM_table_11 (by decide) (fun h => absurd (by decide +kernel) h) (fun _ => ?_)
          refine lv_sipush (v := (-1000)) hx hb d_WM_table_14 (by decide +kernel) ?_
          refine W.widen (k := 0) (n := 0) (Nat.le_of_ble_eq_true rfl) (Nat.le_of_ble_eq_true rfl) ?_
          exact W.iret (v := (-1000)) hx hb hr (fun t ht hW => ⟨⟨(-1000), (), rfl, (by unfold f_WM_table; rw [if_neg c_1, if_neg c_2, if_neg c_3, if_pos c_4]), trivial⟩, by rw [hAe]; exact hS.F ht⟩) (by rw [hAe]; exact hS.2.2) d_WM_table_17
        · refine hb_ti 1 (by unfold f_WM_isLevel; rw [if_neg c_3, if_neg c_4]) ?_
          refine lv_if_ne (tgt := 18) hx hb d_WM_table_11 (by decide) (fun _ => ?_) (fun h => absurd h (by decide +kernel))
          refine lv_aload_n hx hb d_WM_table_18 rfl (lv_at hl 0 rfl) ?_
          refine va_get (D := (dC, dI)) (ci := 0) (v := .ref (a 1)) (C := R_WM) (T := F_WM) (N := 13) hx hb htb i_WM hown hK hP 0 rfl rfl 0 (by decide) (htb (.fieldLink R_WM 12 "WaterMen" "river" "LWaterMen$River;") tw_0) (fun _ h9 => h9) rfl d_WM_table_19 ?_
          refine va_get (D := (dC, dI)) (ci := 1) (v := .ref (a 3)) (C := R_Rv) (T := F_Rv) (N := 6) hx hb htb i_Rv hown hK hP 1 rfl rfl 1 (by decide) (htb (.fieldLink R_WM 89 "WaterMen$River" "table" "[I") tw_31) (fun _ h9 => h9) rfl d_WM_table_22 ?_
          refine lv_iload_n hx hb d_WM_table_25 rfl (lv_at hl 1 rfl) ?_
          refine va_iald hx hb hK hP 3 1 rfl rfl (hb_in c_1 c_2 (by decide +kernel)) d_WM_table_26 ?_
          refine hb_ti 0 rfl ?_
          refine lv_istore_n (lv' := [(3, .int 0), (0, .ref (a 0)), (1, .int p_0), (2, .int p_1)]) hx hb d_WM_table_27 rfl hl (by decide) rfl (fun ls hl => ?_)
          refine lv_aload_n hx hb d_WM_table_28 rfl (lv_at hl 1 rfl) ?_
          refine va_get (D := (dC, dI)) (ci := 0) (v := .ref (a 1)) (C := R_WM) (T := F_WM) (N := 13) hx hb htb i_WM hown hK hP 0 rfl rfl 0 (by decide) (htb (.fieldLink R_WM 12 "WaterMen" "river" "LWaterMen$River;") tw_0) (fun _ h9 => h9) rfl d_WM_table_29 ?_
          refine va_get (D := (dC, dI)) (ci := 1) (v := .ref (a 3)) (C := R_Rv) (T := F_Rv) (N := 6) hx hb htb i_Rv hown hK hP 1 rfl rfl 1 (by decide) (htb (.fieldLink R_WM 89 "WaterMen$River" "table" "[I") tw_31) (fun _ h9 => h9) rfl d_WM_table_32 ?_
          refine lv_iload_n hx hb d_WM_table_35 rfl (lv_at hl 2 rfl) ?_
          refine lv_iload_n hx hb d_WM_table_36 rfl (lv_at hl 3 rfl) ?_
          refine va_iast hx hb hK hP hD hS 3 1 rfl rfl (hb_in c_1 c_2 (by decide +kernel)) d_WM_table_37 (fun H locs hP hD hS => ?_)
          refine lv_iload_n hx hb d_WM_table_38 rfl (lv_at hl 0 rfl) ?_
          refine W.widen (k := 0) (n := 0) (Nat.le_of_ble_eq_true rfl) (Nat.le_of_ble_eq_true rfl) ?_
          exact W.iret (v := 0) hx hb hr (fun t ht hW => ⟨⟨0, (), rfl, (by unfold f_WM_table; rw [if_neg c_1, if_neg c_2, if_neg c_3, if_neg c_4]), trivial⟩, by rw [hAe]; exact hS.F ht⟩) (by rw [hAe]; exact hS.2.2) d_WM_table_39
def f_Rv_height (p_0 : Int32) (p_1 : Int32) : Int32 := if 500 ≤ p_0 then (0) else (0)
set_option maxHeartbeats 4000000 in
set_option maxRecDepth 100000 in
theorem c_Rv_height (l : Launch) (dC : Nat → ClassId) (dI : Nat → Nat → Nat) (a : Nat → Nat) (k : Nat → ClassId) (L : List Nat) (hL : L.length = 40)  (p_0 : Int32) (p_1 : Int32) (as_0 : ¬ (p_0 < 0)) (as_1 : ¬ (500 < p_0)) (as_2 : ¬ (p_1 < 0)) (as_3 : ¬ (12 ≤ p_1)) : Met l y_Rv_height (.code y_Rv_height b_Rv_height 4 (some .int) :: TB) ({ frames := 0, cells := 0, slots := 0, locals := 0 }) (va_Pc [.ref (a 1), .int p_0, .int p_1] (PR dC dI (XW a k L) (XT k))) (vp_Si (fun r => r = f_Rv_height p_0 p_1)) 0 0 (fun _ => False) := by
  refine Met.ofW (cc := b_Rv_height) (maxL := 4) (ret := (some .int)) (by decide) rfl ?_
  intro p e s m args below meth c s₁ B hml hv
  obtain ⟨rfl, hP, hK, hN⟩ := hv
  have hx := B.exec
  have hb := B.bytes
  have hr := B.returns
  have hts := atoms_spec (ws := (.code y_Rv_height b_Rv_height 4 (some .int) :: TB)) B.pre
  have htb := fun w (h : w ∈ TB) => hts w (List.mem_cons_of_mem _ h)
  have hown : s.vm.findClass R_Rv = some m.cls := findClass_of_methodNamed B.named
  have hlocks := B.notSynchronized
  have hl := lv_entry ([.ref (a 1), .int p_0, .int p_1]) (n := 4) (Nat.le_of_ble_eq_true rfl)
  rw [lg_entry_eq]
  generalize (lg_sl ([.ref (a 1), .int p_0, .int p_1]) ++ List.replicate (4 - (lg_sl ([.ref (a 1), .int p_0, .int p_1])).length) Slot.unset).toArray = ls at hl ⊢
  have hl : lv_has ls 4 [(0, .ref (a 1)), (1, .int p_0), (2, .int p_1)] := hl
  refine lv_iload_n hx hb d_Rv_height_0 rfl (lv_at hl 1 rfl) ?_
  refine lv_sipush (v := 500) hx hb d_Rv_height_1 (by decide +kernel) ?_
  refine lv_icmp_ge (tgt := 16) hx hb d_Rv_height_4 (by decide) (fun c_1 => ?_) (fun c_1 => ?_)
  · refine lv_null hx hb d_Rv_height_16 ?_
    refine lv_astore_nN (lv' := [(3, .null), (0, .ref (a 1)), (1, .int p_0), (2, .int p_1)]) hx hb d_Rv_height_17 rfl hl (by decide) rfl (fun ls hl => ?_)
    refine lv_aload_nN hx hb d_Rv_height_18 rfl (lv_at hl 0 rfl) ?_
    refine lv_ifnonnullN hx hb d_Rv_height_19 ?_
    refine lv_aload_n hx hb d_Rv_height_22 rfl (lv_at hl 1 rfl) ?_
    refine va_get (D := (dC, dI)) (ci := 1) (v := .ref (a 3)) (C := R_Rv) (T := F_Rv) (N := 6) hx hb htb i_Rv hown hK hP 1 rfl rfl 1 (by decide) (htb (.fieldLink R_Rv 15 "WaterMen$River" "table" "[I") tw_26) (fun _ h9 => h9) rfl d_Rv_height_23 ?_
    refine lv_iload_n hx hb d_Rv_height_26 rfl (lv_at hl 3 rfl) ?_
    refine lv_iload_n hx hb d_Rv_height_27 rfl (lv_at hl 2 rfl) ?_
    refine lv_iadd hx hb d_Rv_height_28 ?_
    refine lv_bipush (v := 12) hx hb d_Rv_height_29 (by decide +kernel) ?_
    refine lv_irem hx hb d_Rv_height_31 (by decide) ?_
    refine va_iald hx hb hK hP 3 1 rfl rfl (hb_rem12 as_2 (show ¬ (1000 < p_1) from by have e0 := as_2; rw [Int32.lt_iff_toInt_lt] at e0; have e1 := as_3; rw [Int32.le_iff_toInt_le] at e1; have z0 : (0 : Int32).toInt = 0 := (by decide +kernel); have z1 : (12 : Int32).toInt = 12 := (by decide +kernel); have z2 : (1000 : Int32).toInt = 1000 := (by decide +kernel); rw [Int32.lt_iff_toInt_lt]; omega) as_0 (show ¬ (1000 < p_0) from by have e0 := c_1; rw [Int32.le_iff_toInt_le] at e0; have e1 := as_1; rw [Int32.lt_iff_toInt_lt] at e1; have z0 : (500 : Int32).toInt = 500 := (by decide +kernel); have z1 : (1000 : Int32).toInt = 1000 := (by decide +kernel); rw [Int32.lt_iff_toInt_lt]; omega)) d_Rv_height_32 ?_
    refine hb_ti 0 rfl ?_
    refine lv_goto (tgt := 39) hx hb d_Rv_height_33 (by decide) ?_
    exact W.iret (v := 0) hx hb hr (fun t ht hW => ⟨0, rfl, (by unfold f_Rv_height; rw [if_pos c_1]), ht⟩) t_nil d_Rv_height_39
  · refine lv_aload_n hx hb d_Rv_height_7 rfl (lv_at hl 0 rfl) ?_
    refine va_get (D := (dC, dI)) (ci := 1) (v := .ref (a 4)) (C := R_Rv) (T := F_Rv) (N := 6) hx hb htb i_Rv hown hK hP 1 rfl rfl 2 (by decide) (htb (.fieldLink R_Rv 19 "WaterMen$River" "rows" "[[I") tw_24) (fun _ h9 => h9) rfl d_Rv_height_8 ?_
    refine lv_iload_n hx hb d_Rv_height_11 rfl (lv_at hl 1 rfl) ?_
    refine va_aldA hx hb hK hP 4 2 rfl rfl (hb_in as_0 c_1 (by decide +kernel)) d_Rv_height_12 ?_
    refine hb_tv .null rfl ?_
    refine lv_goto (tgt := 17) hx hb d_Rv_height_13 (by decide) ?_
    refine lv_astore_nN (lv' := [(3, .null), (0, .ref (a 1)), (1, .int p_0), (2, .int p_1)]) hx hb d_Rv_height_17 rfl hl (by decide) rfl (fun ls hl => ?_)
    refine lv_aload_nN hx hb d_Rv_height_18 rfl (lv_at hl 0 rfl) ?_
    refine lv_ifnonnullN hx hb d_Rv_height_19 ?_
    refine lv_aload_n hx hb d_Rv_height_22 rfl (lv_at hl 1 rfl) ?_
    refine va_get (D := (dC, dI)) (ci := 1) (v := .ref (a 3)) (C := R_Rv) (T := F_Rv) (N := 6) hx hb htb i_Rv hown hK hP 1 rfl rfl 1 (by decide) (htb (.fieldLink R_Rv 15 "WaterMen$River" "table" "[I") tw_26) (fun _ h9 => h9) rfl d_Rv_height_23 ?_
    refine lv_iload_n hx hb d_Rv_height_26 rfl (lv_at hl 3 rfl) ?_
    refine lv_iload_n hx hb d_Rv_height_27 rfl (lv_at hl 2 rfl) ?_
    refine lv_iadd hx hb d_Rv_height_28 ?_
    refine lv_bipush (v := 12) hx hb d_Rv_height_29 (by decide +kernel) ?_
    refine lv_irem hx hb d_Rv_height_31 (by decide) ?_
    refine va_iald hx hb hK hP 3 1 rfl rfl (hb_rem12 as_2 (show ¬ (1000 < p_1) from by have e0 := as_2; rw [Int32.lt_iff_toInt_lt] at e0; have e1 := as_3; rw [Int32.le_iff_toInt_le] at e1; have z0 : (0 : Int32).toInt = 0 := (by decide +kernel); have z1 : (12 : Int32).toInt = 12 := (by decide +kernel); have z2 : (1000 : Int32).toInt = 1000 := (by decide +kernel); rw [Int32.lt_iff_toInt_lt]; omega) as_0 (show ¬ (1000 < p_0) from by have e0 := as_0; rw [Int32.lt_iff_toInt_lt] at e0; have e1 := c_1; rw [Int32.le_iff_toInt_le] at e1; have z0 : (0 : Int32).toInt = 0 := (by decide +kernel); have z1 : (500 : Int32).toInt = 500 := (by decide +kernel); have z2 : (1000 : Int32).toInt = 1000 := (by decide +kernel); rw [Int32.lt_iff_toInt_lt]; omega)) d_Rv_height_32 ?_
    refine hb_ti 0 rfl ?_
    refine lv_goto (tgt := 39) hx hb d_Rv_height_33 (by decide) ?_
    exact W.iret (v := 0) hx hb hr (fun t ht hW => ⟨0, rfl, (by unfold f_Rv_height; rw [if_neg c_1]), ht⟩) t_nil d_Rv_height_39
def f_Rv_flowIn (p_0 : Int32) (p_1 : Int32) : Int32 := if p_1 = 11 then (if 500 ≤ (p_0 + 1) then (0) else (0)) else (0)
set_option maxHeartbeats 4000000 in
set_option maxRecDepth 100000 in
theorem c_Rv_flowIn (l : Launch) (dC : Nat → ClassId) (dI : Nat → Nat → Nat) (a : Nat → Nat) (k : Nat → ClassId) (L : List Nat) (hL : L.length = 40)  (p_0 : Int32) (p_1 : Int32) (as_0 : ¬ (p_0 < 0)) (as_1 : ¬ (500 ≤ p_0)) (as_2 : ¬ (p_1 < 0)) (as_3 : ¬ (12 ≤ p_1)) : Met l y_Rv_flowIn (.code y_Rv_flowIn b_Rv_flowIn 4 (some .int) :: TB) ({ frames := 1, cells := 0, slots := 0, locals := 23 }) (va_Pc [.ref (a 1), .int p_0, .int p_1] (PR dC dI (XW a k L) (XT k))) (vp_Si (fun r => r = f_Rv_flowIn p_0 p_1)) 0 0 (fun _ => False) := by
  refine Met.ofW (cc := b_Rv_flowIn) (maxL := 4) (ret := (some .int)) (by decide) rfl ?_
  intro p e s m args below meth c s₁ B hml hv
  obtain ⟨rfl, hP, hK, hN⟩ := hv
  have hx := B.exec
  have hb := B.bytes
  have hr := B.returns
  have hts := atoms_spec (ws := (.code y_Rv_flowIn b_Rv_flowIn 4 (some .int) :: TB)) B.pre
  have htb := fun w (h : w ∈ TB) => hts w (List.mem_cons_of_mem _ h)
  have hown : s.vm.findClass R_Rv = some m.cls := findClass_of_methodNamed B.named
  have hlocks := B.notSynchronized
  have hl := lv_entry ([.ref (a 1), .int p_0, .int p_1]) (n := 4) (Nat.le_of_ble_eq_true rfl)
  rw [lg_entry_eq]
  generalize (lg_sl ([.ref (a 1), .int p_0, .int p_1]) ++ List.replicate (4 - (lg_sl ([.ref (a 1), .int p_0, .int p_1])).length) Slot.unset).toArray = ls at hl ⊢
  have hl : lv_has ls 4 [(0, .ref (a 1)), (1, .int p_0), (2, .int p_1)] := hl
  refine lv_iload_n hx hb d_Rv_flowIn_0 rfl (lv_at hl 2 rfl) ?_
  refine lv_bipush (v := 11) hx hb d_Rv_flowIn_1 (by decide +kernel) ?_
  refine lv_icmp_ne (tgt := 17) hx hb d_Rv_flowIn_3 (by decide) (fun c_1 => ?_) (fun c_1 => ?_)
  · refine lv_aload_n hx hb d_Rv_flowIn_17 rfl (lv_at hl 0 rfl) ?_
    refine lv_iload_n hx hb d_Rv_flowIn_18 rfl (lv_at hl 1 rfl) ?_
    refine lv_iload_n hx hb d_Rv_flowIn_19 rfl (lv_at hl 2 rfl) ?_
    refine lv_iconst (v := 1) hx hb d_Rv_flowIn_20 (by decide +kernel) ?_
    refine lv_iadd hx hb d_Rv_flowIn_21 ?_
    refine vp_callSi (va_Run.run (va_runV (As := [.int p_0, .int (p_1 + 1)]) (rest := []) ⟨hx, hb, hml, hown, htb⟩ (c_Rv_height l dC dI a k L hL p_0 (p_1 + 1) as_0 (show ¬ (500 < p_0) from by have e0 := as_0; rw [Int32.lt_iff_toInt_lt] at e0; have e1 := as_1; rw [Int32.le_iff_toInt_le] at e1; have z0 : (0 : Int32).toInt = 0 := (by decide +kernel); have z1 : (500 : Int32).toInt = 500 := (by decide +kernel); rw [Int32.lt_iff_toInt_lt]; omega) (show ¬ ((p_1 + 1) < 0) from by have e0 := as_2; rw [Int32.lt_iff_toInt_lt] at e0; have e1 := as_3; rw [Int32.le_iff_toInt_le] at e1; have e2 := c_1; rw [← Int32.toInt_inj] at e2; have z0 : (0 : Int32).toInt = 0 := (by decide +kernel); have z1 : (1 : Int32).toInt = 1 := (by decide +kernel); have z2 : (11 : Int32).toInt = 11 := (by decide +kernel); have z3 : (12 : Int32).toInt = 12 := (by decide +kernel); have ss := fb_addI (x := p_1) (y := 1) (by omega) (by omega); rw [Int32.lt_iff_toInt_lt]; omega) (show ¬ (12 ≤ (p_1 + 1)) from by have e0 := as_2; rw [Int32.lt_iff_toInt_lt] at e0; have e1 := as_3; rw [Int32.le_iff_toInt_le] at e1; have e2 := c_1; rw [← Int32.toInt_inj] at e2; have z0 : (0 : Int32).toInt = 0 := (by decide +kernel); have z1 : (1 : Int32).toInt = 1 := (by decide +kernel); have z2 : (11 : Int32).toInt = 11 := (by decide +kernel); have z3 : (12 : Int32).toInt = 12 := (by decide +kernel); have ss := fb_addI (x := p_1) (y := 1) (by omega) (by omega); rw [Int32.le_iff_toInt_le]; omega)) (cwV 2 htb (gd_V tw_33 tw_34 tw_35 tw_3 tw_32) rfl rfl rfl (by decide +kernel) ⟨Nat.le_of_ble_eq_true rfl, Nat.le_of_ble_eq_true rfl⟩) ⟨pr_blind, va_recv hK hP (ci := 1) (q0 := 1) rfl rfl, pr_pre hP hK hN⟩ rfl rfl hl.1 rfl (lv_room (Nat.le_of_ble_eq_true rfl)) d_Rv_flowIn_22 ⟨Nat.le_of_ble_eq_true rfl, Nat.le_of_ble_eq_true rfl⟩)) (fun r er => ?_)
    subst er
    refine hb_ti 0 (by unfold f_Rv_height; rw [if_neg as_1]) ?_
    refine lv_istore_n (lv' := [(3, .int 0), (0, .ref (a 1)), (1, .int p_0), (2, .int p_1)]) hx hb d_Rv_flowIn_25 rfl hl (by decide) rfl (fun ls hl => ?_)
    refine lv_iload_n hx hb d_Rv_flowIn_26 rfl (lv_at hl 0 rfl) ?_
    refine lv_aload_n hx hb d_Rv_flowIn_27 rfl (lv_at hl 1 rfl) ?_
    refine lv_iload_n hx hb d_Rv_flowIn_28 rfl (lv_at hl 2 rfl) ?_
    refine lv_iload_n hx hb d_Rv_flowIn_29 rfl (lv_at hl 3 rfl) ?_
    refine vp_callSi (va_Run.run (va_runV (As := [.int p_0, .int p_1]) (rest := [.int 0]) ⟨hx, hb, hml, hown, htb⟩ (c_Rv_height l dC dI a k L hL p_0 p_1 as_0 (show ¬ (500 < p_0) from by have e0 := as_0; rw [Int32.lt_iff_toInt_lt] at e0; have e1 := as_1; rw [Int32.le_iff_toInt_le] at e1; have z0 : (0 : Int32).toInt = 0 := (by decide +kernel); have z1 : (500 : Int32).toInt = 500 := (by decide +kernel); rw [Int32.lt_iff_toInt_lt]; omega) as_2 as_3) (cwV 2 htb (gd_V tw_33 tw_34 tw_35 tw_3 tw_32) rfl rfl rfl (by decide +kernel) ⟨Nat.le_of_ble_eq_true rfl, Nat.le_of_ble_eq_true rfl⟩) ⟨pr_blind, va_recv hK hP (ci := 1) (q0 := 1) rfl rfl, pr_pre hP hK hN⟩ rfl rfl hl.1 rfl (lv_room (Nat.le_of_ble_eq_true rfl)) d_Rv_flowIn_30 ⟨Nat.le_of_ble_eq_true rfl, Nat.le_of_ble_eq_true rfl⟩)) (fun r er => ?_)
    subst er
    refine hb_ti 0 (by unfold f_Rv_height; rw [if_neg as_1]) ?_
    refine lv_isub hx hb d_Rv_flowIn_33 ?_
    refine hb_ti 0 (by decide +kernel) ?_
    exact W.iret (v := 0) hx hb hr (fun t ht hW => ⟨0, rfl, (by unfold f_Rv_flowIn; rw [if_neg c_1]), ht⟩) t_nil d_Rv_flowIn_34
  · refine lv_aload_n hx hb d_Rv_flowIn_6 rfl (lv_at hl 0 rfl) ?_
    refine lv_iload_n hx hb d_Rv_flowIn_7 rfl (lv_at hl 1 rfl) ?_
    refine lv_iconst (v := 1) hx hb d_Rv_flowIn_8 (by decide +kernel) ?_
    refine lv_iadd hx hb d_Rv_flowIn_9 ?_
    refine lv_iconst (v := 0) hx hb d_Rv_flowIn_10 (by decide +kernel) ?_
    refine vp_callSi (va_Run.run (va_runV (As := [.int (p_0 + 1), .int 0]) (rest := []) ⟨hx, hb, hml, hown, htb⟩ (c_Rv_height l dC dI a k L hL (p_0 + 1) 0 (show ¬ ((p_0 + 1) < 0) from by have e0 := as_0; rw [Int32.lt_iff_toInt_lt] at e0; have e1 := as_1; rw [Int32.le_iff_toInt_le] at e1; have z0 : (0 : Int32).toInt = 0 := (by decide +kernel); have z1 : (1 : Int32).toInt = 1 := (by decide +kernel); have z2 : (500 : Int32).toInt = 500 := (by decide +kernel); have ss := fb_addI (x := p_0) (y := 1) (by omega) (by omega); rw [Int32.lt_iff_toInt_lt]; omega) (show ¬ (500 < (p_0 + 1)) from by have e0 := as_0; rw [Int32.lt_iff_toInt_lt] at e0; have e1 := as_1; rw [Int32.le_iff_toInt_le] at e1; have z0 : (0 : Int32).toInt = 0 := (by decide +kernel); have z1 : (1 : Int32).toInt = 1 := (by decide +kernel); have z2 : (500 : Int32).toInt = 500 := (by decide +kernel); have ss := fb_addI (x := p_0) (y := 1) (by omega) (by omega); rw [Int32.lt_iff_toInt_lt]; omega) (by decide +kernel) (by decide +kernel)) (cwV 2 htb (gd_V tw_33 tw_34 tw_35 tw_3 tw_32) rfl rfl rfl (by decide +kernel) ⟨Nat.le_of_ble_eq_true rfl, Nat.le_of_ble_eq_true rfl⟩) ⟨pr_blind, va_recv hK hP (ci := 1) (q0 := 1) rfl rfl, pr_pre hP hK hN⟩ rfl rfl hl.1 rfl (lv_room (Nat.le_of_ble_eq_true rfl)) d_Rv_flowIn_11 ⟨Nat.le_of_ble_eq_true rfl, Nat.le_of_ble_eq_true rfl⟩)) (fun r er => ?_)
    subst er
    by_cases c_2 : 500 ≤ (p_0 + 1)
    · refine hb_ti 0 (by unfold f_Rv_height; rw [if_pos c_2]) ?_
      refine lv_goto (tgt := 25) hx hb d_Rv_flowIn_14 (by decide) ?_
      refine lv_istore_n (lv' := [(3, .int 0), (0, .ref (a 1)), (1, .int p_0), (2, .int p_1)]) hx hb d_Rv_flowIn_25 rfl hl (by decide) rfl (fun ls hl => ?_)
      refine lv_iload_n hx hb d_Rv_flowIn_26 rfl (lv_at hl 0 rfl) ?_
      refine lv_aload_n hx hb d_Rv_flowIn_27 rfl (lv_at hl 1 rfl) ?_
      refine lv_iload_n hx hb d_Rv_flowIn_28 rfl (lv_at hl 2 rfl) ?_
      refine lv_iload_n hx hb d_Rv_flowIn_29 rfl (lv_at hl 3 rfl) ?_
      refine vp_callSi (va_Run.run (va_runV (As := [.int p_0, .int p_1]) (rest := [.int 0]) ⟨hx, hb, hml, hown, htb⟩ (c_Rv_height l dC dI a k L hL p_0 p_1 as_0 (show ¬ (500 < p_0) from by have e0 := as_0; rw [Int32.lt_iff_toInt_lt] at e0; have e1 := as_1; rw [Int32.le_iff_toInt_le] at e1; have z0 : (0 : Int32).toInt = 0 := (by decide +kernel); have z1 : (500 : Int32).toInt = 500 := (by decide +kernel); rw [Int32.lt_iff_toInt_lt]; omega) as_2 as_3) (cwV 2 htb (gd_V tw_33 tw_34 tw_35 tw_3 tw_32) rfl rfl rfl (by decide +kernel) ⟨Nat.le_of_ble_eq_true rfl, Nat.le_of_ble_eq_true rfl⟩) ⟨pr_blind, va_recv hK hP (ci := 1) (q0 := 1) rfl rfl, pr_pre hP hK hN⟩ rfl rfl hl.1 rfl (lv_room (Nat.le_of_ble_eq_true rfl)) d_Rv_flowIn_30 ⟨Nat.le_of_ble_eq_true rfl, Nat.le_of_ble_eq_true rfl⟩)) (fun r er => ?_)
      subst er
      refine hb_ti 0 (by unfold f_Rv_height; rw [if_neg as_1]) ?_
      refine lv_isub hx hb d_Rv_flowIn_33 ?_
      refine hb_ti 0 (by decide +kernel) ?_
      exact W.iret (v := 0) hx hb hr (fun t ht hW => ⟨0, rfl, (by unfold f_Rv_flowIn; rw [if_pos c_1, if_pos c_2]), ht⟩) t_nil d_Rv_flowIn_34
    · refine hb_ti 0 (by unfold f_Rv_height; rw [if_neg c_2]) ?_
      refine lv_goto (tgt := 25) hx hb d_Rv_flowIn_14 (by decide) ?_
      refine lv_istore_n (lv' := [(3, .int 0), (0, .ref (a 1)), (1, .int p_0), (2, .int p_1)]) hx hb d_Rv_flowIn_25 rfl hl (by decide) rfl (fun ls hl => ?_)
      refine lv_iload_n hx hb d_Rv_flowIn_26 rfl (lv_at hl 0 rfl) ?_
      refine lv_aload_n hx hb d_Rv_flowIn_27 rfl (lv_at hl 1 rfl) ?_
      refine lv_iload_n hx hb d_Rv_flowIn_28 rfl (lv_at hl 2 rfl) ?_
      refine lv_iload_n hx hb d_Rv_flowIn_29 rfl (lv_at hl 3 rfl) ?_
      refine vp_callSi (va_Run.run (va_runV (As := [.int p_0, .int p_1]) (rest := [.int 0]) ⟨hx, hb, hml, hown, htb⟩ (c_Rv_height l dC dI a k L hL p_0 p_1 as_0 (show ¬ (500 < p_0) from by have e0 := as_0; rw [Int32.lt_iff_toInt_lt] at e0; have e1 := as_1; rw [Int32.le_iff_toInt_le] at e1; have z0 : (0 : Int32).toInt = 0 := (by decide +kernel); have z1 : (500 : Int32).toInt = 500 := (by decide +kernel); rw [Int32.lt_iff_toInt_lt]; omega) as_2 as_3) (cwV 2 htb (gd_V tw_33 tw_34 tw_35 tw_3 tw_32) rfl rfl rfl (by decide +kernel) ⟨Nat.le_of_ble_eq_true rfl, Nat.le_of_ble_eq_true rfl⟩) ⟨pr_blind, va_recv hK hP (ci := 1) (q0 := 1) rfl rfl, pr_pre hP hK hN⟩ rfl rfl hl.1 rfl (lv_room (Nat.le_of_ble_eq_true rfl)) d_Rv_flowIn_30 ⟨Nat.le_of_ble_eq_true rfl, Nat.le_of_ble_eq_true rfl⟩)) (fun r er => ?_)
      subst er
      refine hb_ti 0 (by unfold f_Rv_height; rw [if_neg as_1]) ?_
      refine lv_isub hx hb d_Rv_flowIn_33 ?_
      refine hb_ti 0 (by decide +kernel) ?_
      exact W.iret (v := 0) hx hb hr (fun t ht hW => ⟨0, rfl, (by unfold f_Rv_flowIn; rw [if_pos c_1, if_neg c_2]), ht⟩) t_nil d_Rv_flowIn_34
def f_WM_flow (p_0 : Int32) (p_1 : Int32) : Int32 := if p_0 < 0 then ((-1000)) else (if 500 ≤ p_0 then ((-1000)) else (if p_1 < 0 then ((-1000)) else (if 12 ≤ p_1 then ((-1000)) else (if p_1 = 11 then (if 500 ≤ (p_0 + 1) then (0) else (0)) else (0)))))
set_option maxHeartbeats 4000000 in
set_option maxRecDepth 100000 in
theorem c_WM_flow (l : Launch) (dC : Nat → ClassId) (dI : Nat → Nat → Nat) (a : Nat → Nat) (k : Nat → ClassId) (L : List Nat) (hL : L.length = 40)  (p_0 : Int32) (p_1 : Int32)  : Met l y_WM_flow (.code y_WM_flow b_WM_flow 3 (some .int) :: TB) ({ frames := 2, cells := 0, slots := 0, locals := 46 }) (va_Pc [.ref (a 0), .int p_0, .int p_1] (PR dC dI (XW a k L) (XT k))) (vp_Si (fun r => r = f_WM_flow p_0 p_1)) 0 0 (fun _ => False) := by
  refine Met.ofW (cc := b_WM_flow) (maxL := 3) (ret := (some .int)) (by decide) rfl ?_
  intro p e s m args below meth c s₁ B hml hv
  obtain ⟨rfl, hP, hK, hN⟩ := hv
  have hx := B.exec
  have hb := B.bytes
  have hr := B.returns
  have hts := atoms_spec (ws := (.code y_WM_flow b_WM_flow 3 (some .int) :: TB)) B.pre
  have htb := fun w (h : w ∈ TB) => hts w (List.mem_cons_of_mem _ h)
  have hown : s.vm.findClass R_WM = some m.cls := findClass_of_methodNamed B.named
  have hlocks := B.notSynchronized
  have hl := lv_entry ([.ref (a 0), .int p_0, .int p_1]) (n := 3) (Nat.le_of_ble_eq_true rfl)
  rw [lg_entry_eq]
  generalize (lg_sl ([.ref (a 0), .int p_0, .int p_1]) ++ List.replicate (3 - (lg_sl ([.ref (a 0), .int p_0, .int p_1])).length) Slot.unset).toArray = ls at hl ⊢
  have hl : lv_has ls 3 [(0, .ref (a 0)), (1, .int p_0), (2, .int p_1)] := hl
  refine lv_iload_n hx hb d_WM_flow_0 rfl (lv_at hl 1 rfl) ?_
  refine vp_callSi (va_Run.run (va_runS (As := [.int p_0]) (rest := []) ⟨hx, hb, hml, hown, htb⟩ (c_WM_isDay l p_0) (cwS 1 htb (gd_S tw_16 tw_17 tw_15 tw_14) rfl rfl rfl (by decide +kernel) ⟨Nat.le_of_ble_eq_true rfl, Nat.le_of_ble_eq_true rfl⟩) ⟨fun _ _ _ _ h => h, fun U _ _ => ⟨rfl, trivial⟩⟩ rfl rfl hl.1 rfl (lv_room (Nat.le_of_ble_eq_true rfl)) d_WM_flow_1 ⟨Nat.le_of_ble_eq_true rfl, Nat.le_of_ble_eq_true rfl⟩)) (fun r er => ?_)
  subst er
  by_cases c_1 : p_0 < 0
  · refine hb_ti 0 (by unfold f_WM_isDay; rw [if_pos c_1]) ?_
    refine lv_if_eq (tgt := 26) hx hb d_WM_flow_4 (by decide) (fun _ => ?_) (fun h => absurd (by decide +kernel) h)
    refine lv_sipush (v := (-1000)) hx hb d_WM_flow_26 (by decide +kernel) ?_
    exact W.iret (v := (-1000)) hx hb hr (fun t ht hW => ⟨(-1000), rfl, (by unfold f_WM_flow; rw [if_pos c_1]), ht⟩) t_nil d_WM_flow_29
  · by_cases c_2 : 500 ≤ p_0
    · refine hb_ti 0 (by unfold f_WM_isDay; rw [if_neg c_1, if_pos c_2]) ?_
      refine lv_if_eq (tgt := 26) hx hb d_WM_flow_4 (by decide) (fun _ => ?_) (fun h => absurd (by decide +kernel) h)
      refine lv_sipush (v := (-1000)) hx hb d_WM_flow_26 (by decide +kernel) ?_
      exact W.iret (v := (-1000)) hx hb hr (fun t ht hW => ⟨(-1000), rfl, (by unfold f_WM_flow; rw [if_neg c_1, if_pos c_2]), ht⟩) t_nil d_WM_flow_29
    · refine hb_ti 1 (by unfold f_WM_isDay; rw [if_neg c_1, if_neg c_2]) ?_
      refine lv_if_eq (tgt := 26) hx hb d_WM_flow_4 (by decide) (fun h => absurd h (by decide +kernel)) (fun _ => ?_)
      refine lv_iload_n hx hb d_WM_flow_7 rfl (lv_at hl 2 rfl) ?_
      refine vp_callSi (va_Run.run (va_runS (As := [.int p_1]) (rest := []) ⟨hx, hb, hml, hown, htb⟩ (c_WM_isHour l p_1) (cwS 1 htb (gd_S tw_19 tw_20 tw_15 tw_18) rfl rfl rfl (by decide +kernel) ⟨Nat.le_of_ble_eq_true rfl, Nat.le_of_ble_eq_true rfl⟩) ⟨fun _ _ _ _ h => h, fun U _ _ => ⟨rfl, trivial⟩⟩ rfl rfl hl.1 rfl (lv_room (Nat.le_of_ble_eq_true rfl)) d_WM_flow_8 ⟨Nat.le_of_ble_eq_true rfl, Nat.le_of_ble_eq_true rfl⟩)) (fun r er => ?_)
      subst er
      by_cases c_3 : p_1 < 0
      · refine hb_ti 0 (by unfold f_WM_isHour; rw [if_pos c_3]) ?_
        refine lv_if_eq (tgt := 26) hx hb d_WM_flow_11 (by decide) (fun _ => ?_) (fun h => absurd (by decide +kernel) h)
        refine lv_sipush (v := (-1000)) hx hb d_WM_flow_26 (by decide +kernel) ?_
        exact W.iret (v := (-1000)) hx hb hr (fun t ht hW => ⟨(-1000), rfl, (by unfold f_WM_flow; rw [if_neg c_1, if_neg c_2, if_pos c_3]), ht⟩) t_nil d_WM_flow_29
      · by_cases c_4 : 12 ≤ p_1
        · refine hb_ti 0 (by unfold f_WM_isHour; rw [if_neg c_3, if_pos c_4]) ?_
          refine lv_if_eq (tgt := 26) hx hb d_WM_flow_11 (by decide) (fun _ => ?_) (fun h => absurd (by decide +kernel) h)
          refine lv_sipush (v := (-1000)) hx hb d_WM_flow_26 (by decide +kernel) ?_
          exact W.iret (v := (-1000)) hx hb hr (fun t ht hW => ⟨(-1000), rfl, (by unfold f_WM_flow; rw [if_neg c_1, if_neg c_2, if_neg c_3, if_pos c_4]), ht⟩) t_nil d_WM_flow_29
        · refine hb_ti 1 (by unfold f_WM_isHour; rw [if_neg c_3, if_neg c_4]) ?_
          refine lv_if_eq (tgt := 26) hx hb d_WM_flow_11 (by decide) (fun h => absurd h (by decide +kernel)) (fun _ => ?_)
          refine lv_aload_n hx hb d_WM_flow_14 rfl (lv_at hl 0 rfl) ?_
          refine va_get (D := (dC, dI)) (ci := 0) (v := .ref (a 1)) (C := R_WM) (T := F_WM) (N := 13) hx hb htb i_WM hown hK hP 0 rfl rfl 0 (by decide) (htb (.fieldLink R_WM 12 "WaterMen" "river" "LWaterMen$River;") tw_0) (fun _ h9 => h9) rfl d_WM_flow_15 ?_
          refine lv_iload_n hx hb d_WM_flow_18 rfl (lv_at hl 1 rfl) ?_
          refine lv_iload_n hx hb d_WM_flow_19 rfl (lv_at hl 2 rfl) ?_
          refine vp_callSi (va_Run.run (va_runV (As := [.int p_0, .int p_1]) (rest := []) ⟨hx, hb, hml, hown, htb⟩ (c_Rv_flowIn l dC dI a k L hL p_0 p_1 c_1 c_2 c_3 c_4) (cwV 2 htb (gd_V tw_37 tw_38 tw_39 tw_3 tw_36) rfl rfl rfl (by decide +kernel) ⟨Nat.le_of_ble_eq_true rfl, Nat.le_of_ble_eq_true rfl⟩) ⟨pr_blind, va_recv hK hP (ci := 1) (q0 := 1) rfl rfl, pr_pre hP hK hN⟩ rfl rfl hl.1 rfl (lv_room (Nat.le_of_ble_eq_true rfl)) d_WM_flow_20 ⟨Nat.le_of_ble_eq_true rfl, Nat.le_of_ble_eq_true rfl⟩)) (fun r er => ?_)
          subst er
          by_cases c_5 : p_1 = 11
          · by_cases c_6 : 500 ≤ (p_0 + 1)
            · refine hb_ti 0 (by unfold f_Rv_flowIn; rw [if_pos c_5, if_pos c_6]) ?_
              refine lv_goto (tgt := 29) hx hb d_WM_flow_23 (by decide) ?_
              exact W.iret (v := 0) hx hb hr (fun t ht hW => ⟨0, rfl, (by unfold f_WM_flow; rw [if_neg c_1, if_neg c_2, if_neg c_3, if_neg c_4, if_pos c_5, if_pos c_6]), ht⟩) t_nil d_WM_flow_29
            · refine hb_ti 0 (by unfold f_Rv_flowIn; rw [if_pos c_5, if_neg c_6]) ?_
              refine lv_goto (tgt := 29) hx hb d_WM_flow_23 (by decide) ?_
              exact W.iret (v := 0) hx hb hr (fun t ht hW => ⟨0, rfl, (by unfold f_WM_flow; rw [if_neg c_1, if_neg c_2, if_neg c_3, if_neg c_4, if_pos c_5, if_neg c_6]), ht⟩) t_nil d_WM_flow_29
          · refine hb_ti 0 (by unfold f_Rv_flowIn; rw [if_neg c_5]) ?_
            refine lv_goto (tgt := 29) hx hb d_WM_flow_23 (by decide) ?_
            exact W.iret (v := 0) hx hb hr (fun t ht hW => ⟨0, rfl, (by unfold f_WM_flow; rw [if_neg c_1, if_neg c_2, if_neg c_3, if_neg c_4, if_neg c_5]), ht⟩) t_nil d_WM_flow_29
