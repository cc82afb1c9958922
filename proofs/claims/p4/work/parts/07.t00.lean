def f_WM_isDay  (p_0 : Int32) : Int32 := if p_0 < 0 then (0) else (if 500 ≤ p_0 then (0) else (1))
set_option maxHeartbeats 4000000 in
set_option maxRecDepth 100000 in
theorem c_WM_isDay (l : Launch)  (p_0 : Int32)  : Met l y_WM_isDay (.code y_WM_isDay b_WM_isDay 1 (some .boolean) :: TB) ({ frames := 0, cells := 0, slots := 0, locals := 0 }) (va_Pc [.int p_0] (fun _ => True)) (vp_Si (fun r => r = f_WM_isDay p_0)) 0 0 (fun _ => False) := by
  refine Met.ofW (cc := b_WM_isDay) (maxL := 1) (ret := (some .boolean)) (by decide) rfl ?_
  intro p e s m args below meth c s₁ B hml hv
  obtain ⟨rfl, -⟩ := hv
  have hx := B.exec
  have hb := B.bytes
  have hr := B.returns
  have hts := atoms_spec (ws := (.code y_WM_isDay b_WM_isDay 1 (some .boolean) :: TB)) B.pre
  have htb := fun w (h : w ∈ TB) => hts w (List.mem_cons_of_mem _ h)
  have hown : s.vm.findClass R_WM = some m.cls := findClass_of_methodNamed B.named
  have hlocks := B.notSynchronized
  have hl := lv_entry ([.int p_0]) (n := 1) (Nat.le_of_ble_eq_true rfl)
  rw [lg_entry_eq]
  generalize (lg_sl ([.int p_0]) ++ List.replicate (1 - (lg_sl ([.int p_0])).length) Slot.unset).toArray = ls at hl ⊢
  have hl : lv_has ls 1 [(0, .int p_0)] := hl
  refine lv_iload_n hx hb d_WM_isDay_0 rfl (lv_at hl 0 rfl) ?_
  refine lv_if_lt (tgt := 15) hx hb d_WM_isDay_1 (by decide) (fun c_1 => ?_) (fun c_1 => ?_)
  · refine lv_iconst (v := 0) hx hb d_WM_isDay_15 (by decide +kernel) ?_
    exact W.zret (v := 0) hx hb hr (by decide +kernel) (fun t ht hW => ⟨0, rfl, (by unfold f_WM_isDay; rw [if_pos c_1]), ht⟩) t_nil d_WM_isDay_16
  · refine lv_iload_n hx hb d_WM_isDay_4 rfl (lv_at hl 0 rfl) ?_
    refine lv_sipush (v := 500) hx hb d_WM_isDay_5 (by decide +kernel) ?_
    refine lv_icmp_ge (tgt := 15) hx hb d_WM_isDay_8 (by decide) (fun c_2 => ?_) (fun c_2 => ?_)
    · refine lv_iconst (v := 0) hx hb d_WM_isDay_15 (by decide +kernel) ?_
      exact W.zret (v := 0) hx hb hr (by decide +kernel) (fun t ht hW => ⟨0, rfl, (by unfold f_WM_isDay; rw [if_neg c_1, if_pos c_2]), ht⟩) t_nil d_WM_isDay_16
    · refine lv_iconst (v := 1) hx hb d_WM_isDay_11 (by decide +kernel) ?_
      refine lv_goto (tgt := 16) hx hb d_WM_isDay_12 (by decide) ?_
      exact W.zret (v := 1) hx hb hr (by decide +kernel) (fun t ht hW => ⟨1, rfl, (by unfold f_WM_isDay; rw [if_neg c_1, if_neg c_2]), ht⟩) t_nil d_WM_isDay_16
set_option maxHeartbeats 4000000 in
set_option maxRecDepth 100000 in
theorem c_Rv_isFrozen_t (l : Launch) (dC : Nat → ClassId) (dI : Nat → Nat → Nat) (ct : Nat → ClassId) (L : List Nat) (f : TF) (hO_0 : Ok L f) (q0 : Nat) (m0 : q0 ∈ L ∧ tk f q0 = 1) (p_0 : Int32)  : Met l y_Rv_isFrozen (.code y_Rv_isFrozen b_Rv_isFrozen 2 (some .boolean) :: TB) ({ frames := 1, cells := 0, slots := 0, locals := 20 }) (va_Pc [.ref q0, .int p_0] (PR dC dI (TW ct L f) (TT ct))) (vp_Si (fun r => (r = 0 ∧ True) ∨ (r = 1 ∧ True))) 0 0 (fun _ => False) := by
  refine Met.ofW (cc := b_Rv_isFrozen) (maxL := 2) (ret := (some .boolean)) (by decide) rfl ?_
  intro p e s m args below meth c s₁ B hml hv
  obtain ⟨rfl, hP, hK, hN⟩ := hv
  have hx := B.exec
  have hb := B.bytes
  have hr := B.returns
  have hts := atoms_spec (ws := (.code y_Rv_isFrozen b_Rv_isFrozen 2 (some .boolean) :: TB)) B.pre
  have htb := fun w (h : w ∈ TB) => hts w (List.mem_cons_of_mem _ h)
  have hown : s.vm.findClass R_Rv = some m.cls := findClass_of_methodNamed B.named
  have hlocks := B.notSynchronized
  have hl := lv_entry ([.ref q0, .int p_0]) (n := 2) (Nat.le_of_ble_eq_true rfl)
  rw [lg_entry_eq]
  generalize (lg_sl ([.ref q0, .int p_0]) ++ List.replicate (2 - (lg_sl ([.ref q0, .int p_0])).length) Slot.unset).toArray = ls at hl ⊢
  have hl : lv_has ls 2 [(0, .ref q0), (1, .int p_0)] := hl
  refine lv_iload_n hx hb d_Rv_isFrozen_0 rfl (lv_at hl 1 rfl) ?_
  refine vp_callSi (va_Run.run (va_runSN (As := [.int p_0]) (rest := []) ⟨hx, hb, hml, hown, htb⟩ (c_WM_isDay l p_0) ⟨va_cnB 1 htb (gd_I tw_0) rfl rfl rfl (hN.1 _ nw_5) (htb (.initialized R_WM) tw_1) (by decide +kernel) ⟨Nat.le_of_ble_eq_true rfl, Nat.le_of_ble_eq_true rfl⟩, (htb (.static y_WM_isDay) tw_2), trivial⟩ ⟨fun _ _ _ _ h => h, fun U _ _ => ⟨rfl, trivial⟩⟩ rfl rfl hl.1 rfl (lv_room (Nat.le_of_ble_eq_true rfl)) d_Rv_isFrozen_1 ⟨Nat.le_of_ble_eq_true rfl, Nat.le_of_ble_eq_true rfl⟩)) (fun r er => ?_)
  subst er
  by_cases c_2 : p_0 < 0
  · refine hb_ti 0 (by unfold f_WM_isDay; rw [if_pos c_2]; first | done | rfl) ?_
    refine lv_if_eq (tgt := 20) hx hb d_Rv_isFrozen_4 (by decide) (fun _ => ?_) (fun h => absurd (by decide +kernel) h)
    refine lv_iconst (v := 0) hx hb d_Rv_isFrozen_20 (by decide +kernel) ?_
    exact W.zret (v := 0) hx hb hr (by decide +kernel) (fun t ht hW => ⟨0, rfl, (Or.inl ⟨rfl, trivial⟩), ht⟩) t_nil d_Rv_isFrozen_21
  · by_cases c_3 : 500 ≤ p_0
    · refine hb_ti 0 (by unfold f_WM_isDay; rw [if_neg c_2, if_pos c_3]; first | done | rfl) ?_
      refine lv_if_eq (tgt := 20) hx hb d_Rv_isFrozen_4 (by decide) (fun _ => ?_) (fun h => absurd (by decide +kernel) h)
      refine lv_iconst (v := 0) hx hb d_Rv_isFrozen_20 (by decide +kernel) ?_
      exact W.zret (v := 0) hx hb hr (by decide +kernel) (fun t ht hW => ⟨0, rfl, (Or.inl ⟨rfl, trivial⟩), ht⟩) t_nil d_Rv_isFrozen_21
    · refine hb_ti 1 (by unfold f_WM_isDay; rw [if_neg c_2, if_neg c_3]; first | done | rfl) ?_
      refine lv_if_eq (tgt := 20) hx hb d_Rv_isFrozen_4 (by decide) (fun h => absurd h (by decide +kernel)) (fun _ => ?_)
      refine lv_aload_n hx hb d_Rv_isFrozen_7 rfl (lv_at hl 0 rfl) ?_
      refine tw_getr (D := (dC, dI)) (C := R_Rv) (T := F_Rv) (N := 6) (ci := 1) (kd := 1) (ct := ct) hx hb htb i_Rv hown hK hP hO_0 m0 rfl rfl 3 (by decide) (htb (.fieldLink R_Rv 23 "WaterMen$River" "frozen" "[Z") tw_3) (fun _ h9 => h9) rfl d_Rv_isFrozen_8 (fun q_4 e_4 m_4 => ?_)
      refine lv_iload_n hx hb d_Rv_isFrozen_11 rfl (lv_at hl 1 rfl) ?_
      refine tw_aldZ (ct := ct) hx hb hK hP hO_0 m_4 rfl (hb_in c_2 c_3 (by decide +kernel)) d_Rv_isFrozen_12 (fun x_5 e_5 b_5 => ?_)
      refine lv_if_eq (tgt := 20) hx hb d_Rv_isFrozen_13 (by decide) (fun c_6 => ?_) (fun c_6 => ?_)
      · refine lv_iconst (v := 0) hx hb d_Rv_isFrozen_20 (by decide +kernel) ?_
        exact W.zret (v := 0) hx hb hr (by decide +kernel) (fun t ht hW => ⟨0, rfl, (Or.inl ⟨rfl, trivial⟩), ht⟩) t_nil d_Rv_isFrozen_21
      · refine lv_iconst (v := 1) hx hb d_Rv_isFrozen_16 (by decide +kernel) ?_
        refine lv_goto (tgt := 21) hx hb d_Rv_isFrozen_17 (by decide) ?_
        exact W.zret (v := 1) hx hb hr (by decide +kernel) (fun t ht hW => ⟨1, rfl, (Or.inr ⟨rfl, trivial⟩), ht⟩) t_nil d_Rv_isFrozen_21
set_option maxHeartbeats 4000000 in
set_option maxRecDepth 100000 in
theorem c_Rv_hasStairs_t (l : Launch) (dC : Nat → ClassId) (dI : Nat → Nat → Nat) (ct : Nat → ClassId) (L : List Nat) (f : TF) (hO_0 : Ok L f) (q0 : Nat) (m0 : q0 ∈ L ∧ tk f q0 = 1) (p_0 : Int32)  : Met l y_Rv_hasStairs (.code y_Rv_hasStairs b_Rv_hasStairs 2 (some .boolean) :: TB) ({ frames := 0, cells := 0, slots := 0, locals := 0 }) (va_Pc [.ref q0, .int p_0] (PR dC dI (TW ct L f) (TT ct))) (vp_Si (fun r => (r = 0 ∧ True) ∨ (r = 1 ∧ ¬ (p_0 < 0) ∧ ¬ (11 < p_0) ∧ True))) 0 0 (fun _ => False) := by
  refine Met.ofW (cc := b_Rv_hasStairs) (maxL := 2) (ret := (some .boolean)) (by decide) rfl ?_
  intro p e s m args below meth c s₁ B hml hv
  obtain ⟨rfl, hP, hK, hN⟩ := hv
  have hx := B.exec
  have hb := B.bytes
  have hr := B.returns
  have hts := atoms_spec (ws := (.code y_Rv_hasStairs b_Rv_hasStairs 2 (some .boolean) :: TB)) B.pre
  have htb := fun w (h : w ∈ TB) => hts w (List.mem_cons_of_mem _ h)
  have hown : s.vm.findClass R_Rv = some m.cls := findClass_of_methodNamed B.named
  have hlocks := B.notSynchronized
  have hl := lv_entry ([.ref q0, .int p_0]) (n := 2) (Nat.le_of_ble_eq_true rfl)
  rw [lg_entry_eq]
  generalize (lg_sl ([.ref q0, .int p_0]) ++ List.replicate (2 - (lg_sl ([.ref q0, .int p_0])).length) Slot.unset).toArray = ls at hl ⊢
  have hl : lv_has ls 2 [(0, .ref q0), (1, .int p_0)] := hl
  refine lv_iload_n hx hb d_Rv_hasStairs_0 rfl (lv_at hl 1 rfl) ?_
  refine lv_if_lt (tgt := 16) hx hb d_Rv_hasStairs_1 (by decide) (fun c_1 => ?_) (fun c_1 => ?_)
  · refine lv_iconst (v := 0) hx hb d_Rv_hasStairs_16 (by decide +kernel) ?_
    exact W.zret (v := 0) hx hb hr (by decide +kernel) (fun t ht hW => ⟨0, rfl, (Or.inl ⟨rfl, trivial⟩), ht⟩) t_nil d_Rv_hasStairs_17
  · refine lv_iload_n hx hb d_Rv_hasStairs_4 rfl (lv_at hl 1 rfl) ?_
    refine lv_aload_n hx hb d_Rv_hasStairs_5 rfl (lv_at hl 0 rfl) ?_
    refine tw_geti (D := (dC, dI)) (C := R_Rv) (T := F_Rv) (N := 6) (ci := 1) (kd := 1) (ct := ct) hx hb htb i_Rv hown hK hP hO_0 m0 rfl rfl 4 (by decide) (htb (.fieldLink R_Rv 35 "WaterMen$River" "stairCount" "I") tw_4) (fun _ h9 => h9) rfl d_Rv_hasStairs_6 (fun x_2 e_2 b_2 => ?_)
    refine lv_icmp_ge (tgt := 16) hx hb d_Rv_hasStairs_9 (by decide) (fun c_3 => ?_) (fun c_3 => ?_)
    · refine lv_iconst (v := 0) hx hb d_Rv_hasStairs_16 (by decide +kernel) ?_
      exact W.zret (v := 0) hx hb hr (by decide +kernel) (fun t ht hW => ⟨0, rfl, (Or.inl ⟨rfl, trivial⟩), ht⟩) t_nil d_Rv_hasStairs_17
    · refine lv_iconst (v := 1) hx hb d_Rv_hasStairs_12 (by decide +kernel) ?_
      refine lv_goto (tgt := 17) hx hb d_Rv_hasStairs_13 (by decide) ?_
      exact W.zret (v := 1) hx hb hr (by decide +kernel) (fun t ht hW => ⟨1, rfl, (Or.inr ⟨rfl, c_1, (show ¬ (11 < p_0) from by have z0 : (0 : Int32).toInt = 0 := (by decide +kernel); have z1 : (11 : Int32).toInt = 11 := (by decide +kernel); have z2 : (12 : Int32).toInt = 12 := (by decide +kernel); have r0 := fb_rng (p_0); have r1 := fb_rng (x_2); have e0 := c_1; rw [Int32.lt_iff_toInt_lt] at e0; have e1 := c_3; rw [Int32.le_iff_toInt_le] at e1; have e2 := b_2.1; rw [Int32.lt_iff_toInt_lt] at e2; have e3 := b_2.2; rw [Int32.lt_iff_toInt_lt] at e3; rw [Int32.lt_iff_toInt_lt]; omega), trivial⟩), ht⟩) t_nil d_Rv_hasStairs_17
set_option maxHeartbeats 4000000 in
set_option maxRecDepth 100000 in
theorem c_Rv_highest_t (l : Launch) (dC : Nat → ClassId) (dI : Nat → Nat → Nat) (ct : Nat → ClassId) (L : List Nat) (f : TF) (hO_0 : Ok L f) (q0 : Nat) (m0 : q0 ∈ L ∧ tk f q0 = 1)   : Met l y_Rv_highest (.code y_Rv_highest b_Rv_highest 1 (some .int) :: TB) ({ frames := 0, cells := 0, slots := 0, locals := 0 }) (va_Pc [.ref q0] (PR dC dI (TW ct L f) (TT ct))) (vp_Si (fun r => True)) 0 0 (fun _ => False) := by
  refine Met.ofW (cc := b_Rv_highest) (maxL := 1) (ret := (some .int)) (by decide) rfl ?_
  intro p e s m args below meth c s₁ B hml hv
  obtain ⟨rfl, hP, hK, hN⟩ := hv
  have hx := B.exec
  have hb := B.bytes
  have hr := B.returns
  have hts := atoms_spec (ws := (.code y_Rv_highest b_Rv_highest 1 (some .int) :: TB)) B.pre
  have htb := fun w (h : w ∈ TB) => hts w (List.mem_cons_of_mem _ h)
  have hown : s.vm.findClass R_Rv = some m.cls := findClass_of_methodNamed B.named
  have hlocks := B.notSynchronized
  have hl := lv_entry ([.ref q0]) (n := 1) (Nat.le_of_ble_eq_true rfl)
  rw [lg_entry_eq]
  generalize (lg_sl ([.ref q0]) ++ List.replicate (1 - (lg_sl ([.ref q0])).length) Slot.unset).toArray = ls at hl ⊢
  have hl : lv_has ls 1 [(0, .ref q0)] := hl
  refine lv_aload_n hx hb d_Rv_highest_0 rfl (lv_at hl 0 rfl) ?_
  refine tw_geti (D := (dC, dI)) (C := R_Rv) (T := F_Rv) (N := 6) (ci := 1) (kd := 1) (ct := ct) hx hb htb i_Rv hown hK hP hO_0 m0 rfl rfl 4 (by decide) (htb (.fieldLink R_Rv 35 "WaterMen$River" "stairCount" "I") tw_4) (fun _ h9 => h9) rfl d_Rv_highest_1 (fun x_1 e_1 b_1 => ?_)
  refine lv_if_ne (tgt := 11) hx hb d_Rv_highest_4 (by decide) (fun c_2 => ?_) (fun c_2 => ?_)
  · refine lv_aload_n hx hb d_Rv_highest_11 rfl (lv_at hl 0 rfl) ?_
    refine tw_getr (D := (dC, dI)) (C := R_Rv) (T := F_Rv) (N := 6) (ci := 1) (kd := 1) (ct := ct) hx hb htb i_Rv hown hK hP hO_0 m0 rfl rfl 0 (by decide) (htb (.fieldLink R_Rv 9 "WaterMen$River" "milesUp" "[I") tw_5) (fun _ h9 => h9) rfl d_Rv_highest_12 (fun q_3 e_3 m_3 => ?_)
    refine lv_aload_n hx hb d_Rv_highest_15 rfl (lv_at hl 0 rfl) ?_
    refine tw_getI (x := x_1) (D := (dC, dI)) (C := R_Rv) (T := F_Rv) (N := 6) (ci := 1) (kd := 1) (ct := ct) hx hb htb i_Rv hown hK hP m0 rfl rfl 4 e_1 (by decide) (htb (.fieldLink R_Rv 35 "WaterMen$River" "stairCount" "I") tw_4) (fun _ h9 => h9) rfl d_Rv_highest_16 ?_
    refine lv_iconst (v := 1) hx hb d_Rv_highest_19 (by decide +kernel) ?_
    refine lv_isub hx hb d_Rv_highest_20 ?_
    refine tw_aldI (ct := ct) hx hb hK hP hO_0 m_3 rfl (by have z0 : (0 : Int32).toInt = 0 := (by decide +kernel); have z1 : (1 : Int32).toInt = 1 := (by decide +kernel); have z2 : (12 : Int32).toInt = 12 := (by decide +kernel); have r0 := fb_rng (x_1); have e0 := b_1.1; rw [Int32.lt_iff_toInt_lt] at e0; have e1 := b_1.2; rw [Int32.lt_iff_toInt_lt] at e1; have e2 := c_2; rw [← Int32.toInt_inj] at e2; have s0 := fb_subI (x := (x_1)) (y := (1 : Int32)) (by omega) (by omega); rw [vp_in_iff]; omega) d_Rv_highest_21 (fun x_4 e_4 b_4 => ?_)
    exact W.iret (v := x_4) hx hb hr (fun t ht hW => ⟨x_4, rfl, trivial, ht⟩) t_nil d_Rv_highest_22
  · refine lv_iconst (v := (-1)) hx hb d_Rv_highest_7 (by decide +kernel) ?_
    refine lv_goto (tgt := 22) hx hb d_Rv_highest_8 (by decide) ?_
    exact W.iret (v := (-1)) hx hb hr (fun t ht hW => ⟨(-1), rfl, trivial, ht⟩) t_nil d_Rv_highest_22
def W_Rv_addStairs_t : List (Nat × Nat) := [(1, 4), (2, 1000)]
set_option maxHeartbeats 4000000 in
set_option maxRecDepth 100000 in
theorem c_Rv_addStairs_t (l : Launch) (dC : Nat → ClassId) (dI : Nat → Nat → Nat) (ct : Nat → ClassId) (L : List Nat) (f : TF) (hO_0 : Ok L f) (q0 : Nat) (m0 : q0 ∈ L ∧ tk f q0 = 1) (sz : Nat) (p_0 : Int32) (as_0 : ¬ (11 < (ti f q0 4))) : Met l y_Rv_addStairs (.code y_Rv_addStairs b_Rv_addStairs 2 (some .int) :: TB) ({ frames := 0, cells := 0, slots := 0, locals := 0 }) (va_Pc [.ref q0, .int p_0] (PC dC dI (TW ct L f) (TT ct) sz)) (va_Qi (fun r (u : TSt) => Ok u.1 u.2 ∧ Ext W_Rv_addStairs_t L f u.1 u.2 ∧ (True)) (fun (u : TSt) t => va_P (dC, dI) vwCl (TW ct u.1 u.2) t.heap ∧ va_K (dC, dI) vwCl (TT ct) t ∧ va_D (va_A (TW ct L f) sz) (TW ct u.1 u.2)) (va_A (TW ct L f) sz)) 0 0 (va_A (TW ct L f) sz) := by
  refine Met.ofW (cc := b_Rv_addStairs) (maxL := 2) (ret := (some .int)) (by decide) rfl ?_
  intro p e s m args below meth c s₁ B hml hv
  obtain ⟨rfl, hsz, hP, hK, hD0, hN⟩ := hv
  have hx := B.exec
  have hb := B.bytes
  have hr := B.returns
  have hts := atoms_spec (ws := (.code y_Rv_addStairs b_Rv_addStairs 2 (some .int) :: TB)) B.pre
  have htb := fun w (h : w ∈ TB) => hts w (List.mem_cons_of_mem _ h)
  have hown : s.vm.findClass R_Rv = some m.cls := findClass_of_methodNamed B.named
  have hlocks := B.notSynchronized
  have hl := lv_entry ([.ref q0, .int p_0]) (n := 2) (Nat.le_of_ble_eq_true rfl)
  rw [lg_entry_eq]
  generalize (lg_sl ([.ref q0, .int p_0]) ++ List.replicate (2 - (lg_sl ([.ref q0, .int p_0])).length) Slot.unset).toArray = ls at hl ⊢
  have hl : lv_has ls 2 [(0, .ref q0), (1, .int p_0)] := hl
  subst hsz
  have hD := hD0.self (sz := s.heap.size)
  obtain ⟨A, hAe⟩ : ∃ A, va_A (TW ct L f) s.heap.size = A := ⟨_, rfl⟩
  rw [hAe] at hD
  have hA : ∀ q : Nat, s.heap.size ≤ q → A q := fun q h => by rw [← hAe]; exact Or.inr h
  have hS : va_S A s.heap s.heap [] := va_S.rf
  have hA_0 : Ext [] L f L f := Ext.rf
  suffices hGo : ∀ (H : Heap) (locs : List Loc), va_P (dC, dI) vwCl (TW ct L f) H → va_S A s.heap H locs → W p l e (headSpec (.code y_Rv_addStairs b_Rv_addStairs 2 (some .int) :: TB) ({ frames := 0, cells := 0, slots := 0, locals := 0 })).room s m [.ref q0, .int p_0].toArray below meth c H locs 0 0 (MQ below (va_Qi (fun r (u : TSt) => Ok u.1 u.2 ∧ Ext W_Rv_addStairs_t L f u.1 u.2 ∧ (True)) (fun (u : TSt) t => va_P (dC, dI) vwCl (TW ct u.1 u.2) t.heap ∧ va_K (dC, dI) vwCl (TT ct) t ∧ va_D (va_A (TW ct L f) s.heap.size) (TW ct u.1 u.2)) (va_A (TW ct L f) s.heap.size)) [.ref q0, .int p_0].toArray s 0 0 (va_A (TW ct L f) s.heap.size)) (F0 m 0 ls []) from hGo _ _ hP hS
  clear hP hS
  intro H locs hP hS
  have bp_4 := hO_0.i m0 (show slotD 1 4 = some (.inl (0, 12)) from rfl)
  refine lv_aload_n hx hb d_Rv_addStairs_0 rfl (lv_at hl 0 rfl) ?_
  refine tw_getr (D := (dC, dI)) (C := R_Rv) (T := F_Rv) (N := 6) (ci := 1) (kd := 1) (ct := ct) hx hb htb i_Rv hown hK hP hO_0 m0 rfl rfl 0 (by decide) (htb (.fieldLink R_Rv 9 "WaterMen$River" "milesUp" "[I") tw_5) (fun _ h9 => h9) rfl d_Rv_addStairs_1 (fun q_1 e_1 m_1 => ?_)
  refine lv_aload_n hx hb d_Rv_addStairs_4 rfl (lv_at hl 0 rfl) ?_
  refine tw_getI (x := (ti f q0 4)) (D := (dC, dI)) (C := R_Rv) (T := F_Rv) (N := 6) (ci := 1) (kd := 1) (ct := ct) hx hb htb i_Rv hown hK hP m0 rfl rfl 4 rfl (by decide) (htb (.fieldLink R_Rv 35 "WaterMen$River" "stairCount" "I") tw_4) (fun _ h9 => h9) rfl d_Rv_addStairs_5 ?_
  refine lv_iload_n hx hb d_Rv_addStairs_8 rfl (lv_at hl 1 rfl) ?_
  refine tw_astI (ct := ct) (x := p_0) hx hb hK hP hD hS hO_0 m_1 rfl (hb_inl bp_4.1 as_0 (by decide +kernel)) (i32_full _) d_Rv_addStairs_9 (fun f_1 H locs hP hD hS hO_1 hE_1 w_2 ow_2 => ?_)
  have hA_1 := hA_0.trans hE_1
  refine lv_aload_n hx hb d_Rv_addStairs_10 rfl (lv_at hl 0 rfl) ?_
  refine lv_dup hx hb d_Rv_addStairs_11 rfl ?_
  refine tw_getI (x := (ti f q0 4)) (D := (dC, dI)) (C := R_Rv) (T := F_Rv) (N := 6) (ci := 1) (kd := 1) (ct := ct) hx hb htb i_Rv hown hK hP (hA_1.m m0) rfl rfl 4 ((hA_1.ei m0 rfl).trans rfl) (by decide) (htb (.fieldLink R_Rv 35 "WaterMen$River" "stairCount" "I") tw_4) (fun _ h9 => h9) rfl d_Rv_addStairs_12 ?_
  refine lv_iconst (v := 1) hx hb d_Rv_addStairs_15 (by decide +kernel) ?_
  refine lv_iadd hx hb d_Rv_addStairs_16 ?_
  refine tw_puti (v := ((ti f q0 4) + 1)) (D := (dC, dI)) (C := R_Rv) (T := F_Rv) (N := 6) (ci := 1) (kd := 1) (ct := ct) (ty := .int) hx hb htb i_Rv t_Rv t_Rv_ok n_Rv hown hK hP hD hS hO_1 (hA_1.m m0) rfl rfl 4 (by decide) (htb (.fieldLink R_Rv 35 "WaterMen$River" "stairCount" "I") tw_4) (fun _ h9 => h9) rfl (by decide +kernel) rfl rfl rfl ⟨(show ¬ (((ti f q0 4) + 1) < 0) from by have z0 : (0 : Int32).toInt = 0 := (by decide +kernel); have z1 : (1 : Int32).toInt = 1 := (by decide +kernel); have z2 : (11 : Int32).toInt = 11 := (by decide +kernel); have z3 : (12 : Int32).toInt = 12 := (by decide +kernel); have r0 := fb_rng (ti f q0 4); have e0 := as_0; rw [Int32.lt_iff_toInt_lt] at e0; have e1 := bp_4.1; rw [Int32.lt_iff_toInt_lt] at e1; have e2 := bp_4.2; rw [Int32.lt_iff_toInt_lt] at e2; have s0 := fb_addI (x := (ti f q0 4)) (y := (1 : Int32)) (by omega) (by omega); rw [Int32.lt_iff_toInt_lt]; omega), (show ¬ (12 < ((ti f q0 4) + 1)) from by have z0 : (0 : Int32).toInt = 0 := (by decide +kernel); have z1 : (1 : Int32).toInt = 1 := (by decide +kernel); have z2 : (11 : Int32).toInt = 11 := (by decide +kernel); have z3 : (12 : Int32).toInt = 12 := (by decide +kernel); have r0 := fb_rng (ti f q0 4); have e0 := as_0; rw [Int32.lt_iff_toInt_lt] at e0; have e1 := bp_4.1; rw [Int32.lt_iff_toInt_lt] at e1; have e2 := bp_4.2; rw [Int32.lt_iff_toInt_lt] at e2; have s0 := fb_addI (x := (ti f q0 4)) (y := (1 : Int32)) (by omega) (by omega); rw [Int32.lt_iff_toInt_lt]; omega)⟩ d_Rv_addStairs_17 (fun f_2 H locs hP hD hS hO_2 hE_2 w_3 => ?_)
  have hA_2 := hA_1.trans hE_2
  refine lv_aload_n hx hb d_Rv_addStairs_20 rfl (lv_at hl 0 rfl) ?_
  refine tw_getI (x := ((ti f q0 4) + 1)) (D := (dC, dI)) (C := R_Rv) (T := F_Rv) (N := 6) (ci := 1) (kd := 1) (ct := ct) hx hb htb i_Rv hown hK hP (hA_2.m m0) rfl rfl 4 w_3 (by decide) (htb (.fieldLink R_Rv 35 "WaterMen$River" "stairCount" "I") tw_4) (fun _ h9 => h9) rfl d_Rv_addStairs_21 ?_
  refine lv_iconst (v := 1) hx hb d_Rv_addStairs_24 (by decide +kernel) ?_
  refine lv_isub hx hb d_Rv_addStairs_25 ?_
  refine W.widen (k := 0) (n := 0) (Nat.le_of_ble_eq_true rfl) (Nat.le_of_ble_eq_true rfl) ?_
  exact W.iret (v := (((ti f q0 4) + 1) - 1)) hx hb hr (fun t ht hW => ⟨⟨(((ti f q0 4) + 1) - 1), (L, f_2), rfl, ⟨hO_2, hA_2.mono (by decide +kernel), trivial⟩, by rw [ht]; exact hP, va_K.moved hW.alike hK, by rw [hAe]; exact hD⟩, by rw [hAe]; exact hS.F ht⟩) (by rw [hAe]; exact hS.2.2) d_Rv_addStairs_26
set_option maxHeartbeats 4000000 in
set_option maxRecDepth 100000 in
theorem c_Rv_height_t (l : Launch) (dC : Nat → ClassId) (dI : Nat → Nat → Nat) (ct : Nat → ClassId) (L : List Nat) (f : TF) (hO_0 : Ok L f) (q0 : Nat) (m0 : q0 ∈ L ∧ tk f q0 = 1) (p_0 : Int32) (p_1 : Int32) (as_0 : ¬ (p_0 < 0)) (as_1 : ¬ (500 < p_0)) (as_2 : ¬ (p_1 < 0)) (as_3 : ¬ (11 < p_1)) : Met l y_Rv_height (.code y_Rv_height b_Rv_height 4 (some .int) :: TB) ({ frames := 0, cells := 0, slots := 0, locals := 0 }) (va_Pc [.ref q0, .int p_0, .int p_1] (PR dC dI (TW ct L f) (TT ct))) (vp_Si (fun r => True)) 0 0 (fun _ => False) := by
  refine Met.ofW (cc := b_Rv_height) (maxL := 4) (ret := (some .int)) (by decide) rfl ?_
  intro p e s m args below meth c s₁ B hml hv
  obtain ⟨rfl, hP, hK, hN⟩ := hv
  have hx := B.exec
  have hb := B.bytes
  have hr := B.returns
  have hts := atoms_spec (ws := (.code y_Rv_height b_Rv_height 4 (some .int) :: TB)) B.pre
  have htb := fun w (h : w ∈ TB) => hts w (List.mem_cons_of_mem _ h)
  have hown : s.vm.findClass R_Rv = some m.cls := findClass_of_methodNamed B.named
  have hlocks := B.notSynchronized
  have hl := lv_entry ([.ref q0, .int p_0, .int p_1]) (n := 4) (Nat.le_of_ble_eq_true rfl)
  rw [lg_entry_eq]
  generalize (lg_sl ([.ref q0, .int p_0, .int p_1]) ++ List.replicate (4 - (lg_sl ([.ref q0, .int p_0, .int p_1])).length) Slot.unset).toArray = ls at hl ⊢
  have hl : lv_has ls 4 [(0, .ref q0), (1, .int p_0), (2, .int p_1)] := hl
  refine lv_iload_n hx hb d_Rv_height_0 rfl (lv_at hl 1 rfl) ?_
  refine lv_sipush (v := 500) hx hb d_Rv_height_1 (by decide +kernel) ?_
  refine lv_icmp_ge (tgt := 16) hx hb d_Rv_height_4 (by decide) (fun c_1 => ?_) (fun c_1 => ?_)
  · refine lv_null hx hb d_Rv_height_16 ?_
    refine lv_astore_nN (lv' := [(3, .null), (0, .ref q0), (1, .int p_0), (2, .int p_1)]) hx hb d_Rv_height_17 rfl hl (by decide) rfl (fun ls hl => ?_)
    refine lv_aload_nN hx hb d_Rv_height_18 rfl (lv_at hl 0 rfl) ?_
    refine lv_ifnonnullN hx hb d_Rv_height_19 ?_
    refine lv_aload_n hx hb d_Rv_height_22 rfl (lv_at hl 1 rfl) ?_
    refine tw_getr (D := (dC, dI)) (C := R_Rv) (T := F_Rv) (N := 6) (ci := 1) (kd := 1) (ct := ct) hx hb htb i_Rv hown hK hP hO_0 m0 rfl rfl 1 (by decide) (htb (.fieldLink R_Rv 15 "WaterMen$River" "table" "[I") tw_6) (fun _ h9 => h9) rfl d_Rv_height_23 (fun q_2 e_2 m_2 => ?_)
    refine lv_iload_n hx hb d_Rv_height_26 rfl (lv_at hl 3 rfl) ?_
    refine lv_iload_n hx hb d_Rv_height_27 rfl (lv_at hl 2 rfl) ?_
    refine lv_iadd hx hb d_Rv_height_28 ?_
    refine lv_bipush (v := 12) hx hb d_Rv_height_29 (by decide +kernel) ?_
    refine lv_irem hx hb d_Rv_height_31 (by decide) ?_
    refine tw_aldI (ct := ct) hx hb hK hP hO_0 m_2 rfl (by have z0 : (0 : Int32).toInt = 0 := (by decide +kernel); have z1 : (11 : Int32).toInt = 11 := (by decide +kernel); have z2 : (12 : Int32).toInt = 12 := (by decide +kernel); have z3 : (500 : Int32).toInt = 500 := (by decide +kernel); have r0 := fb_rng (p_0); have r1 := fb_rng (p_1); have e0 := as_0; rw [Int32.lt_iff_toInt_lt] at e0; have e1 := as_1; rw [Int32.lt_iff_toInt_lt] at e1; have e2 := as_2; rw [Int32.lt_iff_toInt_lt] at e2; have e3 := as_3; rw [Int32.lt_iff_toInt_lt] at e3; have e4 := c_1; rw [Int32.le_iff_toInt_le] at e4; have s0 := fb_addI (x := (p_1)) (y := (p_0)) (by omega) (by omega); have s1 := hb_divI (x := ((p_1) + (p_0))) (y := (12 : Int32)) (by (try rw [show (12 : Int32).toInt = 12 from (by decide +kernel)]); omega) (by (try rw [show (12 : Int32).toInt = 12 from (by decide +kernel)]); omega); rw [show (12 : Int32).toInt = 12 from (by decide +kernel)] at s1; have s2 := fb_mulI (x := (((p_1) + (p_0)) / (12 : Int32))) (y := (12 : Int32)) (by (try rw [show (12 : Int32).toInt = 12 from (by decide +kernel)]); omega) (by (try rw [show (12 : Int32).toInt = 12 from (by decide +kernel)]); omega); rw [show (12 : Int32).toInt = 12 from (by decide +kernel)] at s2; have s3 := fb_subI (x := ((p_1) + (p_0))) (y := ((((p_1) + (p_0)) / (12 : Int32)) * (12 : Int32))) (by omega) (by omega); rw [vp_in_iff]; omega) d_Rv_height_32 (fun x_3 e_3 b_3 => ?_)
    refine lv_goto (tgt := 39) hx hb d_Rv_height_33 (by decide) ?_
    exact W.iret (v := x_3) hx hb hr (fun t ht hW => ⟨x_3, rfl, trivial, ht⟩) t_nil d_Rv_height_39
  · refine lv_aload_n hx hb d_Rv_height_7 rfl (lv_at hl 0 rfl) ?_
    refine tw_getr (D := (dC, dI)) (C := R_Rv) (T := F_Rv) (N := 6) (ci := 1) (kd := 1) (ct := ct) hx hb htb i_Rv hown hK hP hO_0 m0 rfl rfl 2 (by decide) (htb (.fieldLink R_Rv 19 "WaterMen$River" "rows" "[[I") tw_7) (fun _ h9 => h9) rfl d_Rv_height_8 (fun q_4 e_4 m_4 => ?_)
    refine lv_iload_n hx hb d_Rv_height_11 rfl (lv_at hl 1 rfl) ?_
    refine tw_aldA (ct := ct) hx hb hK hP hO_0 m_4 rfl rfl (hb_in as_0 c_1 (by decide +kernel)) d_Rv_height_12 (fun e_5 => ?_) (fun q_5 e_5 m_5 => ?_)
    · refine lv_goto (tgt := 17) hx hb d_Rv_height_13 (by decide) ?_
      refine lv_astore_nN (lv' := [(3, .null), (0, .ref q0), (1, .int p_0), (2, .int p_1)]) hx hb d_Rv_height_17 rfl hl (by decide) rfl (fun ls hl => ?_)
      refine lv_aload_nN hx hb d_Rv_height_18 rfl (lv_at hl 0 rfl) ?_
      refine lv_ifnonnullN hx hb d_Rv_height_19 ?_
      refine lv_aload_n hx hb d_Rv_height_22 rfl (lv_at hl 1 rfl) ?_
      refine tw_getr (D := (dC, dI)) (C := R_Rv) (T := F_Rv) (N := 6) (ci := 1) (kd := 1) (ct := ct) hx hb htb i_Rv hown hK hP hO_0 m0 rfl rfl 1 (by decide) (htb (.fieldLink R_Rv 15 "WaterMen$River" "table" "[I") tw_6) (fun _ h9 => h9) rfl d_Rv_height_23 (fun q_6 e_6 m_6 => ?_)
      refine lv_iload_n hx hb d_Rv_height_26 rfl (lv_at hl 3 rfl) ?_
      refine lv_iload_n hx hb d_Rv_height_27 rfl (lv_at hl 2 rfl) ?_
      refine lv_iadd hx hb d_Rv_height_28 ?_
      refine lv_bipush (v := 12) hx hb d_Rv_height_29 (by decide +kernel) ?_
      refine lv_irem hx hb d_Rv_height_31 (by decide) ?_
      refine tw_aldI (ct := ct) hx hb hK hP hO_0 m_6 rfl (by have z0 : (0 : Int32).toInt = 0 := (by decide +kernel); have z1 : (11 : Int32).toInt = 11 := (by decide +kernel); have z2 : (12 : Int32).toInt = 12 := (by decide +kernel); have z3 : (500 : Int32).toInt = 500 := (by decide +kernel); have r0 := fb_rng (p_0); have r1 := fb_rng (p_1); have e0 := as_0; rw [Int32.lt_iff_toInt_lt] at e0; have e1 := as_1; rw [Int32.lt_iff_toInt_lt] at e1; have e2 := as_2; rw [Int32.lt_iff_toInt_lt] at e2; have e3 := as_3; rw [Int32.lt_iff_toInt_lt] at e3; have e4 := c_1; rw [Int32.le_iff_toInt_le] at e4; have s0 := fb_addI (x := (p_1)) (y := (p_0)) (by omega) (by omega); have s1 := hb_divI (x := ((p_1) + (p_0))) (y := (12 : Int32)) (by (try rw [show (12 : Int32).toInt = 12 from (by decide +kernel)]); omega) (by (try rw [show (12 : Int32).toInt = 12 from (by decide +kernel)]); omega); rw [show (12 : Int32).toInt = 12 from (by decide +kernel)] at s1; have s2 := fb_mulI (x := (((p_1) + (p_0)) / (12 : Int32))) (y := (12 : Int32)) (by (try rw [show (12 : Int32).toInt = 12 from (by decide +kernel)]); omega) (by (try rw [show (12 : Int32).toInt = 12 from (by decide +kernel)]); omega); rw [show (12 : Int32).toInt = 12 from (by decide +kernel)] at s2; have s3 := fb_subI (x := ((p_1) + (p_0))) (y := ((((p_1) + (p_0)) / (12 : Int32)) * (12 : Int32))) (by omega) (by omega); rw [vp_in_iff]; omega) d_Rv_height_32 (fun x_7 e_7 b_7 => ?_)
      refine lv_goto (tgt := 39) hx hb d_Rv_height_33 (by decide) ?_
      exact W.iret (v := x_7) hx hb hr (fun t ht hW => ⟨x_7, rfl, trivial, ht⟩) t_nil d_Rv_height_39
    · refine lv_goto (tgt := 17) hx hb d_Rv_height_13 (by decide) ?_
      refine lv_astore_n (lv' := [(3, .ref q_5), (0, .ref q0), (1, .int p_0), (2, .int p_1)]) hx hb d_Rv_height_17 rfl hl (by decide) rfl (fun ls hl => ?_)
      refine lv_aload_n hx hb d_Rv_height_18 rfl (lv_at hl 0 rfl) ?_
      refine lv_ifnonnull (tgt := 36) hx hb d_Rv_height_19 (by decide) ?_
      refine lv_aload_n hx hb d_Rv_height_36 rfl (lv_at hl 0 rfl) ?_
      refine lv_iload_n hx hb d_Rv_height_37 rfl (lv_at hl 3 rfl) ?_
      refine tw_aldI (ct := ct) hx hb hK hP hO_0 m_5 rfl (hb_inl as_2 as_3 (by decide +kernel)) d_Rv_height_38 (fun x_8 e_8 b_8 => ?_)
      exact W.iret (v := x_8) hx hb hr (fun t ht hW => ⟨x_8, rfl, trivial, ht⟩) t_nil d_Rv_height_39
set_option maxHeartbeats 4000000 in
set_option maxRecDepth 100000 in
theorem c_Rv_flowIn_t (l : Launch) (dC : Nat → ClassId) (dI : Nat → Nat → Nat) (ct : Nat → ClassId) (L : List Nat) (f : TF) (hO_0 : Ok L f) (q0 : Nat) (m0 : q0 ∈ L ∧ tk f q0 = 1) (p_0 : Int32) (p_1 : Int32) (as_0 : ¬ (p_0 < 0)) (as_1 : ¬ (499 < p_0)) (as_2 : ¬ (p_1 < 0)) (as_3 : ¬ (11 < p_1)) : Met l y_Rv_flowIn (.code y_Rv_flowIn b_Rv_flowIn 4 (some .int) :: TB) ({ frames := 1, cells := 0, slots := 0, locals := 23 }) (va_Pc [.ref q0, .int p_0, .int p_1] (PR dC dI (TW ct L f) (TT ct))) (vp_Si (fun r => True)) 0 0 (fun _ => False) := by
  refine Met.ofW (cc := b_Rv_flowIn) (maxL := 4) (ret := (some .int)) (by decide) rfl ?_
  intro p e s m args below meth c s₁ B hml hv
  obtain ⟨rfl, hP, hK, hN⟩ := hv
  have hx := B.exec
  have hb := B.bytes
  have hr := B.returns
  have hts := atoms_spec (ws := (.code y_Rv_flowIn b_Rv_flowIn 4 (some .int) :: TB)) B.pre
  have htb := fun w (h : w ∈ TB) => hts w (List.mem_cons_of_mem _ h)
  have hown : s.vm.findClass R_Rv = some m.cls := findClass_of_methodNamed B.named
  have hlocks := B.notSynchronized
  have hl := lv_entry ([.ref q0, .int p_0, .int p_1]) (n := 4) (Nat.le_of_ble_eq_true rfl)
  rw [lg_entry_eq]
  generalize (lg_sl ([.ref q0, .int p_0, .int p_1]) ++ List.replicate (4 - (lg_sl ([.ref q0, .int p_0, .int p_1])).length) Slot.unset).toArray = ls at hl ⊢
  have hl : lv_has ls 4 [(0, .ref q0), (1, .int p_0), (2, .int p_1)] := hl
  refine lv_iload_n hx hb d_Rv_flowIn_0 rfl (lv_at hl 2 rfl) ?_
  refine lv_bipush (v := 11) hx hb d_Rv_flowIn_1 (by decide +kernel) ?_
  refine lv_icmp_ne (tgt := 17) hx hb d_Rv_flowIn_3 (by decide) (fun c_1 => ?_) (fun c_1 => ?_)
  · refine lv_aload_n hx hb d_Rv_flowIn_17 rfl (lv_at hl 0 rfl) ?_
    refine lv_iload_n hx hb d_Rv_flowIn_18 rfl (lv_at hl 1 rfl) ?_
    refine lv_iload_n hx hb d_Rv_flowIn_19 rfl (lv_at hl 2 rfl) ?_
    refine lv_iconst (v := 1) hx hb d_Rv_flowIn_20 (by decide +kernel) ?_
    refine lv_iadd hx hb d_Rv_flowIn_21 ?_
    refine vp_callSi (va_Run.run (va_runV (As := [.int p_0, .int (p_1 + 1)]) (rest := []) ⟨hx, hb, hml, hown, htb⟩ (c_Rv_height_t l dC dI ct L f hO_0 q0 m0 p_0 (p_1 + 1) as_0 (show ¬ (500 < p_0) from by have e0 := as_0; rw [Int32.lt_iff_toInt_lt] at e0; have e1 := as_1; rw [Int32.lt_iff_toInt_lt] at e1; have z0 : (0 : Int32).toInt = 0 := (by decide +kernel); have z1 : (499 : Int32).toInt = 499 := (by decide +kernel); have z2 : (500 : Int32).toInt = 500 := (by decide +kernel); rw [Int32.lt_iff_toInt_lt]; omega) (show ¬ ((p_1 + 1) < 0) from by have e0 := as_2; rw [Int32.lt_iff_toInt_lt] at e0; have e1 := as_3; rw [Int32.lt_iff_toInt_lt] at e1; have e2 := c_1; rw [← Int32.toInt_inj] at e2; have z0 : (0 : Int32).toInt = 0 := (by decide +kernel); have z1 : (1 : Int32).toInt = 1 := (by decide +kernel); have z2 : (11 : Int32).toInt = 11 := (by decide +kernel); have ss := fb_addI (x := p_1) (y := 1) (by omega) (by omega); rw [Int32.lt_iff_toInt_lt]; omega) (show ¬ (11 < (p_1 + 1)) from by have e0 := as_2; rw [Int32.lt_iff_toInt_lt] at e0; have e1 := as_3; rw [Int32.lt_iff_toInt_lt] at e1; have e2 := c_1; rw [← Int32.toInt_inj] at e2; have z0 : (0 : Int32).toInt = 0 := (by decide +kernel); have z1 : (1 : Int32).toInt = 1 := (by decide +kernel); have z2 : (11 : Int32).toInt = 11 := (by decide +kernel); have ss := fb_addI (x := p_1) (y := 1) (by omega) (by omega); rw [Int32.lt_iff_toInt_lt]; omega)) (cwV 2 htb (gd_V tw_10 tw_11 tw_12 tw_9 tw_8) rfl rfl rfl (by decide +kernel) ⟨Nat.le_of_ble_eq_true rfl, Nat.le_of_ble_eq_true rfl⟩) ⟨pr_blind, tw_recv hK hP m0 rfl rfl, pr_pre hP hK hN⟩ rfl rfl hl.1 rfl (lv_room (Nat.le_of_ble_eq_true rfl)) d_Rv_flowIn_22 ⟨Nat.le_of_ble_eq_true rfl, Nat.le_of_ble_eq_true rfl⟩)) (fun r_2 er_2 => ?_)
    clear er_2
    refine lv_istore_n (lv' := [(3, .int r_2), (0, .ref q0), (1, .int p_0), (2, .int p_1)]) hx hb d_Rv_flowIn_25 rfl hl (by decide) rfl (fun ls hl => ?_)
    refine lv_iload_n hx hb d_Rv_flowIn_26 rfl (lv_at hl 0 rfl) ?_
    refine lv_aload_n hx hb d_Rv_flowIn_27 rfl (lv_at hl 1 rfl) ?_
    refine lv_iload_n hx hb d_Rv_flowIn_28 rfl (lv_at hl 2 rfl) ?_
    refine lv_iload_n hx hb d_Rv_flowIn_29 rfl (lv_at hl 3 rfl) ?_
    refine vp_callSi (va_Run.run (va_runV (As := [.int p_0, .int p_1]) (rest := [.int r_2]) ⟨hx, hb, hml, hown, htb⟩ (c_Rv_height_t l dC dI ct L f hO_0 q0 m0 p_0 p_1 as_0 (show ¬ (500 < p_0) from by have e0 := as_0; rw [Int32.lt_iff_toInt_lt] at e0; have e1 := as_1; rw [Int32.lt_iff_toInt_lt] at e1; have z0 : (0 : Int32).toInt = 0 := (by decide +kernel); have z1 : (499 : Int32).toInt = 499 := (by decide +kernel); have z2 : (500 : Int32).toInt = 500 := (by decide +kernel); rw [Int32.lt_iff_toInt_lt]; omega) as_2 as_3) (cwV 2 htb (gd_V tw_10 tw_11 tw_12 tw_9 tw_8) rfl rfl rfl (by decide +kernel) ⟨Nat.le_of_ble_eq_true rfl, Nat.le_of_ble_eq_true rfl⟩) ⟨pr_blind, tw_recv hK hP m0 rfl rfl, pr_pre hP hK hN⟩ rfl rfl hl.1 rfl (lv_room (Nat.le_of_ble_eq_true rfl)) d_Rv_flowIn_30 ⟨Nat.le_of_ble_eq_true rfl, Nat.le_of_ble_eq_true rfl⟩)) (fun r_3 er_3 => ?_)
    clear er_3
    refine lv_isub hx hb d_Rv_flowIn_33 ?_
    exact W.iret (v := (r_2 - r_3)) hx hb hr (fun t ht hW => ⟨(r_2 - r_3), rfl, trivial, ht⟩) t_nil d_Rv_flowIn_34
  · refine lv_aload_n hx hb d_Rv_flowIn_6 rfl (lv_at hl 0 rfl) ?_
    refine lv_iload_n hx hb d_Rv_flowIn_7 rfl (lv_at hl 1 rfl) ?_
    refine lv_iconst (v := 1) hx hb d_Rv_flowIn_8 (by decide +kernel) ?_
    refine lv_iadd hx hb d_Rv_flowIn_9 ?_
    refine lv_iconst (v := 0) hx hb d_Rv_flowIn_10 (by decide +kernel) ?_
    refine vp_callSi (va_Run.run (va_runV (As := [.int (p_0 + 1), .int 0]) (rest := []) ⟨hx, hb, hml, hown, htb⟩ (c_Rv_height_t l dC dI ct L f hO_0 q0 m0 (p_0 + 1) (0 : Int32) (show ¬ ((p_0 + 1) < 0) from by have e0 := as_0; rw [Int32.lt_iff_toInt_lt] at e0; have e1 := as_1; rw [Int32.lt_iff_toInt_lt] at e1; have z0 : (0 : Int32).toInt = 0 := (by decide +kernel); have z1 : (1 : Int32).toInt = 1 := (by decide +kernel); have z2 : (499 : Int32).toInt = 499 := (by decide +kernel); have ss := fb_addI (x := p_0) (y := 1) (by omega) (by omega); rw [Int32.lt_iff_toInt_lt]; omega) (show ¬ (500 < (p_0 + 1)) from by have e0 := as_0; rw [Int32.lt_iff_toInt_lt] at e0; have e1 := as_1; rw [Int32.lt_iff_toInt_lt] at e1; have z0 : (0 : Int32).toInt = 0 := (by decide +kernel); have z1 : (1 : Int32).toInt = 1 := (by decide +kernel); have z2 : (499 : Int32).toInt = 499 := (by decide +kernel); have z3 : (500 : Int32).toInt = 500 := (by decide +kernel); have ss := fb_addI (x := p_0) (y := 1) (by omega) (by omega); rw [Int32.lt_iff_toInt_lt]; omega) (by decide +kernel) (by decide +kernel)) (cwV 2 htb (gd_V tw_10 tw_11 tw_12 tw_9 tw_8) rfl rfl rfl (by decide +kernel) ⟨Nat.le_of_ble_eq_true rfl, Nat.le_of_ble_eq_true rfl⟩) ⟨pr_blind, tw_recv hK hP m0 rfl rfl, pr_pre hP hK hN⟩ rfl rfl hl.1 rfl (lv_room (Nat.le_of_ble_eq_true rfl)) d_Rv_flowIn_11 ⟨Nat.le_of_ble_eq_true rfl, Nat.le_of_ble_eq_true rfl⟩)) (fun r_4 er_4 => ?_)
    clear er_4
    refine lv_goto (tgt := 25) hx hb d_Rv_flowIn_14 (by decide) ?_
    refine lv_istore_n (lv' := [(3, .int r_4), (0, .ref q0), (1, .int p_0), (2, .int p_1)]) hx hb d_Rv_flowIn_25 rfl hl (by decide) rfl (fun ls hl => ?_)
    refine lv_iload_n hx hb d_Rv_flowIn_26 rfl (lv_at hl 0 rfl) ?_
    refine lv_aload_n hx hb d_Rv_flowIn_27 rfl (lv_at hl 1 rfl) ?_
    refine lv_iload_n hx hb d_Rv_flowIn_28 rfl (lv_at hl 2 rfl) ?_
    refine lv_iload_n hx hb d_Rv_flowIn_29 rfl (lv_at hl 3 rfl) ?_
    refine vp_callSi (va_Run.run (va_runV (As := [.int p_0, .int p_1]) (rest := [.int r_4]) ⟨hx, hb, hml, hown, htb⟩ (c_Rv_height_t l dC dI ct L f hO_0 q0 m0 p_0 p_1 as_0 (show ¬ (500 < p_0) from by have e0 := as_0; rw [Int32.lt_iff_toInt_lt] at e0; have e1 := as_1; rw [Int32.lt_iff_toInt_lt] at e1; have z0 : (0 : Int32).toInt = 0 := (by decide +kernel); have z1 : (499 : Int32).toInt = 499 := (by decide +kernel); have z2 : (500 : Int32).toInt = 500 := (by decide +kernel); rw [Int32.lt_iff_toInt_lt]; omega) as_2 as_3) (cwV 2 htb (gd_V tw_10 tw_11 tw_12 tw_9 tw_8) rfl rfl rfl (by decide +kernel) ⟨Nat.le_of_ble_eq_true rfl, Nat.le_of_ble_eq_true rfl⟩) ⟨pr_blind, tw_recv hK hP m0 rfl rfl, pr_pre hP hK hN⟩ rfl rfl hl.1 rfl (lv_room (Nat.le_of_ble_eq_true rfl)) d_Rv_flowIn_30 ⟨Nat.le_of_ble_eq_true rfl, Nat.le_of_ble_eq_true rfl⟩)) (fun r_5 er_5 => ?_)
    clear er_5
    refine lv_isub hx hb d_Rv_flowIn_33 ?_
    exact W.iret (v := (r_4 - r_5)) hx hb hr (fun t ht hW => ⟨(r_4 - r_5), rfl, trivial, ht⟩) t_nil d_Rv_flowIn_34
set_option maxHeartbeats 4000000 in
set_option maxRecDepth 100000 in
theorem c_Mn_isOnWay_t (l : Launch) (dC : Nat → ClassId) (dI : Nat → Nat → Nat) (ct : Nat → ClassId) (L : List Nat) (f : TF) (hO_0 : Ok L f) (q0 : Nat) (m0 : q0 ∈ L ∧ tk f q0 = 20) (p_0 : Int32)  : Met l y_Mn_isOnWay (.code y_Mn_isOnWay b_Mn_isOnWay 2 (some .boolean) :: TB) ({ frames := 0, cells := 0, slots := 0, locals := 0 }) (va_Pc [.ref q0, .int p_0] (PR dC dI (TW ct L f) (TT ct))) (vp_Si (fun r => (r = 0 ∧ True) ∨ (r = 1 ∧ True))) 0 0 (fun _ => False) := by
  refine Met.ofW (cc := b_Mn_isOnWay) (maxL := 2) (ret := (some .boolean)) (by decide) rfl ?_
  intro p e s m args below meth c s₁ B hml hv
  obtain ⟨rfl, hP, hK, hN⟩ := hv
  have hx := B.exec
  have hb := B.bytes
  have hr := B.returns
  have hts := atoms_spec (ws := (.code y_Mn_isOnWay b_Mn_isOnWay 2 (some .boolean) :: TB)) B.pre
  have htb := fun w (h : w ∈ TB) => hts w (List.mem_cons_of_mem _ h)
  have hown : s.vm.findClass R_Mn = some m.cls := findClass_of_methodNamed B.named
  have hlocks := B.notSynchronized
  have hl := lv_entry ([.ref q0, .int p_0]) (n := 2) (Nat.le_of_ble_eq_true rfl)
  rw [lg_entry_eq]
  generalize (lg_sl ([.ref q0, .int p_0]) ++ List.replicate (2 - (lg_sl ([.ref q0, .int p_0])).length) Slot.unset).toArray = ls at hl ⊢
  have hl : lv_has ls 2 [(0, .ref q0), (1, .int p_0)] := hl
  refine lv_iload_n hx hb d_Mn_isOnWay_0 rfl (lv_at hl 1 rfl) ?_
  refine lv_aload_n hx hb d_Mn_isOnWay_1 rfl (lv_at hl 0 rfl) ?_
  refine tw_geti (D := (dC, dI)) (C := R_Mn) (T := F_Mn) (N := 8) (ci := 2) (kd := 20) (ct := ct) hx hb htb i_Mn hown hK hP hO_0 m0 rfl rfl 5 (by decide) (htb (.fieldLink R_Mn 21 "WaterMen$Man" "busyUntil" "I") tw_13) (fun _ h9 => h9) rfl d_Mn_isOnWay_2 (fun x_1 e_1 b_1 => ?_)
  refine lv_icmp_ge (tgt := 12) hx hb d_Mn_isOnWay_5 (by decide) (fun c_2 => ?_) (fun c_2 => ?_)
  · refine lv_iconst (v := 0) hx hb d_Mn_isOnWay_12 (by decide +kernel) ?_
    exact W.zret (v := 0) hx hb hr (by decide +kernel) (fun t ht hW => ⟨0, rfl, (Or.inl ⟨rfl, trivial⟩), ht⟩) t_nil d_Mn_isOnWay_13
  · refine lv_iconst (v := 1) hx hb d_Mn_isOnWay_8 (by decide +kernel) ?_
    refine lv_goto (tgt := 13) hx hb d_Mn_isOnWay_9 (by decide) ?_
    exact W.zret (v := 1) hx hb hr (by decide +kernel) (fun t ht hW => ⟨1, rfl, (Or.inr ⟨rfl, trivial⟩), ht⟩) t_nil d_Mn_isOnWay_13
def W_Bd_addGap_t : List (Nat × Nat) := [(21, 4), (22, 1000), (23, 1000)]
set_option maxHeartbeats 4000000 in
set_option maxRecDepth 100000 in
theorem c_Bd_addGap_t (l : Launch) (dC : Nat → ClassId) (dI : Nat → Nat → Nat) (ct : Nat → ClassId) (L : List Nat) (f : TF) (hO_0 : Ok L f) (q0 : Nat) (m0 : q0 ∈ L ∧ tk f q0 = 21) (sz : Nat) (p_0 : Int32) (p_1 : Int32) (as_0 : ¬ (5 < (ti f q0 4))) : Met l y_Bd_addGap (.code y_Bd_addGap b_Bd_addGap 3 (some .int) :: TB) ({ frames := 0, cells := 0, slots := 0, locals := 0 }) (va_Pc [.ref q0, .int p_0, .int p_1] (PC dC dI (TW ct L f) (TT ct) sz)) (va_Qi (fun r (u : TSt) => Ok u.1 u.2 ∧ Ext W_Bd_addGap_t L f u.1 u.2 ∧ (True)) (fun (u : TSt) t => va_P (dC, dI) vwCl (TW ct u.1 u.2) t.heap ∧ va_K (dC, dI) vwCl (TT ct) t ∧ va_D (va_A (TW ct L f) sz) (TW ct u.1 u.2)) (va_A (TW ct L f) sz)) 0 0 (va_A (TW ct L f) sz) := by
  refine Met.ofW (cc := b_Bd_addGap) (maxL := 3) (ret := (some .int)) (by decide) rfl ?_
  intro p e s m args below meth c s₁ B hml hv
  obtain ⟨rfl, hsz, hP, hK, hD0, hN⟩ := hv
  have hx := B.exec
  have hb := B.bytes
  have hr := B.returns
  have hts := atoms_spec (ws := (.code y_Bd_addGap b_Bd_addGap 3 (some .int) :: TB)) B.pre
  have htb := fun w (h : w ∈ TB) => hts w (List.mem_cons_of_mem _ h)
  have hown : s.vm.findClass R_Bd = some m.cls := findClass_of_methodNamed B.named
  have hlocks := B.notSynchronized
  have hl := lv_entry ([.ref q0, .int p_0, .int p_1]) (n := 3) (Nat.le_of_ble_eq_true rfl)
  rw [lg_entry_eq]
  generalize (lg_sl ([.ref q0, .int p_0, .int p_1]) ++ List.replicate (3 - (lg_sl ([.ref q0, .int p_0, .int p_1])).length) Slot.unset).toArray = ls at hl ⊢
  have hl : lv_has ls 3 [(0, .ref q0), (1, .int p_0), (2, .int p_1)] := hl
  subst hsz
  have hD := hD0.self (sz := s.heap.size)
  obtain ⟨A, hAe⟩ : ∃ A, va_A (TW ct L f) s.heap.size = A := ⟨_, rfl⟩
  rw [hAe] at hD
  have hA : ∀ q : Nat, s.heap.size ≤ q → A q := fun q h => by rw [← hAe]; exact Or.inr h
  have hS : va_S A s.heap s.heap [] := va_S.rf
  have hA_0 : Ext [] L f L f := Ext.rf
  suffices hGo : ∀ (H : Heap) (locs : List Loc), va_P (dC, dI) vwCl (TW ct L f) H → va_S A s.heap H locs → W p l e (headSpec (.code y_Bd_addGap b_Bd_addGap 3 (some .int) :: TB) ({ frames := 0, cells := 0, slots := 0, locals := 0 })).room s m [.ref q0, .int p_0, .int p_1].toArray below meth c H locs 0 0 (MQ below (va_Qi (fun r (u : TSt) => Ok u.1 u.2 ∧ Ext W_Bd_addGap_t L f u.1 u.2 ∧ (True)) (fun (u : TSt) t => va_P (dC, dI) vwCl (TW ct u.1 u.2) t.heap ∧ va_K (dC, dI) vwCl (TT ct) t ∧ va_D (va_A (TW ct L f) s.heap.size) (TW ct u.1 u.2)) (va_A (TW ct L f) s.heap.size)) [.ref q0, .int p_0, .int p_1].toArray s 0 0 (va_A (TW ct L f) s.heap.size)) (F0 m 0 ls []) from hGo _ _ hP hS
  clear hP hS
  intro H locs hP hS
  have bp_4 := hO_0.i m0 (show slotD 21 4 = some (.inl (0, 6)) from rfl)
  refine lv_aload_n hx hb d_Bd_addGap_0 rfl (lv_at hl 0 rfl) ?_
  refine tw_getr (D := (dC, dI)) (C := R_Bd) (T := F_Bd) (N := 5) (ci := 8) (kd := 21) (ct := ct) hx hb htb i_Bd hown hK hP hO_0 m0 rfl rfl 2 (by decide) (htb (.fieldLink R_Bd 9 "WaterMen$Bond" "gapFrom" "[I") tw_14) (fun _ h9 => h9) rfl d_Bd_addGap_1 (fun q_1 e_1 m_1 => ?_)
  refine lv_aload_n hx hb d_Bd_addGap_4 rfl (lv_at hl 0 rfl) ?_
  refine tw_getI (x := (ti f q0 4)) (D := (dC, dI)) (C := R_Bd) (T := F_Bd) (N := 5) (ci := 8) (kd := 21) (ct := ct) hx hb htb i_Bd hown hK hP m0 rfl rfl 4 rfl (by decide) (htb (.fieldLink R_Bd 25 "WaterMen$Bond" "gapCount" "I") tw_15) (fun _ h9 => h9) rfl d_Bd_addGap_5 ?_
  refine lv_iload_n hx hb d_Bd_addGap_8 rfl (lv_at hl 1 rfl) ?_
  refine tw_astI (ct := ct) (x := p_0) hx hb hK hP hD hS hO_0 m_1 rfl (hb_inl bp_4.1 as_0 (by decide +kernel)) (i32_full _) d_Bd_addGap_9 (fun f_1 H locs hP hD hS hO_1 hE_1 w_2 ow_2 => ?_)
  have hA_1 := hA_0.trans hE_1
  refine lv_aload_n hx hb d_Bd_addGap_10 rfl (lv_at hl 0 rfl) ?_
  refine tw_getr (D := (dC, dI)) (C := R_Bd) (T := F_Bd) (N := 5) (ci := 8) (kd := 21) (ct := ct) hx hb htb i_Bd hown hK hP hO_1 (hA_1.m m0) rfl rfl 3 (by decide) (htb (.fieldLink R_Bd 15 "WaterMen$Bond" "gapTo" "[I") tw_16) (fun _ h9 => h9) rfl d_Bd_addGap_11 (fun q_3 e_3 m_3 => ?_)
  refine lv_aload_n hx hb d_Bd_addGap_14 rfl (lv_at hl 0 rfl) ?_
  refine tw_getI (x := (ti f q0 4)) (D := (dC, dI)) (C := R_Bd) (T := F_Bd) (N := 5) (ci := 8) (kd := 21) (ct := ct) hx hb htb i_Bd hown hK hP (hA_1.m m0) rfl rfl 4 ((hA_1.ei m0 rfl).trans rfl) (by decide) (htb (.fieldLink R_Bd 25 "WaterMen$Bond" "gapCount" "I") tw_15) (fun _ h9 => h9) rfl d_Bd_addGap_15 ?_
  refine lv_iload_n hx hb d_Bd_addGap_18 rfl (lv_at hl 2 rfl) ?_
  refine tw_astI (ct := ct) (x := p_1) hx hb hK hP hD hS hO_1 m_3 rfl (hb_inl bp_4.1 as_0 (by decide +kernel)) (i32_full _) d_Bd_addGap_19 (fun f_2 H locs hP hD hS hO_2 hE_2 w_4 ow_4 => ?_)
  have hA_2 := hA_1.trans hE_2
  refine lv_aload_n hx hb d_Bd_addGap_20 rfl (lv_at hl 0 rfl) ?_
  refine lv_dup hx hb d_Bd_addGap_21 rfl ?_
  refine tw_getI (x := (ti f q0 4)) (D := (dC, dI)) (C := R_Bd) (T := F_Bd) (N := 5) (ci := 8) (kd := 21) (ct := ct) hx hb htb i_Bd hown hK hP (hA_2.m m0) rfl rfl 4 ((hA_2.ei m0 rfl).trans rfl) (by decide) (htb (.fieldLink R_Bd 25 "WaterMen$Bond" "gapCount" "I") tw_15) (fun _ h9 => h9) rfl d_Bd_addGap_22 ?_
  refine lv_iconst (v := 1) hx hb d_Bd_addGap_25 (by decide +kernel) ?_
  refine lv_iadd hx hb d_Bd_addGap_26 ?_
  refine tw_puti (v := ((ti f q0 4) + 1)) (D := (dC, dI)) (C := R_Bd) (T := F_Bd) (N := 5) (ci := 8) (kd := 21) (ct := ct) (ty := .int) hx hb htb i_Bd t_Bd t_Bd_ok n_Bd hown hK hP hD hS hO_2 (hA_2.m m0) rfl rfl 4 (by decide) (htb (.fieldLink R_Bd 25 "WaterMen$Bond" "gapCount" "I") tw_15) (fun _ h9 => h9) rfl (by decide +kernel) rfl rfl rfl ⟨(show ¬ (((ti f q0 4) + 1) < 0) from by have z0 : (0 : Int32).toInt = 0 := (by decide +kernel); have z1 : (1 : Int32).toInt = 1 := (by decide +kernel); have z2 : (5 : Int32).toInt = 5 := (by decide +kernel); have z3 : (6 : Int32).toInt = 6 := (by decide +kernel); have r0 := fb_rng (ti f q0 4); have e0 := as_0; rw [Int32.lt_iff_toInt_lt] at e0; have e1 := bp_4.1; rw [Int32.lt_iff_toInt_lt] at e1; have e2 := bp_4.2; rw [Int32.lt_iff_toInt_lt] at e2; have s0 := fb_addI (x := (ti f q0 4)) (y := (1 : Int32)) (by omega) (by omega); rw [Int32.lt_iff_toInt_lt]; omega), (show ¬ (6 < ((ti f q0 4) + 1)) from by have z0 : (0 : Int32).toInt = 0 := (by decide +kernel); have z1 : (1 : Int32).toInt = 1 := (by decide +kernel); have z2 : (5 : Int32).toInt = 5 := (by decide +kernel); have z3 : (6 : Int32).toInt = 6 := (by decide +kernel); have r0 := fb_rng (ti f q0 4); have e0 := as_0; rw [Int32.lt_iff_toInt_lt] at e0; have e1 := bp_4.1; rw [Int32.lt_iff_toInt_lt] at e1; have e2 := bp_4.2; rw [Int32.lt_iff_toInt_lt] at e2; have s0 := fb_addI (x := (ti f q0 4)) (y := (1 : Int32)) (by omega) (by omega); rw [Int32.lt_iff_toInt_lt]; omega)⟩ d_Bd_addGap_27 (fun f_3 H locs hP hD hS hO_3 hE_3 w_5 => ?_)
  have hA_3 := hA_2.trans hE_3
  refine lv_aload_n hx hb d_Bd_addGap_30 rfl (lv_at hl 0 rfl) ?_
  refine tw_getI (x := ((ti f q0 4) + 1)) (D := (dC, dI)) (C := R_Bd) (T := F_Bd) (N := 5) (ci := 8) (kd := 21) (ct := ct) hx hb htb i_Bd hown hK hP (hA_3.m m0) rfl rfl 4 w_5 (by decide) (htb (.fieldLink R_Bd 25 "WaterMen$Bond" "gapCount" "I") tw_15) (fun _ h9 => h9) rfl d_Bd_addGap_31 ?_
  refine W.widen (k := 0) (n := 0) (Nat.le_of_ble_eq_true rfl) (Nat.le_of_ble_eq_true rfl) ?_
  exact W.iret (v := ((ti f q0 4) + 1)) hx hb hr (fun t ht hW => ⟨⟨((ti f q0 4) + 1), (L, f_3), rfl, ⟨hO_3, hA_3.mono (by decide +kernel), trivial⟩, by rw [ht]; exact hP, va_K.moved hW.alike hK, by rw [hAe]; exact hD⟩, by rw [hAe]; exact hS.F ht⟩) (by rw [hAe]; exact hS.2.2) d_Bd_addGap_34
set_option maxHeartbeats 4000000 in
set_option maxRecDepth 100000 in
theorem c_Bt_stateAt_t (l : Launch) (dC : Nat → ClassId) (dI : Nat → Nat → Nat) (ct : Nat → ClassId) (L : List Nat) (f : TF) (hO_0 : Ok L f) (q0 : Nat) (m0 : q0 ∈ L ∧ tk f q0 = 24) (p_0 : Int32)  : Met l y_Bt_stateAt (.code y_Bt_stateAt b_Bt_stateAt 2 (some .int) :: TB) ({ frames := 0, cells := 0, slots := 0, locals := 0 }) (va_Pc [.ref q0, .int p_0] (PR dC dI (TW ct L f) (TT ct))) (vp_Si (fun r => True)) 0 0 (fun _ => False) := by
  refine Met.ofW (cc := b_Bt_stateAt) (maxL := 2) (ret := (some .int)) (by decide) rfl ?_
  intro p e s m args below meth c s₁ B hml hv
  obtain ⟨rfl, hP, hK, hN⟩ := hv
  have hx := B.exec
  have hb := B.bytes
  have hr := B.returns
  have hts := atoms_spec (ws := (.code y_Bt_stateAt b_Bt_stateAt 2 (some .int) :: TB)) B.pre
  have htb := fun w (h : w ∈ TB) => hts w (List.mem_cons_of_mem _ h)
  have hown : s.vm.findClass R_Bt = some m.cls := findClass_of_methodNamed B.named
  have hlocks := B.notSynchronized
  have hl := lv_entry ([.ref q0, .int p_0]) (n := 2) (Nat.le_of_ble_eq_true rfl)
  rw [lg_entry_eq]
  generalize (lg_sl ([.ref q0, .int p_0]) ++ List.replicate (2 - (lg_sl ([.ref q0, .int p_0])).length) Slot.unset).toArray = ls at hl ⊢
  have hl : lv_has ls 2 [(0, .ref q0), (1, .int p_0)] := hl
  refine lv_aload_n hx hb d_Bt_stateAt_0 rfl (lv_at hl 0 rfl) ?_
  refine tw_geti (D := (dC, dI)) (C := R_Bt) (T := F_Bt) (N := 6) (ci := 9) (kd := 24) (ct := ct) hx hb htb i_Bt hown hK hP hO_0 m0 rfl rfl 5 (by decide) (htb (.fieldLink R_Bt 24 "WaterMen$Boat" "sunk" "Z") tw_17) (fun _ h9 => h9) rfl d_Bt_stateAt_1 (fun x_1 e_1 b_1 => ?_)
  refine lv_if_eq (tgt := 9) hx hb d_Bt_stateAt_4 (by decide) (fun c_2 => ?_) (fun c_2 => ?_)
  · refine lv_iload_n hx hb d_Bt_stateAt_9 rfl (lv_at hl 1 rfl) ?_
    refine lv_aload_n hx hb d_Bt_stateAt_10 rfl (lv_at hl 0 rfl) ?_
    refine tw_geti (D := (dC, dI)) (C := R_Bt) (T := F_Bt) (N := 6) (ci := 9) (kd := 24) (ct := ct) hx hb htb i_Bt hown hK hP hO_0 m0 rfl rfl 2 (by decide) (htb (.fieldLink R_Bt 28 "WaterMen$Boat" "thereFrom" "I") tw_18) (fun _ h9 => h9) rfl d_Bt_stateAt_11 (fun x_3 e_3 b_3 => ?_)
    refine lv_icmp_ge (tgt := 21) hx hb d_Bt_stateAt_14 (by decide) (fun c_4 => ?_) (fun c_4 => ?_)
    · refine lv_iconst (v := 0) hx hb d_Bt_stateAt_21 (by decide +kernel) ?_
      exact W.iret (v := 0) hx hb hr (fun t ht hW => ⟨0, rfl, trivial, ht⟩) t_nil d_Bt_stateAt_22
    · refine lv_iconst (v := 1) hx hb d_Bt_stateAt_17 (by decide +kernel) ?_
      refine lv_goto (tgt := 22) hx hb d_Bt_stateAt_18 (by decide) ?_
      exact W.iret (v := 1) hx hb hr (fun t ht hW => ⟨1, rfl, trivial, ht⟩) t_nil d_Bt_stateAt_22
  · refine lv_iconst (v := 2) hx hb d_Bt_stateAt_7 (by decide +kernel) ?_
    exact W.iret (v := 2) hx hb hr (fun t ht hW => ⟨2, rfl, trivial, ht⟩) t_nil d_Bt_stateAt_8
def W_WM_stairs_t : List (Nat × Nat) := [(1, 4), (2, 1000)]
set_option maxHeartbeats 4000000 in
set_option maxRecDepth 100000 in
theorem c_WM_stairs_t (l : Launch) (dC : Nat → ClassId) (dI : Nat → Nat → Nat) (ct : Nat → ClassId) (L : List Nat) (f : TF) (hO_0 : Ok L f) (q0 : Nat) (m0 : q0 ∈ L ∧ tk f q0 = 0) (sz : Nat) (p_0 : Int32)  : Met l y_WM_stairs (.code y_WM_stairs b_WM_stairs 2 (some .int) :: TB) ({ frames := 1, cells := 0, slots := 0, locals := 21 }) (va_Pc [.ref q0, .int p_0] (PC dC dI (TW ct L f) (TT ct) sz)) (va_Qi (fun r (u : TSt) => Ok u.1 u.2 ∧ Ext W_WM_stairs_t L f u.1 u.2 ∧ (True)) (fun (u : TSt) t => va_P (dC, dI) vwCl (TW ct u.1 u.2) t.heap ∧ va_K (dC, dI) vwCl (TT ct) t ∧ va_D (va_A (TW ct L f) sz) (TW ct u.1 u.2)) (va_A (TW ct L f) sz)) 0 0 (va_A (TW ct L f) sz) := by
  refine Met.ofW (cc := b_WM_stairs) (maxL := 2) (ret := (some .int)) (by decide) rfl ?_
  intro p e s m args below meth c s₁ B hml hv
  obtain ⟨rfl, hsz, hP, hK, hD0, hN⟩ := hv
  have hx := B.exec
  have hb := B.bytes
  have hr := B.returns
  have hts := atoms_spec (ws := (.code y_WM_stairs b_WM_stairs 2 (some .int) :: TB)) B.pre
  have htb := fun w (h : w ∈ TB) => hts w (List.mem_cons_of_mem _ h)
  have hown : s.vm.findClass R_WM = some m.cls := findClass_of_methodNamed B.named
  have hlocks := B.notSynchronized
  have hl := lv_entry ([.ref q0, .int p_0]) (n := 2) (Nat.le_of_ble_eq_true rfl)
  rw [lg_entry_eq]
  generalize (lg_sl ([.ref q0, .int p_0]) ++ List.replicate (2 - (lg_sl ([.ref q0, .int p_0])).length) Slot.unset).toArray = ls at hl ⊢
  have hl : lv_has ls 2 [(0, .ref q0), (1, .int p_0)] := hl
  subst hsz
  have hD := hD0.self (sz := s.heap.size)
  obtain ⟨A, hAe⟩ : ∃ A, va_A (TW ct L f) s.heap.size = A := ⟨_, rfl⟩
  rw [hAe] at hD
  have hA : ∀ q : Nat, s.heap.size ≤ q → A q := fun q h => by rw [← hAe]; exact Or.inr h
  have hS : va_S A s.heap s.heap [] := va_S.rf
  have hA_0 : Ext [] L f L f := Ext.rf
  suffices hGo : ∀ (H : Heap) (locs : List Loc), va_P (dC, dI) vwCl (TW ct L f) H → va_S A s.heap H locs → W p l e (headSpec (.code y_WM_stairs b_WM_stairs 2 (some .int) :: TB) ({ frames := 1, cells := 0, slots := 0, locals := 21 })).room s m [.ref q0, .int p_0].toArray below meth c H locs 0 0 (MQ below (va_Qi (fun r (u : TSt) => Ok u.1 u.2 ∧ Ext W_WM_stairs_t L f u.1 u.2 ∧ (True)) (fun (u : TSt) t => va_P (dC, dI) vwCl (TW ct u.1 u.2) t.heap ∧ va_K (dC, dI) vwCl (TT ct) t ∧ va_D (va_A (TW ct L f) s.heap.size) (TW ct u.1 u.2)) (va_A (TW ct L f) s.heap.size)) [.ref q0, .int p_0].toArray s 0 0 (va_A (TW ct L f) s.heap.size)) (F0 m 0 ls []) from hGo _ _ hP hS
  clear hP hS
  intro H locs hP hS
  refine lv_iload_n hx hb d_WM_stairs_0 rfl (lv_at hl 1 rfl) ?_
  refine lv_if_lt (tgt := 21) hx hb d_WM_stairs_1 (by decide) (fun c_1 => ?_) (fun c_1 => ?_)
  · refine lv_iconst (v := (-1)) hx hb d_WM_stairs_21 (by decide +kernel) ?_
    refine W.widen (k := 0) (n := 0) (Nat.le_of_ble_eq_true rfl) (Nat.le_of_ble_eq_true rfl) ?_
    exact W.iret (v := (-1)) hx hb hr (fun t ht hW => ⟨⟨(-1), (L, f), rfl, ⟨hO_0, hA_0.mono (by decide +kernel), trivial⟩, by rw [ht]; exact hP, va_K.moved hW.alike hK, by rw [hAe]; exact hD⟩, by rw [hAe]; exact hS.F ht⟩) (by rw [hAe]; exact hS.2.2) d_WM_stairs_22
  · refine lv_iload_n hx hb d_WM_stairs_4 rfl (lv_at hl 1 rfl) ?_
    refine lv_bipush (v := 60) hx hb d_WM_stairs_5 (by decide +kernel) ?_
    refine lv_icmp_gt (tgt := 21) hx hb d_WM_stairs_7 (by decide) (fun c_2 => ?_) (fun c_2 => ?_)
    · refine lv_iconst (v := (-1)) hx hb d_WM_stairs_21 (by decide +kernel) ?_
      refine W.widen (k := 0) (n := 0) (Nat.le_of_ble_eq_true rfl) (Nat.le_of_ble_eq_true rfl) ?_
      exact W.iret (v := (-1)) hx hb hr (fun t ht hW => ⟨⟨(-1), (L, f), rfl, ⟨hO_0, hA_0.mono (by decide +kernel), trivial⟩, by rw [ht]; exact hP, va_K.moved hW.alike hK, by rw [hAe]; exact hD⟩, by rw [hAe]; exact hS.F ht⟩) (by rw [hAe]; exact hS.2.2) d_WM_stairs_22
    · refine lv_iload_n hx hb d_WM_stairs_10 rfl (lv_at hl 1 rfl) ?_
      refine lv_aload_n hx hb d_WM_stairs_11 rfl (lv_at hl 0 rfl) ?_
      refine tw_getr (D := (dC, dI)) (C := R_WM) (T := F_WM) (N := 13) (ci := 0) (kd := 0) (ct := ct) hx hb htb i_WM hown hK hP hO_0 m0 rfl rfl 0 (by decide) (htb (.fieldLink R_WM 12 "WaterMen" "river" "LWaterMen$River;") tw_19) (fun _ h9 => h9) rfl d_WM_stairs_12 (fun q_3 e_3 m_3 => ?_)
      refine vp_callSi (va_Run.run (va_runV (As := []) (rest := [.int p_0]) ⟨hx, hb, hml, hown, htb⟩ (c_Rv_highest_t l dC dI ct L f hO_0 q_3 m_3) (cwV 0 htb (gd_V tw_21 tw_22 tw_23 tw_9 tw_20) rfl rfl rfl (by decide +kernel) ⟨Nat.le_of_ble_eq_true rfl, Nat.le_of_ble_eq_true rfl⟩) ⟨pr_blind, tw_recv hK hP m_3 rfl rfl, pr_pre hP hK hN⟩ rfl rfl hl.1 rfl (lv_room (Nat.le_of_ble_eq_true rfl)) d_WM_stairs_15 ⟨Nat.le_of_ble_eq_true rfl, Nat.le_of_ble_eq_true rfl⟩)) (fun r_4 er_4 => ?_)
      clear er_4
      refine lv_icmp_gt (tgt := 23) hx hb d_WM_stairs_18 (by decide) (fun c_5 => ?_) (fun c_5 => ?_)
      · refine lv_aload_n hx hb d_WM_stairs_23 rfl (lv_at hl 0 rfl) ?_
        refine tw_getR (D := (dC, dI)) (C := R_WM) (T := F_WM) (N := 13) (ci := 0) (kd := 0) (ct := ct) hx hb htb i_WM hown hK hP m0 rfl rfl 0 e_3 (by decide) (htb (.fieldLink R_WM 12 "WaterMen" "river" "LWaterMen$River;") tw_19) (fun _ h9 => h9) rfl d_WM_stairs_24 ?_
        refine hb_tv (.ref q_3) rfl ?_
        refine tw_geti (D := (dC, dI)) (C := R_Rv) (T := F_Rv) (N := 6) (ci := 1) (kd := 1) (ct := ct) hx hb htb i_Rv hown hK hP hO_0 m_3 rfl rfl 4 (by decide) (htb (.fieldLink R_WM 64 "WaterMen$River" "stairCount" "I") tw_24) (fun _ h9 => h9) rfl d_WM_stairs_27 (fun x_6 e_6 b_6 => ?_)
        refine lv_bipush (v := 12) hx hb d_WM_stairs_30 (by decide +kernel) ?_
        refine lv_icmp_lt (tgt := 40) hx hb d_WM_stairs_32 (by decide) (fun c_7 => ?_) (fun c_7 => ?_)
        · refine lv_aload_n hx hb d_WM_stairs_40 rfl (lv_at hl 0 rfl) ?_
          refine tw_getR (D := (dC, dI)) (C := R_WM) (T := F_WM) (N := 13) (ci := 0) (kd := 0) (ct := ct) hx hb htb i_WM hown hK hP m0 rfl rfl 0 e_3 (by decide) (htb (.fieldLink R_WM 12 "WaterMen" "river" "LWaterMen$River;") tw_19) (fun _ h9 => h9) rfl d_WM_stairs_41 ?_
          refine hb_tv (.ref q_3) rfl ?_
          refine lv_iload_n hx hb d_WM_stairs_44 rfl (lv_at hl 1 rfl) ?_
          have hFc := hb_free hD hS hA
          refine va_calli (va_runV (As := [.int p_0]) (rest := []) ⟨hx, hb, hml, hown, htb⟩ (c_Rv_addStairs_t l dC dI ct L f hO_0 q_3 m_3 _ p_0 (by rw [show ti f q_3 4 = x_6 from e_6]; exact (show ¬ (11 < x_6) from by have e0 := b_6.1; rw [Int32.lt_iff_toInt_lt] at e0; have e1 := c_7; rw [Int32.lt_iff_toInt_lt] at e1; have z0 : (0 : Int32).toInt = 0 := (by decide +kernel); have z1 : (11 : Int32).toInt = 11 := (by decide +kernel); have z2 : (12 : Int32).toInt = 12 := (by decide +kernel); rw [Int32.lt_iff_toInt_lt]; omega))) (cwV 1 htb (gd_V tw_26 tw_27 tw_28 tw_9 tw_25) rfl rfl rfl (by decide +kernel) ⟨Nat.le_of_ble_eq_true rfl, Nat.le_of_ble_eq_true rfl⟩) ⟨pc_blind, tw_recv hK hP m_3 rfl rfl, pc_pre hP hK hD hN⟩ rfl rfl hl.1 rfl (lv_room (Nat.le_of_ble_eq_true rfl)) d_WM_stairs_45 ⟨Nat.le_of_ble_eq_true rfl, Nat.le_of_ble_eq_true rfl⟩) hS (fun q _ h => hFc q h) hFc (fun r_8 u t H locs ht hvm er hB hz1 hk1 hS => ?_)
          obtain ⟨L_1, f_1⟩ := u
          obtain ⟨hO_1, hE_1, er⟩ := er
          obtain ⟨hP, hK1, hD1⟩ := hB
          rw [ht] at hP
          have hP : va_P (dC, dI) vwCl (TW ct L_1 f_1) H := hP
          have hD : va_D A (TW ct L_1 f_1) := hD1.weaken (fun _ q _ h => hFc q.1 h)
          have hO_1 : Ok L_1 f_1 := hO_1
          have hE_1 : Ext W_Rv_addStairs_t L f L_1 f_1 := hE_1
          clear hK1 hD1 ht hvm hz1 hk1
          have hA_1 := hA_0.trans hE_1
          clear er
          refine W.widen (k := 0) (n := 0) (Nat.le_of_ble_eq_true rfl) (Nat.le_of_ble_eq_true rfl) ?_
          exact W.iret (v := r_8) hx hb hr (fun t ht hW => ⟨⟨r_8, (L_1, f_1), rfl, ⟨hO_1, hA_1.mono (by decide +kernel), trivial⟩, by rw [ht]; exact hP, va_K.moved hW.alike hK, by rw [hAe]; exact hD⟩, by rw [hAe]; exact hS.F ht⟩) (by rw [hAe]; exact hS.2.2) d_WM_stairs_48
        · refine lv_bipush (v := (-3)) hx hb d_WM_stairs_35 (by decide +kernel) ?_
          refine lv_goto (tgt := 48) hx hb d_WM_stairs_37 (by decide) ?_
          refine W.widen (k := 0) (n := 0) (Nat.le_of_ble_eq_true rfl) (Nat.le_of_ble_eq_true rfl) ?_
          exact W.iret (v := (-3)) hx hb hr (fun t ht hW => ⟨⟨(-3), (L, f), rfl, ⟨hO_0, hA_0.mono (by decide +kernel), trivial⟩, by rw [ht]; exact hP, va_K.moved hW.alike hK, by rw [hAe]; exact hD⟩, by rw [hAe]; exact hS.F ht⟩) (by rw [hAe]; exact hS.2.2) d_WM_stairs_48
      · refine lv_iconst (v := (-1)) hx hb d_WM_stairs_21 (by decide +kernel) ?_
        refine W.widen (k := 0) (n := 0) (Nat.le_of_ble_eq_true rfl) (Nat.le_of_ble_eq_true rfl) ?_
        exact W.iret (v := (-1)) hx hb hr (fun t ht hW => ⟨⟨(-1), (L, f), rfl, ⟨hO_0, hA_0.mono (by decide +kernel), trivial⟩, by rw [ht]; exact hP, va_K.moved hW.alike hK, by rw [hAe]; exact hD⟩, by rw [hAe]; exact hS.F ht⟩) (by rw [hAe]; exact hS.2.2) d_WM_stairs_22
def W_WM_bridge_t : List (Nat × Nat) := [(1, 5)]
set_option maxHeartbeats 4000000 in
set_option maxRecDepth 100000 in
theorem c_WM_bridge_t (l : Launch) (dC : Nat → ClassId) (dI : Nat → Nat → Nat) (ct : Nat → ClassId) (L : List Nat) (f : TF) (hO_0 : Ok L f) (q0 : Nat) (m0 : q0 ∈ L ∧ tk f q0 = 0) (sz : Nat) (p_0 : Int32)  : Met l y_WM_bridge (.code y_WM_bridge b_WM_bridge 2 (some .int) :: TB) ({ frames := 0, cells := 0, slots := 0, locals := 0 }) (va_Pc [.ref q0, .int p_0] (PC dC dI (TW ct L f) (TT ct) sz)) (va_Qi (fun r (u : TSt) => Ok u.1 u.2 ∧ Ext W_WM_bridge_t L f u.1 u.2 ∧ (True)) (fun (u : TSt) t => va_P (dC, dI) vwCl (TW ct u.1 u.2) t.heap ∧ va_K (dC, dI) vwCl (TT ct) t ∧ va_D (va_A (TW ct L f) sz) (TW ct u.1 u.2)) (va_A (TW ct L f) sz)) 0 0 (va_A (TW ct L f) sz) := by
  refine Met.ofW (cc := b_WM_bridge) (maxL := 2) (ret := (some .int)) (by decide) rfl ?_
  intro p e s m args below meth c s₁ B hml hv
  obtain ⟨rfl, hsz, hP, hK, hD0, hN⟩ := hv
  have hx := B.exec
  have hb := B.bytes
  have hr := B.returns
  have hts := atoms_spec (ws := (.code y_WM_bridge b_WM_bridge 2 (some .int) :: TB)) B.pre
  have htb := fun w (h : w ∈ TB) => hts w (List.mem_cons_of_mem _ h)
  have hown : s.vm.findClass R_WM = some m.cls := findClass_of_methodNamed B.named
  have hlocks := B.notSynchronized
  have hl := lv_entry ([.ref q0, .int p_0]) (n := 2) (Nat.le_of_ble_eq_true rfl)
  rw [lg_entry_eq]
  generalize (lg_sl ([.ref q0, .int p_0]) ++ List.replicate (2 - (lg_sl ([.ref q0, .int p_0])).length) Slot.unset).toArray = ls at hl ⊢
  have hl : lv_has ls 2 [(0, .ref q0), (1, .int p_0)] := hl
  subst hsz
  have hD := hD0.self (sz := s.heap.size)
  obtain ⟨A, hAe⟩ : ∃ A, va_A (TW ct L f) s.heap.size = A := ⟨_, rfl⟩
  rw [hAe] at hD
  have hA : ∀ q : Nat, s.heap.size ≤ q → A q := fun q h => by rw [← hAe]; exact Or.inr h
  have hS : va_S A s.heap s.heap [] := va_S.rf
  have hA_0 : Ext [] L f L f := Ext.rf
  suffices hGo : ∀ (H : Heap) (locs : List Loc), va_P (dC, dI) vwCl (TW ct L f) H → va_S A s.heap H locs → W p l e (headSpec (.code y_WM_bridge b_WM_bridge 2 (some .int) :: TB) ({ frames := 0, cells := 0, slots := 0, locals := 0 })).room s m [.ref q0, .int p_0].toArray below meth c H locs 0 0 (MQ below (va_Qi (fun r (u : TSt) => Ok u.1 u.2 ∧ Ext W_WM_bridge_t L f u.1 u.2 ∧ (True)) (fun (u : TSt) t => va_P (dC, dI) vwCl (TW ct u.1 u.2) t.heap ∧ va_K (dC, dI) vwCl (TT ct) t ∧ va_D (va_A (TW ct L f) s.heap.size) (TW ct u.1 u.2)) (va_A (TW ct L f) s.heap.size)) [.ref q0, .int p_0].toArray s 0 0 (va_A (TW ct L f) s.heap.size)) (F0 m 0 ls []) from hGo _ _ hP hS
  clear hP hS
  intro H locs hP hS
  refine lv_iload_n hx hb d_WM_bridge_0 rfl (lv_at hl 1 rfl) ?_
  refine lv_iconst (v := (-1)) hx hb d_WM_bridge_1 (by decide +kernel) ?_
  refine lv_icmp_eq (tgt := 24) hx hb d_WM_bridge_2 (by decide) (fun c_1 => ?_) (fun c_1 => ?_)
  · refine lv_aload_n hx hb d_WM_bridge_24 rfl (lv_at hl 0 rfl) ?_
    refine tw_getr (D := (dC, dI)) (C := R_WM) (T := F_WM) (N := 13) (ci := 0) (kd := 0) (ct := ct) hx hb htb i_WM hown hK hP hO_0 m0 rfl rfl 0 (by decide) (htb (.fieldLink R_WM 12 "WaterMen" "river" "LWaterMen$River;") tw_19) (fun _ h9 => h9) rfl d_WM_bridge_25 (fun q_2 e_2 m_2 => ?_)
    refine lv_iload_n hx hb d_WM_bridge_28 rfl (lv_at hl 1 rfl) ?_
    refine tw_puti (v := p_0) (D := (dC, dI)) (C := R_Rv) (T := F_Rv) (N := 6) (ci := 1) (kd := 1) (ct := ct) (ty := .int) hx hb htb i_Rv t_Rv t_Rv_ok n_Rv hown hK hP hD hS hO_0 m_2 rfl rfl 5 (by decide) (htb (.fieldLink R_WM 72 "WaterMen$River" "bridgeAbove" "I") tw_29) (fun _ h9 => h9) rfl (by decide +kernel) rfl rfl rfl (i32_full _) d_WM_bridge_29 (fun f_1 H locs hP hD hS hO_1 hE_1 w_3 => ?_)
    have hA_1 := hA_0.trans hE_1
    refine lv_iconst (v := 1) hx hb d_WM_bridge_32 (by decide +kernel) ?_
    refine W.widen (k := 0) (n := 0) (Nat.le_of_ble_eq_true rfl) (Nat.le_of_ble_eq_true rfl) ?_
    exact W.iret (v := 1) hx hb hr (fun t ht hW => ⟨⟨1, (L, f_1), rfl, ⟨hO_1, hA_1.mono (by decide +kernel), trivial⟩, by rw [ht]; exact hP, va_K.moved hW.alike hK, by rw [hAe]; exact hD⟩, by rw [hAe]; exact hS.F ht⟩) (by rw [hAe]; exact hS.2.2) d_WM_bridge_33
  · refine lv_iload_n hx hb d_WM_bridge_5 rfl (lv_at hl 1 rfl) ?_
    refine lv_if_lt (tgt := 22) hx hb d_WM_bridge_6 (by decide) (fun c_4 => ?_) (fun c_4 => ?_)
    · refine lv_iconst (v := (-1)) hx hb d_WM_bridge_22 (by decide +kernel) ?_
      refine W.widen (k := 0) (n := 0) (Nat.le_of_ble_eq_true rfl) (Nat.le_of_ble_eq_true rfl) ?_
      exact W.iret (v := (-1)) hx hb hr (fun t ht hW => ⟨⟨(-1), (L, f), rfl, ⟨hO_0, hA_0.mono (by decide +kernel), trivial⟩, by rw [ht]; exact hP, va_K.moved hW.alike hK, by rw [hAe]; exact hD⟩, by rw [hAe]; exact hS.F ht⟩) (by rw [hAe]; exact hS.2.2) d_WM_bridge_23
    · refine lv_iload_n hx hb d_WM_bridge_9 rfl (lv_at hl 1 rfl) ?_
      refine lv_aload_n hx hb d_WM_bridge_10 rfl (lv_at hl 0 rfl) ?_
      refine tw_getr (D := (dC, dI)) (C := R_WM) (T := F_WM) (N := 13) (ci := 0) (kd := 0) (ct := ct) hx hb htb i_WM hown hK hP hO_0 m0 rfl rfl 0 (by decide) (htb (.fieldLink R_WM 12 "WaterMen" "river" "LWaterMen$River;") tw_19) (fun _ h9 => h9) rfl d_WM_bridge_11 (fun q_5 e_5 m_5 => ?_)
      refine tw_geti (D := (dC, dI)) (C := R_Rv) (T := F_Rv) (N := 6) (ci := 1) (kd := 1) (ct := ct) hx hb htb i_Rv hown hK hP hO_0 m_5 rfl rfl 4 (by decide) (htb (.fieldLink R_WM 64 "WaterMen$River" "stairCount" "I") tw_24) (fun _ h9 => h9) rfl d_WM_bridge_14 (fun x_6 e_6 b_6 => ?_)
      refine lv_iconst (v := 1) hx hb d_WM_bridge_17 (by decide +kernel) ?_
      refine lv_isub hx hb d_WM_bridge_18 ?_
      refine lv_icmp_lt (tgt := 24) hx hb d_WM_bridge_19 (by decide) (fun c_7 => ?_) (fun c_7 => ?_)
      · refine lv_aload_n hx hb d_WM_bridge_24 rfl (lv_at hl 0 rfl) ?_
        refine tw_getR (D := (dC, dI)) (C := R_WM) (T := F_WM) (N := 13) (ci := 0) (kd := 0) (ct := ct) hx hb htb i_WM hown hK hP m0 rfl rfl 0 e_5 (by decide) (htb (.fieldLink R_WM 12 "WaterMen" "river" "LWaterMen$River;") tw_19) (fun _ h9 => h9) rfl d_WM_bridge_25 ?_
        refine hb_tv (.ref q_5) rfl ?_
        refine lv_iload_n hx hb d_WM_bridge_28 rfl (lv_at hl 1 rfl) ?_
        refine tw_puti (v := p_0) (D := (dC, dI)) (C := R_Rv) (T := F_Rv) (N := 6) (ci := 1) (kd := 1) (ct := ct) (ty := .int) hx hb htb i_Rv t_Rv t_Rv_ok n_Rv hown hK hP hD hS hO_0 m_5 rfl rfl 5 (by decide) (htb (.fieldLink R_WM 72 "WaterMen$River" "bridgeAbove" "I") tw_29) (fun _ h9 => h9) rfl (by decide +kernel) rfl rfl rfl (i32_full _) d_WM_bridge_29 (fun f_1 H locs hP hD hS hO_1 hE_1 w_8 => ?_)
        have hA_1 := hA_0.trans hE_1
        refine lv_iconst (v := 1) hx hb d_WM_bridge_32 (by decide +kernel) ?_
        refine W.widen (k := 0) (n := 0) (Nat.le_of_ble_eq_true rfl) (Nat.le_of_ble_eq_true rfl) ?_
        exact W.iret (v := 1) hx hb hr (fun t ht hW => ⟨⟨1, (L, f_1), rfl, ⟨hO_1, hA_1.mono (by decide +kernel), trivial⟩, by rw [ht]; exact hP, va_K.moved hW.alike hK, by rw [hAe]; exact hD⟩, by rw [hAe]; exact hS.F ht⟩) (by rw [hAe]; exact hS.2.2) d_WM_bridge_33
      · refine lv_iconst (v := (-1)) hx hb d_WM_bridge_22 (by decide +kernel) ?_
        refine W.widen (k := 0) (n := 0) (Nat.le_of_ble_eq_true rfl) (Nat.le_of_ble_eq_true rfl) ?_
        exact W.iret (v := (-1)) hx hb hr (fun t ht hW => ⟨⟨(-1), (L, f), rfl, ⟨hO_0, hA_0.mono (by decide +kernel), trivial⟩, by rw [ht]; exact hP, va_K.moved hW.alike hK, by rw [hAe]; exact hD⟩, by rw [hAe]; exact hS.F ht⟩) (by rw [hAe]; exact hS.2.2) d_WM_bridge_23
