def f_WM_isDay  (p_0 : Int32) : Int32 := if p_0 < 0 then (0) else (if 500 ≤ p_0 then (0) else (1))
set_option maxHeartbeats 4000000 in
set_option maxRecDepth 100000 in
theorem c_WM_isDay (l : Launch)  (p_0 : Int32)  : Met l y_WM_isDay (.code y_WM_isDay b_WM_isDay 1 (some .boolean) :: TB) ({ frames := 0, cells := 0, slots := 0, locals := 0 }) (va_Pc [.int p_0] (fun _ => True)) (vp_Si (fun r => r = f_WM_isDay p_0)) 0 0 (fun _ => False) := by
  refine Met.ofW (cc := b_WM_isDay) (maxL := 1) (ret := (some .boolean)) (by decide) rfl ?_
  intro p e s m args below meth c s₁ B hml hv
  obtain ⟨rfl, -⟩ := hv
  have hx := B.exec
  have hb := B.bytes
  have hr := B.returns
  have hts := atoms_spec (ws := (.code y_WM_isDay b_WM_isDay 1 (some .boolean) :: TB)) B.pre
  have htb := fun w (h : w ∈ TB) => hts w (List.mem_cons_of_mem _ h)
  have hown : s.vm.findClass R_WM = some m.cls := findClass_of_methodNamed B.named
  have hlocks := B.notSynchronized
  have hl := lv_entry ([.int p_0]) (n := 1) (Nat.le_of_ble_eq_true rfl)
  rw [lg_entry_eq]
  generalize (lg_sl ([.int p_0]) ++ List.replicate (1 - (lg_sl ([.int p_0])).length) Slot.unset).toArray = ls at hl ⊢
  have hl : lv_has ls 1 [(0, .int p_0)] := hl
  refine lv_iload_n hx hb d_WM_isDay_0 rfl (lv_at hl 0 rfl) ?_
  refine lv_if_lt (tgt := 15) hx hb d_WM_isDay_1 (by decide) (fun c_1 => ?_) (fun c_1 => ?_)
  · refine lv_iconst (v := 0) hx hb d_WM_isDay_15 (by decide +kernel) ?_
    exact W.zret (v := 0) hx hb hr (by decide +kernel) (fun t ht hW => ⟨0, rfl, (by unfold f_WM_isDay; rw [if_pos c_1]), ht⟩) t_nil d_WM_isDay_16
  · refine lv_iload_n hx hb d_WM_isDay_4 rfl (lv_at hl 0 rfl) ?_
    refine lv_sipush (v := 500) hx hb d_WM_isDay_5 (by decide +kernel) ?_
    refine lv_icmp_ge (tgt := 15) hx hb d_WM_isDay_8 (by decide) (fun c_2 => ?_) (fun c_2 => ?_)
    · refine lv_iconst (v := 0) hx hb d_WM_isDay_15 (by decide +kernel) ?_
      exact W.zret (v := 0) hx hb hr (by decide +kernel) (fun t ht hW => ⟨0, rfl, (by unfold f_WM_isDay; rw [if_neg c_1, if_pos c_2]), ht⟩) t_nil d_WM_isDay_16
    · refine lv_iconst (v := 1) hx hb d_WM_isDay_11 (by decide +kernel) ?_
      refine lv_goto (tgt := 16) hx hb d_WM_isDay_12 (by decide) ?_
      exact W.zret (v := 1) hx hb hr (by decide +kernel) (fun t ht hW => ⟨1, rfl, (by unfold f_WM_isDay; rw [if_neg c_1, if_neg c_2]), ht⟩) t_nil d_WM_isDay_16
set_option maxHeartbeats 4000000 in
set_option maxRecDepth 100000 in
theorem c_Rv_isFrozen_t (l : Launch) (dC : Nat → ClassId) (dI : Nat → Nat → Nat) (ct : Nat → ClassId) (L : List Nat) (f : TF) (hO_0 : Ok L f) (q0 : Nat) (m0 : q0 ∈ L ∧ tk f q0 = 1) (p_0 : Int32)   : Met l y_Rv_isFrozen (.code y_Rv_isFrozen b_Rv_isFrozen 2 (some .boolean) :: TB) ({ frames := 1, cells := 0, slots := 0, locals := 20 }) (va_Pc [.ref q0, .int p_0] (PR dC dI (TW ct L f) (TT ct))) (vp_Si (fun r => (r = 0 ∧ True) ∨ (r = 1 ∧ True))) 0 0 (fun _ => False) := by
  refine Met.ofW (cc := b_Rv_isFrozen) (maxL := 2) (ret := (some .boolean)) (by decide) rfl ?_
  intro p e s m args below meth c s₁ B hml hv
  obtain ⟨rfl, hP, hK, hN⟩ := hv
  have hx := B.exec
  have hb := B.bytes
  have hr := B.returns
  have hts := atoms_spec (ws := (.code y_Rv_isFrozen b_Rv_isFrozen 2 (some .boolean) :: TB)) B.pre
  have htb := fun w (h : w ∈ TB) => hts w (List.mem_cons_of_mem _ h)
  have hown : s.vm.findClass R_Rv = some m.cls := findClass_of_methodNamed B.named
  have hlocks := B.notSynchronized
  have hl := lv_entry ([.ref q0, .int p_0]) (n := 2) (Nat.le_of_ble_eq_true rfl)
  rw [lg_entry_eq]
  generalize (lg_sl ([.ref q0, .int p_0]) ++ List.replicate (2 - (lg_sl ([.ref q0, .int p_0])).length) Slot.unset).toArray = ls at hl ⊢
  have hl : lv_has ls 2 [(0, .ref q0), (1, .int p_0)] := hl
  refine lv_iload_n hx hb d_Rv_isFrozen_0 rfl (lv_at hl 1 rfl) ?_
  refine vp_callSi (va_Run.run (va_runSN (As := [.int p_0]) (rest := []) ⟨hx, hb, hml, hown, htb⟩ (c_WM_isDay l p_0) ⟨va_cnB 1 htb (gd_I tw_24) rfl rfl rfl (hN.1 _ nw_5) (htb (.initialized R_WM) tw_25) (by decide +kernel) ⟨Nat.le_of_ble_eq_true rfl, Nat.le_of_ble_eq_true rfl⟩, (htb (.static y_WM_isDay) tw_26), trivial⟩ ⟨fun _ _ _ _ h => h, fun U _ _ => ⟨rfl, trivial⟩⟩ rfl rfl hl.1 rfl (lv_room (Nat.le_of_ble_eq_true rfl)) d_Rv_isFrozen_1 ⟨Nat.le_of_ble_eq_true rfl, Nat.le_of_ble_eq_true rfl⟩)) (fun r er => ?_)
  subst er
  by_cases c_2 : p_0 < 0
  · refine hb_ti 0 (by unfold f_WM_isDay; rw [if_pos c_2]; first | done | rfl) ?_
    refine lv_if_eq (tgt := 20) hx hb d_Rv_isFrozen_4 (by decide) (fun _ => ?_) (fun h => absurd (by decide +kernel) h)
    refine lv_iconst (v := 0) hx hb d_Rv_isFrozen_20 (by decide +kernel) ?_
    exact W.zret (v := 0) hx hb hr (by decide +kernel) (fun t ht hW => ⟨0, rfl, (Or.inl ⟨rfl, trivial⟩), ht⟩) t_nil d_Rv_isFrozen_21
  · by_cases c_3 : 500 ≤ p_0
    · refine hb_ti 0 (by unfold f_WM_isDay; rw [if_neg c_2, if_pos c_3]; first | done | rfl) ?_
      refine lv_if_eq (tgt := 20) hx hb d_Rv_isFrozen_4 (by decide) (fun _ => ?_) (fun h => absurd (by decide +kernel) h)
      refine lv_iconst (v := 0) hx hb d_Rv_isFrozen_20 (by decide +kernel) ?_
      exact W.zret (v := 0) hx hb hr (by decide +kernel) (fun t ht hW => ⟨0, rfl, (Or.inl ⟨rfl, trivial⟩), ht⟩) t_nil d_Rv_isFrozen_21
    · refine hb_ti 1 (by unfold f_WM_isDay; rw [if_neg c_2, if_neg c_3]; first | done | rfl) ?_
      refine lv_if_eq (tgt := 20) hx hb d_Rv_isFrozen_4 (by decide) (fun h => absurd h (by decide +kernel)) (fun _ => ?_)
      refine lv_aload_n hx hb d_Rv_isFrozen_7 rfl (lv_at hl 0 rfl) ?_
      refine tw_getr (D := (dC, dI)) (C := R_Rv) (T := F_Rv) (N := 6) (ci := 1) (kd := 1) (ct := ct) hx hb htb i_Rv hown hK hP hO_0 m0 rfl rfl 3 (by decide) (htb (.fieldLink R_Rv 23 "WaterMen$River" "frozen" "[Z") tw_27) (fun _ h9 => h9) rfl d_Rv_isFrozen_8 (fun q_4 e_4 m_4 => ?_)
      refine lv_iload_n hx hb d_Rv_isFrozen_11 rfl (lv_at hl 1 rfl) ?_
      refine tw_aldZ (ct := ct) hx hb hK hP hO_0 m_4 rfl (hb_in c_2 c_3 (by decide +kernel)) d_Rv_isFrozen_12 (fun x_5 e_5 b_5 => ?_)
      refine lv_if_eq (tgt := 20) hx hb d_Rv_isFrozen_13 (by decide) (fun c_6 => ?_) (fun c_6 => ?_)
      · refine lv_iconst (v := 0) hx hb d_Rv_isFrozen_20 (by decide +kernel) ?_
        exact W.zret (v := 0) hx hb hr (by decide +kernel) (fun t ht hW => ⟨0, rfl, (Or.inl ⟨rfl, trivial⟩), ht⟩) t_nil d_Rv_isFrozen_21
      · refine lv_iconst (v := 1) hx hb d_Rv_isFrozen_16 (by decide +kernel) ?_
        refine lv_goto (tgt := 21) hx hb d_Rv_isFrozen_17 (by decide) ?_
        exact W.zret (v := 1) hx hb hr (by decide +kernel) (fun t ht hW => ⟨1, rfl, (Or.inr ⟨rfl, trivial⟩), ht⟩) t_nil d_Rv_isFrozen_21
set_option maxHeartbeats 4000000 in
set_option maxRecDepth 100000 in
theorem c_Rv_hasStairs_t (l : Launch) (dC : Nat → ClassId) (dI : Nat → Nat → Nat) (ct : Nat → ClassId) (L : List Nat) (f : TF) (hO_0 : Ok L f) (q0 : Nat) (m0 : q0 ∈ L ∧ tk f q0 = 1) (p_0 : Int32)   : Met l y_Rv_hasStairs (.code y_Rv_hasStairs b_Rv_hasStairs 2 (some .boolean) :: TB) ({ frames := 0, cells := 0, slots := 0, locals := 0 }) (va_Pc [.ref q0, .int p_0] (PR dC dI (TW ct L f) (TT ct))) (vp_Si (fun r => (r = 0 ∧ True) ∨ (r = 1 ∧ ¬ (p_0 < 0) ∧ ¬ (11 < p_0) ∧ True))) 0 0 (fun _ => False) := by
  refine Met.ofW (cc := b_Rv_hasStairs) (maxL := 2) (ret := (some .boolean)) (by decide) rfl ?_
  intro p e s m args below meth c s₁ B hml hv
  obtain ⟨rfl, hP, hK, hN⟩ := hv
  have hx := B.exec
  have hb := B.bytes
  have hr := B.returns
  have hts := atoms_spec (ws := (.code y_Rv_hasStairs b_Rv_hasStairs 2 (some .boolean) :: TB)) B.pre
  have htb := fun w (h : w ∈ TB) => hts w (List.mem_cons_of_mem _ h)
  have hown : s.vm.findClass R_Rv = some m.cls := findClass_of_methodNamed B.named
  have hlocks := B.notSynchronized
  have hl := lv_entry ([.ref q0, .int p_0]) (n := 2) (Nat.le_of_ble_eq_true rfl)
  rw [lg_entry_eq]
  generalize (lg_sl ([.ref q0, .int p_0]) ++ List.replicate (2 - (lg_sl ([.ref q0, .int p_0])).length) Slot.unset).toArray = ls at hl ⊢
  have hl : lv_has ls 2 [(0, .ref q0), (1, .int p_0)] := hl
  refine lv_iload_n hx hb d_Rv_hasStairs_0 rfl (lv_at hl 1 rfl) ?_
  refine lv_if_lt (tgt := 16) hx hb d_Rv_hasStairs_1 (by decide) (fun c_1 => ?_) (fun c_1 => ?_)
  · refine lv_iconst (v := 0) hx hb d_Rv_hasStairs_16 (by decide +kernel) ?_
    exact W.zret (v := 0) hx hb hr (by decide +kernel) (fun t ht hW => ⟨0, rfl, (Or.inl ⟨rfl, trivial⟩), ht⟩) t_nil d_Rv_hasStairs_17
  · refine lv_iload_n hx hb d_Rv_hasStairs_4 rfl (lv_at hl 1 rfl) ?_
    refine lv_aload_n hx hb d_Rv_hasStairs_5 rfl (lv_at hl 0 rfl) ?_
    refine tw_geti (D := (dC, dI)) (C := R_Rv) (T := F_Rv) (N := 6) (ci := 1) (kd := 1) (ct := ct) hx hb htb i_Rv hown hK hP hO_0 m0 rfl rfl 4 (by decide) (htb (.fieldLink R_Rv 35 "WaterMen$River" "stairCount" "I") tw_28) (fun _ h9 => h9) rfl d_Rv_hasStairs_6 (fun x_2 e_2 b_2 => ?_)
    refine lv_icmp_ge (tgt := 16) hx hb d_Rv_hasStairs_9 (by decide) (fun c_3 => ?_) (fun c_3 => ?_)
    · refine lv_iconst (v := 0) hx hb d_Rv_hasStairs_16 (by decide +kernel) ?_
      exact W.zret (v := 0) hx hb hr (by decide +kernel) (fun t ht hW => ⟨0, rfl, (Or.inl ⟨rfl, trivial⟩), ht⟩) t_nil d_Rv_hasStairs_17
    · refine lv_iconst (v := 1) hx hb d_Rv_hasStairs_12 (by decide +kernel) ?_
      refine lv_goto (tgt := 17) hx hb d_Rv_hasStairs_13 (by decide) ?_
      exact W.zret (v := 1) hx hb hr (by decide +kernel) (fun t ht hW => ⟨1, rfl, (Or.inr ⟨rfl, c_1, (show ¬ (11 < p_0) from ((fun (a_0 : Int32) (a_1 : Int32) (k_0 : ¬ (a_1 ≤ a_0)) (k_1 : ¬ (12 < a_1)) => (show ¬ (11 < a_0) from by have z0 : (11 : Int32).toInt = 11 := (by decide +kernel); have z1 : (12 : Int32).toInt = 12 := (by decide +kernel); have r0 := fb_rng (a_0); have r1 := fb_rng (a_1); have e0 := k_0; rw [Int32.le_iff_toInt_le] at e0; have e1 := k_1; rw [Int32.lt_iff_toInt_lt, z1] at e1; rw [Int32.lt_iff_toInt_lt, z0]; omega)) p_0 x_2 c_3 b_2.2)), trivial⟩), ht⟩) t_nil d_Rv_hasStairs_17
set_option maxHeartbeats 4000000 in
set_option maxRecDepth 100000 in
theorem c_Rv_highest_t (l : Launch) (dC : Nat → ClassId) (dI : Nat → Nat → Nat) (ct : Nat → ClassId) (L : List Nat) (f : TF) (hO_0 : Ok L f) (q0 : Nat) (m0 : q0 ∈ L ∧ tk f q0 = 1)    : Met l y_Rv_highest (.code y_Rv_highest b_Rv_highest 1 (some .int) :: TB) ({ frames := 0, cells := 0, slots := 0, locals := 0 }) (va_Pc [.ref q0] (PR dC dI (TW ct L f) (TT ct))) (vp_Si (fun r => True)) 0 0 (fun _ => False) := by
  refine Met.ofW (cc := b_Rv_highest) (maxL := 1) (ret := (some .int)) (by decide) rfl ?_
  intro p e s m args below meth c s₁ B hml hv
  obtain ⟨rfl, hP, hK, hN⟩ := hv
  have hx := B.exec
  have hb := B.bytes
  have hr := B.returns
  have hts := atoms_spec (ws := (.code y_Rv_highest b_Rv_highest 1 (some .int) :: TB)) B.pre
  have htb := fun w (h : w ∈ TB) => hts w (List.mem_cons_of_mem _ h)
  have hown : s.vm.findClass R_Rv = some m.cls := findClass_of_methodNamed B.named
  have hlocks := B.notSynchronized
  have hl := lv_entry ([.ref q0]) (n := 1) (Nat.le_of_ble_eq_true rfl)
  rw [lg_entry_eq]
  generalize (lg_sl ([.ref q0]) ++ List.replicate (1 - (lg_sl ([.ref q0])).length) Slot.unset).toArray = ls at hl ⊢
  have hl : lv_has ls 1 [(0, .ref q0)] := hl
  refine lv_aload_n hx hb d_Rv_highest_0 rfl (lv_at hl 0 rfl) ?_
  refine tw_geti (D := (dC, dI)) (C := R_Rv) (T := F_Rv) (N := 6) (ci := 1) (kd := 1) (ct := ct) hx hb htb i_Rv hown hK hP hO_0 m0 rfl rfl 4 (by decide) (htb (.fieldLink R_Rv 35 "WaterMen$River" "stairCount" "I") tw_28) (fun _ h9 => h9) rfl d_Rv_highest_1 (fun x_1 e_1 b_1 => ?_)
  refine lv_if_ne (tgt := 11) hx hb d_Rv_highest_4 (by decide) (fun c_2 => ?_) (fun c_2 => ?_)
  · refine lv_aload_n hx hb d_Rv_highest_11 rfl (lv_at hl 0 rfl) ?_
    refine tw_getr (D := (dC, dI)) (C := R_Rv) (T := F_Rv) (N := 6) (ci := 1) (kd := 1) (ct := ct) hx hb htb i_Rv hown hK hP hO_0 m0 rfl rfl 0 (by decide) (htb (.fieldLink R_Rv 9 "WaterMen$River" "milesUp" "[I") tw_29) (fun _ h9 => h9) rfl d_Rv_highest_12 (fun q_3 e_3 m_3 => ?_)
    refine lv_aload_n hx hb d_Rv_highest_15 rfl (lv_at hl 0 rfl) ?_
    refine tw_getI (x := x_1) (D := (dC, dI)) (C := R_Rv) (T := F_Rv) (N := 6) (ci := 1) (kd := 1) (ct := ct) hx hb htb i_Rv hown hK hP m0 rfl rfl 4 e_1 (by decide) (htb (.fieldLink R_Rv 35 "WaterMen$River" "stairCount" "I") tw_28) (fun _ h9 => h9) rfl d_Rv_highest_16 ?_
    refine lv_iconst (v := 1) hx hb d_Rv_highest_19 (by decide +kernel) ?_
    refine lv_isub hx hb d_Rv_highest_20 ?_
    refine tw_aldI (ct := ct) hx hb hK hP hO_0 m_3 rfl ((fun (a_0 : Int32) (k_0 : ¬ (a_0 < 0)) (k_1 : ¬ (12 < a_0)) (k_2 : ¬ (a_0 = 0)) => (show vp_in ((a_0 - 1)) 12 from by have z0 : (0 : Int32).toInt = 0 := (by decide +kernel); have z1 : (1 : Int32).toInt = 1 := (by decide +kernel); have z2 : (12 : Int32).toInt = 12 := (by decide +kernel); have r0 := fb_rng (a_0); have e0 := k_0; rw [Int32.lt_iff_toInt_lt, z0] at e0; have e1 := k_1; rw [Int32.lt_iff_toInt_lt, z2] at e1; have e2 := k_2; rw [← Int32.toInt_inj, z0] at e2; obtain ⟨n_0, hn_0, s0⟩ := nd_sub (x := (a_0)) (y := (1 : Int32)) (by (try rw [z1]); omega) (by (try rw [z1]); omega); rw [z1] at s0; rw [hn_0, vp_in_iff]; omega)) x_1 b_1.1 b_1.2 c_2) d_Rv_highest_21 (fun x_4 e_4 b_4 => ?_)
    exact W.iret (v := x_4) hx hb hr (fun t ht hW => ⟨x_4, rfl, trivial, ht⟩) t_nil d_Rv_highest_22
  · refine lv_iconst (v := (-1)) hx hb d_Rv_highest_7 (by decide +kernel) ?_
    refine lv_goto (tgt := 22) hx hb d_Rv_highest_8 (by decide) ?_
    exact W.iret (v := (-1)) hx hb hr (fun t ht hW => ⟨(-1), rfl, trivial, ht⟩) t_nil d_Rv_highest_22
def W_Rv_addStairs_t : List (Nat × Nat) := [(1, 4), (2, 1000)]
set_option maxHeartbeats 4000000 in
set_option maxRecDepth 100000 in
theorem c_Rv_addStairs_t (l : Launch) (dC : Nat → ClassId) (dI : Nat → Nat → Nat) (ct : Nat → ClassId) (L : List Nat) (f : TF) (hO_0 : Ok L f) (q0 : Nat) (m0 : q0 ∈ L ∧ tk f q0 = 1) (sz : Nat) (p_0 : Int32)  (as_0 : ¬ (11 < (ti f q0 4))) : Met l y_Rv_addStairs (.code y_Rv_addStairs b_Rv_addStairs 2 (some .int) :: TB) ({ frames := 0, cells := 0, slots := 0, locals := 0 }) (va_Pc [.ref q0, .int p_0] (PC dC dI (TW ct L f) (TT ct) sz)) (va_Qi (fun r (u : TSt) => Ok u.1 u.2 ∧ Ext W_Rv_addStairs_t L f u.1 u.2 ∧ (True)) (fun (u : TSt) t => va_P (dC, dI) vwCl (TW ct u.1 u.2) t.heap ∧ va_K (dC, dI) vwCl (TT ct) t ∧ va_D (va_A (TW ct L f) sz) (TW ct u.1 u.2)) (va_A (TW ct L f) sz)) 0 0 (va_A (TW ct L f) sz) := by
  refine Met.ofW (cc := b_Rv_addStairs) (maxL := 2) (ret := (some .int)) (by decide) rfl ?_
  intro p e s m args below meth c s₁ B hml hv
  obtain ⟨rfl, hsz, hP, hK, hD0, hN⟩ := hv
  have hx := B.exec
  have hb := B.bytes
  have hr := B.returns
  have hts := atoms_spec (ws := (.code y_Rv_addStairs b_Rv_addStairs 2 (some .int) :: TB)) B.pre
  have htb := fun w (h : w ∈ TB) => hts w (List.mem_cons_of_mem _ h)
  have hown : s.vm.findClass R_Rv = some m.cls := findClass_of_methodNamed B.named
  have hlocks := B.notSynchronized
  have hl := lv_entry ([.ref q0, .int p_0]) (n := 2) (Nat.le_of_ble_eq_true rfl)
  rw [lg_entry_eq]
  generalize (lg_sl ([.ref q0, .int p_0]) ++ List.replicate (2 - (lg_sl ([.ref q0, .int p_0])).length) Slot.unset).toArray = ls at hl ⊢
  have hl : lv_has ls 2 [(0, .ref q0), (1, .int p_0)] := hl
  subst hsz
  have hD := hD0.self (sz := s.heap.size)
  obtain ⟨A, hAe⟩ : ∃ A, va_A (TW ct L f) s.heap.size = A := ⟨_, rfl⟩
  rw [hAe] at hD
  have hA : ∀ q : Nat, s.heap.size ≤ q → A q := fun q h => by rw [← hAe]; exact Or.inr h
  have hS : va_S A s.heap s.heap [] := va_S.rf
  have hA_0 : Ext [] L f L f := Ext.rf
  suffices hGo : ∀ (H : Heap) (locs : List Loc), va_P (dC, dI) vwCl (TW ct L f) H → va_S A s.heap H locs → W p l e (headSpec (.code y_Rv_addStairs b_Rv_addStairs 2 (some .int) :: TB) ({ frames := 0, cells := 0, slots := 0, locals := 0 })).room s m [.ref q0, .int p_0].toArray below meth c H locs 0 0 (MQ below (va_Qi (fun r (u : TSt) => Ok u.1 u.2 ∧ Ext W_Rv_addStairs_t L f u.1 u.2 ∧ (True)) (fun (u : TSt) t => va_P (dC, dI) vwCl (TW ct u.1 u.2) t.heap ∧ va_K (dC, dI) vwCl (TT ct) t ∧ va_D (va_A (TW ct L f) s.heap.size) (TW ct u.1 u.2)) (va_A (TW ct L f) s.heap.size)) [.ref q0, .int p_0].toArray s 0 0 (va_A (TW ct L f) s.heap.size)) (F0 m 0 ls []) from hGo _ _ hP hS
  clear hP hS
  intro H locs hP hS
  have bp_4 := hO_0.i m0 (show slotD 1 4 = some (.inl (0, 12)) from rfl)
  refine lv_aload_n hx hb d_Rv_addStairs_0 rfl (lv_at hl 0 rfl) ?_
  refine tw_getr (D := (dC, dI)) (C := R_Rv) (T := F_Rv) (N := 6) (ci := 1) (kd := 1) (ct := ct) hx hb htb i_Rv hown hK hP hO_0 m0 rfl rfl 0 (by decide) (htb (.fieldLink R_Rv 9 "WaterMen$River" "milesUp" "[I") tw_29) (fun _ h9 => h9) rfl d_Rv_addStairs_1 (fun q_1 e_1 m_1 => ?_)
  refine lv_aload_n hx hb d_Rv_addStairs_4 rfl (lv_at hl 0 rfl) ?_
  refine tw_getI (x := (ti f q0 4)) (D := (dC, dI)) (C := R_Rv) (T := F_Rv) (N := 6) (ci := 1) (kd := 1) (ct := ct) hx hb htb i_Rv hown hK hP m0 rfl rfl 4 rfl (by decide) (htb (.fieldLink R_Rv 35 "WaterMen$River" "stairCount" "I") tw_28) (fun _ h9 => h9) rfl d_Rv_addStairs_5 ?_
  refine lv_iload_n hx hb d_Rv_addStairs_8 rfl (lv_at hl 1 rfl) ?_
  refine tw_astI (ct := ct) (x := p_0) hx hb hK hP hD hS hO_0 m_1 rfl (hb_inl bp_4.1 as_0 (by decide +kernel)) (i32_full _) d_Rv_addStairs_9 (fun f_1 H locs hP hD hS hO_1 hE_1 w_2 ow_2 hF_1 => ?_)
  have hA_1 := hA_0.trans hE_1
  refine lv_aload_n hx hb d_Rv_addStairs_10 rfl (lv_at hl 0 rfl) ?_
  refine lv_dup hx hb d_Rv_addStairs_11 rfl ?_
  refine tw_getI (x := (ti f q0 4)) (D := (dC, dI)) (C := R_Rv) (T := F_Rv) (N := 6) (ci := 1) (kd := 1) (ct := ct) hx hb htb i_Rv hown hK hP (hA_1.m m0) rfl rfl 4 ((hA_1.ei m0 rfl).trans rfl) (by decide) (htb (.fieldLink R_Rv 35 "WaterMen$River" "stairCount" "I") tw_28) (fun _ h9 => h9) rfl d_Rv_addStairs_12 ?_
  refine lv_iconst (v := 1) hx hb d_Rv_addStairs_15 (by decide +kernel) ?_
  refine lv_iadd hx hb d_Rv_addStairs_16 ?_
  refine tw_puti (v := ((ti f q0 4) + 1)) (D := (dC, dI)) (C := R_Rv) (T := F_Rv) (N := 6) (ci := 1) (kd := 1) (ct := ct) (ty := .int) hx hb htb i_Rv t_Rv t_Rv_ok n_Rv hown hK hP hD hS hO_1 (hA_1.m m0) rfl rfl 4 (by decide) (htb (.fieldLink R_Rv 35 "WaterMen$River" "stairCount" "I") tw_28) (fun _ h9 => h9) rfl (by decide +kernel) rfl rfl rfl ⟨(show ¬ (((ti f q0 4) + 1) < 0) from ((fun (a_0 : Int32) (k_0 : ¬ (a_0 < 0)) (k_1 : ¬ (12 < a_0)) => (show ¬ ((a_0 + 1) < 0) from by have z0 : (0 : Int32).toInt = 0 := (by decide +kernel); have z1 : (1 : Int32).toInt = 1 := (by decide +kernel); have z2 : (12 : Int32).toInt = 12 := (by decide +kernel); have r0 := fb_rng (a_0); have e0 := k_0; rw [Int32.lt_iff_toInt_lt, z0] at e0; have e1 := k_1; rw [Int32.lt_iff_toInt_lt, z2] at e1; obtain ⟨n_0, hn_0, s0⟩ := nd_add (x := a_0) (y := (1 : Int32)) (by (try rw [z1]); omega) (by (try rw [z1]); omega); rw [z1] at s0; rw [hn_0, Int32.lt_iff_toInt_lt, z0]; omega)) (ti f q0 4) bp_4.1 bp_4.2)), (show ¬ (12 < ((ti f q0 4) + 1)) from ((fun (a_0 : Int32) (k_0 : ¬ (11 < a_0)) => (show ¬ (12 < (a_0 + 1)) from by have z0 : (1 : Int32).toInt = 1 := (by decide +kernel); have z1 : (11 : Int32).toInt = 11 := (by decide +kernel); have z2 : (12 : Int32).toInt = 12 := (by decide +kernel); have r0 := fb_rng (a_0); have e0 := k_0; rw [Int32.lt_iff_toInt_lt, z1] at e0; obtain ⟨n_0, hn_0, s0⟩ := nd_add (x := a_0) (y := (1 : Int32)) (by (try rw [z0]); omega) (by (try rw [z0]); omega); rw [z0] at s0; rw [hn_0, Int32.lt_iff_toInt_lt, z2]; omega)) (ti f q0 4) as_0))⟩ d_Rv_addStairs_17 (fun f_2 H locs hP hD hS hO_2 hE_2 w_3 hF_2 => ?_)
  have hA_2 := hA_1.trans hE_2
  refine lv_aload_n hx hb d_Rv_addStairs_20 rfl (lv_at hl 0 rfl) ?_
  refine tw_getI (x := ((ti f q0 4) + 1)) (D := (dC, dI)) (C := R_Rv) (T := F_Rv) (N := 6) (ci := 1) (kd := 1) (ct := ct) hx hb htb i_Rv hown hK hP (hA_2.m m0) rfl rfl 4 w_3 (by decide) (htb (.fieldLink R_Rv 35 "WaterMen$River" "stairCount" "I") tw_28) (fun _ h9 => h9) rfl d_Rv_addStairs_21 ?_
  refine lv_iconst (v := 1) hx hb d_Rv_addStairs_24 (by decide +kernel) ?_
  refine lv_isub hx hb d_Rv_addStairs_25 ?_
  refine W.widen (k := 0) (n := 0) (Nat.le_of_ble_eq_true rfl) (Nat.le_of_ble_eq_true rfl) ?_
  exact W.iret (v := (((ti f q0 4) + 1) - 1)) hx hb hr (fun t ht hW => ⟨⟨(((ti f q0 4) + 1) - 1), (L, f_2), rfl, ⟨hO_2, hA_2.mono (by decide +kernel), trivial⟩, by rw [ht]; exact hP, va_K.moved hW.alike hK, by rw [hAe]; exact hD⟩, by rw [hAe]; exact hS.F ht⟩) (by rw [hAe]; exact hS.2.2) d_Rv_addStairs_26
set_option maxHeartbeats 4000000 in
set_option maxRecDepth 100000 in
theorem c_Rv_distance_t (l : Launch) (dC : Nat → ClassId) (dI : Nat → Nat → Nat) (ct : Nat → ClassId) (L : List Nat) (f : TF) (hO_0 : Ok L f) (q0 : Nat) (m0 : q0 ∈ L ∧ tk f q0 = 1) (p_0 : Int32) (p_1 : Int32)  (as_0 : ¬ (p_0 < 0)) (as_1 : ¬ (11 < p_0)) (as_2 : ¬ (p_1 < 0)) (as_3 : ¬ (11 < p_1)) : Met l y_Rv_distance (.code y_Rv_distance b_Rv_distance 3 (some .int) :: TB) ({ frames := 1, cells := 0, slots := 0, locals := 21 }) (va_Pc [.ref q0, .int p_0, .int p_1] (PR dC dI (TW ct L f) (TT ct))) (vp_Si (fun r => True)) 0 0 (fun _ => False) := by
  refine Met.ofW (cc := b_Rv_distance) (maxL := 3) (ret := (some .int)) (by decide) rfl ?_
  intro p e s m args below meth c s₁ B hml hv
  obtain ⟨rfl, hP, hK, hN⟩ := hv
  have hx := B.exec
  have hb := B.bytes
  have hr := B.returns
  have hts := atoms_spec (ws := (.code y_Rv_distance b_Rv_distance 3 (some .int) :: TB)) B.pre
  have htb := fun w (h : w ∈ TB) => hts w (List.mem_cons_of_mem _ h)
  have hown : s.vm.findClass R_Rv = some m.cls := findClass_of_methodNamed B.named
  have hlocks := B.notSynchronized
  have hl := lv_entry ([.ref q0, .int p_0, .int p_1]) (n := 3) (Nat.le_of_ble_eq_true rfl)
  rw [lg_entry_eq]
  generalize (lg_sl ([.ref q0, .int p_0, .int p_1]) ++ List.replicate (3 - (lg_sl ([.ref q0, .int p_0, .int p_1])).length) Slot.unset).toArray = ls at hl ⊢
  have hl : lv_has ls 3 [(0, .ref q0), (1, .int p_0), (2, .int p_1)] := hl
  refine lv_aload_n hx hb d_Rv_distance_0 rfl (lv_at hl 0 rfl) ?_
  refine tw_getr (D := (dC, dI)) (C := R_Rv) (T := F_Rv) (N := 6) (ci := 1) (kd := 1) (ct := ct) hx hb htb i_Rv hown hK hP hO_0 m0 rfl rfl 0 (by decide) (htb (.fieldLink R_Rv 9 "WaterMen$River" "milesUp" "[I") tw_29) (fun _ h9 => h9) rfl d_Rv_distance_1 (fun q_1 e_1 m_1 => ?_)
  refine lv_iload_n hx hb d_Rv_distance_4 rfl (lv_at hl 2 rfl) ?_
  refine tw_aldI (ct := ct) hx hb hK hP hO_0 m_1 rfl (hb_inl as_2 as_3 (by decide +kernel)) d_Rv_distance_5 (fun x_2 e_2 b_2 => ?_)
  refine lv_aload_n hx hb d_Rv_distance_6 rfl (lv_at hl 0 rfl) ?_
  refine tw_getR (D := (dC, dI)) (C := R_Rv) (T := F_Rv) (N := 6) (ci := 1) (kd := 1) (ct := ct) hx hb htb i_Rv hown hK hP m0 rfl rfl 0 e_1 (by decide) (htb (.fieldLink R_Rv 9 "WaterMen$River" "milesUp" "[I") tw_29) (fun _ h9 => h9) rfl d_Rv_distance_7 ?_
  refine hb_tv (.ref q_1) rfl ?_
  refine lv_iload_n hx hb d_Rv_distance_10 rfl (lv_at hl 1 rfl) ?_
  refine tw_aldI (ct := ct) hx hb hK hP hO_0 m_1 rfl (hb_inl as_0 as_1 (by decide +kernel)) d_Rv_distance_11 (fun x_3 e_3 b_3 => ?_)
  refine lv_isub hx hb d_Rv_distance_12 ?_
  refine va_mabs hx hb (hml.trans hl.1.symm) hown (htb (.methodLink R_Rv 38 Lib.Math.abs.name) tw_30) (htb (.static Lib.Math.abs.name) tw_31) (htb (.initialized "java/lang/Math") tw_32) (htb (.code Lib.Math.abs.name Lib.Math.abs.code 1 (some .int)) tw_33) (Nat.le_of_ble_eq_true rfl) (Nat.le_of_ble_eq_true rfl) (Nat.le_of_ble_eq_true rfl) (Nat.le_of_ble_eq_true rfl) d_Rv_distance_13 ?_
  refine hb_anyi (fun y_4 => ?_)
  exact W.iret (v := y_4) hx hb hr (fun t ht hW => ⟨y_4, rfl, trivial, ht⟩) t_nil d_Rv_distance_16
set_option maxHeartbeats 4000000 in
set_option maxRecDepth 100000 in
theorem c_Rv_passesBridge_t (l : Launch) (dC : Nat → ClassId) (dI : Nat → Nat → Nat) (ct : Nat → ClassId) (L : List Nat) (f : TF) (hO_0 : Ok L f) (q0 : Nat) (m0 : q0 ∈ L ∧ tk f q0 = 1) (p_0 : Int32) (p_1 : Int32)   : Met l y_Rv_passesBridge (.code y_Rv_passesBridge b_Rv_passesBridge 3 (some .boolean) :: TB) ({ frames := 1, cells := 0, slots := 0, locals := 21 }) (va_Pc [.ref q0, .int p_0, .int p_1] (PR dC dI (TW ct L f) (TT ct))) (vp_Si (fun r => (r = 0 ∧ True) ∨ (r = 1 ∧ True))) 0 0 (fun _ => False) := by
  refine Met.ofW (cc := b_Rv_passesBridge) (maxL := 3) (ret := (some .boolean)) (by decide) rfl ?_
  intro p e s m args below meth c s₁ B hml hv
  obtain ⟨rfl, hP, hK, hN⟩ := hv
  have hx := B.exec
  have hb := B.bytes
  have hr := B.returns
  have hts := atoms_spec (ws := (.code y_Rv_passesBridge b_Rv_passesBridge 3 (some .boolean) :: TB)) B.pre
  have htb := fun w (h : w ∈ TB) => hts w (List.mem_cons_of_mem _ h)
  have hown : s.vm.findClass R_Rv = some m.cls := findClass_of_methodNamed B.named
  have hlocks := B.notSynchronized
  have hl := lv_entry ([.ref q0, .int p_0, .int p_1]) (n := 3) (Nat.le_of_ble_eq_true rfl)
  rw [lg_entry_eq]
  generalize (lg_sl ([.ref q0, .int p_0, .int p_1]) ++ List.replicate (3 - (lg_sl ([.ref q0, .int p_0, .int p_1])).length) Slot.unset).toArray = ls at hl ⊢
  have hl : lv_has ls 3 [(0, .ref q0), (1, .int p_0), (2, .int p_1)] := hl
  refine lv_aload_n hx hb d_Rv_passesBridge_0 rfl (lv_at hl 0 rfl) ?_
  refine tw_geti (D := (dC, dI)) (C := R_Rv) (T := F_Rv) (N := 6) (ci := 1) (kd := 1) (ct := ct) hx hb htb i_Rv hown hK hP hO_0 m0 rfl rfl 5 (by decide) (htb (.fieldLink R_Rv 27 "WaterMen$River" "bridgeAbove" "I") tw_34) (fun _ h9 => h9) rfl d_Rv_passesBridge_1 (fun x_1 e_1 b_1 => ?_)
  refine lv_iconst (v := (-1)) hx hb d_Rv_passesBridge_4 (by decide +kernel) ?_
  refine lv_icmp_eq (tgt := 36) hx hb d_Rv_passesBridge_5 (by decide) (fun c_2 => ?_) (fun c_2 => ?_)
  · refine lv_iconst (v := 0) hx hb d_Rv_passesBridge_36 (by decide +kernel) ?_
    exact W.zret (v := 0) hx hb hr (by decide +kernel) (fun t ht hW => ⟨0, rfl, (Or.inl ⟨rfl, trivial⟩), ht⟩) t_nil d_Rv_passesBridge_37
  · refine lv_iload_n hx hb d_Rv_passesBridge_8 rfl (lv_at hl 1 rfl) ?_
    refine lv_iload_n hx hb d_Rv_passesBridge_9 rfl (lv_at hl 2 rfl) ?_
    refine va_mmin hx hb (hml.trans hl.1.symm) hown (htb (.methodLink R_Rv 44 Lib.Math.min.name) tw_35) (htb (.static Lib.Math.min.name) tw_36) (htb (.initialized "java/lang/Math") tw_32) (htb (.code Lib.Math.min.name Lib.Math.min.code 2 (some .int)) tw_37) (Nat.le_of_ble_eq_true rfl) (Nat.le_of_ble_eq_true rfl) (Nat.le_of_ble_eq_true rfl) (Nat.le_of_ble_eq_true rfl) d_Rv_passesBridge_10 ?_
    refine hb_anyi (fun y_3 => ?_)
    refine lv_aload_n hx hb d_Rv_passesBridge_13 rfl (lv_at hl 0 rfl) ?_
    refine tw_getI (x := x_1) (D := (dC, dI)) (C := R_Rv) (T := F_Rv) (N := 6) (ci := 1) (kd := 1) (ct := ct) hx hb htb i_Rv hown hK hP m0 rfl rfl 5 e_1 (by decide) (htb (.fieldLink R_Rv 27 "WaterMen$River" "bridgeAbove" "I") tw_34) (fun _ h9 => h9) rfl d_Rv_passesBridge_14 ?_
    refine lv_icmp_gt (tgt := 36) hx hb d_Rv_passesBridge_17 (by decide) (fun c_4 => ?_) (fun c_4 => ?_)
    · refine lv_iconst (v := 0) hx hb d_Rv_passesBridge_36 (by decide +kernel) ?_
      exact W.zret (v := 0) hx hb hr (by decide +kernel) (fun t ht hW => ⟨0, rfl, (Or.inl ⟨rfl, trivial⟩), ht⟩) t_nil d_Rv_passesBridge_37
    · refine lv_iload_n hx hb d_Rv_passesBridge_20 rfl (lv_at hl 1 rfl) ?_
      refine lv_iload_n hx hb d_Rv_passesBridge_21 rfl (lv_at hl 2 rfl) ?_
      refine va_mmax hx hb (hml.trans hl.1.symm) hown (htb (.methodLink R_Rv 48 Lib.Math.max.name) tw_38) (htb (.static Lib.Math.max.name) tw_39) (htb (.initialized "java/lang/Math") tw_32) (htb (.code Lib.Math.max.name Lib.Math.max.code 2 (some .int)) tw_40) (Nat.le_of_ble_eq_true rfl) (Nat.le_of_ble_eq_true rfl) (Nat.le_of_ble_eq_true rfl) (Nat.le_of_ble_eq_true rfl) d_Rv_passesBridge_22 ?_
      refine hb_anyi (fun y_5 => ?_)
      refine lv_aload_n hx hb d_Rv_passesBridge_25 rfl (lv_at hl 0 rfl) ?_
      refine tw_getI (x := x_1) (D := (dC, dI)) (C := R_Rv) (T := F_Rv) (N := 6) (ci := 1) (kd := 1) (ct := ct) hx hb htb i_Rv hown hK hP m0 rfl rfl 5 e_1 (by decide) (htb (.fieldLink R_Rv 27 "WaterMen$River" "bridgeAbove" "I") tw_34) (fun _ h9 => h9) rfl d_Rv_passesBridge_26 ?_
      refine lv_icmp_le (tgt := 36) hx hb d_Rv_passesBridge_29 (by decide) (fun c_6 => ?_) (fun c_6 => ?_)
      · refine lv_iconst (v := 0) hx hb d_Rv_passesBridge_36 (by decide +kernel) ?_
        exact W.zret (v := 0) hx hb hr (by decide +kernel) (fun t ht hW => ⟨0, rfl, (Or.inl ⟨rfl, trivial⟩), ht⟩) t_nil d_Rv_passesBridge_37
      · refine lv_iconst (v := 1) hx hb d_Rv_passesBridge_32 (by decide +kernel) ?_
        refine lv_goto (tgt := 37) hx hb d_Rv_passesBridge_33 (by decide) ?_
        exact W.zret (v := 1) hx hb hr (by decide +kernel) (fun t ht hW => ⟨1, rfl, (Or.inr ⟨rfl, trivial⟩), ht⟩) t_nil d_Rv_passesBridge_37
def WL_Rv_tell_t_22_3 : List (Nat × Nat) := [(19, 1000)]
def W_Rv_tell_t : List (Nat × Nat) := [(4, 1000), (19, 1000)]
set_option maxHeartbeats 4000000 in
set_option maxRecDepth 100000 in
theorem c_Rv_tell_t (l : Launch) (dC : Nat → ClassId) (dI : Nat → Nat → Nat) (ct : Nat → ClassId) (L : List Nat) (f : TF) (hO_0 : Ok L f) (q0 : Nat) (m0 : q0 ∈ L ∧ tk f q0 = 1) (sz : Nat) (p_0 : Int32) (p_1 : Int32) (p_2 : Int32)  (as_0 : ¬ (p_0 < 0)) (as_1 : ¬ (499 < p_0)) (as_2 : ¬ (p_1 < 0)) (as_3 : ¬ (11 < p_1)) : Met l y_Rv_tell (.code y_Rv_tell b_Rv_tell 6 none :: TB) ({ frames := 0, cells := 1, slots := 12, locals := 0 }) (va_Pc [.ref q0, .int p_0, .int p_1, .int p_2] (PC dC dI (TW ct L f) (TT ct) sz)) (va_Qv (fun (u : TSt) => Ok u.1 u.2 ∧ Ext W_Rv_tell_t L f u.1 u.2 ∧ (True)) (fun (u : TSt) t => va_P (dC, dI) vwCl (TW ct u.1 u.2) t.heap ∧ va_K (dC, dI) vwCl (TT ct) t ∧ va_D (va_A (TW ct L f) sz) (TW ct u.1 u.2)) (va_A (TW ct L f) sz)) 1 12 (va_A (TW ct L f) sz) := by
  refine Met.ofW (cc := b_Rv_tell) (maxL := 6) (ret := none) (by decide) rfl ?_
  intro p e s m args below meth c s₁ B hml hv
  obtain ⟨rfl, hsz, hP, hK, hD0, hN⟩ := hv
  have hx := B.exec
  have hb := B.bytes
  have hr := B.returns
  have hts := atoms_spec (ws := (.code y_Rv_tell b_Rv_tell 6 none :: TB)) B.pre
  have htb := fun w (h : w ∈ TB) => hts w (List.mem_cons_of_mem _ h)
  have hown : s.vm.findClass R_Rv = some m.cls := findClass_of_methodNamed B.named
  have hlocks := B.notSynchronized
  have hl := lv_entry ([.ref q0, .int p_0, .int p_1, .int p_2]) (n := 6) (Nat.le_of_ble_eq_true rfl)
  rw [lg_entry_eq]
  generalize (lg_sl ([.ref q0, .int p_0, .int p_1, .int p_2]) ++ List.replicate (6 - (lg_sl ([.ref q0, .int p_0, .int p_1, .int p_2])).length) Slot.unset).toArray = ls at hl ⊢
  have hl : lv_has ls 6 [(0, .ref q0), (1, .int p_0), (2, .int p_1), (3, .int p_2)] := hl
  subst hsz
  have hD := hD0.self (sz := s.heap.size)
  obtain ⟨A, hAe⟩ : ∃ A, va_A (TW ct L f) s.heap.size = A := ⟨_, rfl⟩
  rw [hAe] at hD
  have hA : ∀ q : Nat, s.heap.size ≤ q → A q := fun q h => by rw [← hAe]; exact Or.inr h
  have hS : va_S A s.heap s.heap [] := va_S.rf
  have hA_0 : Ext [] L f L f := Ext.rf
  suffices hGo : ∀ (H : Heap) (locs : List Loc), va_P (dC, dI) vwCl (TW ct L f) H → va_S A s.heap H locs → W p l e (headSpec (.code y_Rv_tell b_Rv_tell 6 none :: TB) ({ frames := 0, cells := 1, slots := 12, locals := 0 })).room s m [.ref q0, .int p_0, .int p_1, .int p_2].toArray below meth c H locs 0 0 (MQ below (va_Qv (fun (u : TSt) => Ok u.1 u.2 ∧ Ext W_Rv_tell_t L f u.1 u.2 ∧ (True)) (fun (u : TSt) t => va_P (dC, dI) vwCl (TW ct u.1 u.2) t.heap ∧ va_K (dC, dI) vwCl (TT ct) t ∧ va_D (va_A (TW ct L f) s.heap.size) (TW ct u.1 u.2)) (va_A (TW ct L f) s.heap.size)) [.ref q0, .int p_0, .int p_1, .int p_2].toArray s 1 12 (va_A (TW ct L f) s.heap.size)) (F0 m 0 ls []) from hGo _ _ hP hS
  clear hP hS
  intro H locs hP hS
  refine lv_aload_n hx hb d_Rv_tell_0 rfl (lv_at hl 0 rfl) ?_
  refine tw_getr (D := (dC, dI)) (C := R_Rv) (T := F_Rv) (N := 6) (ci := 1) (kd := 1) (ct := ct) hx hb htb i_Rv hown hK hP hO_0 m0 rfl rfl 2 (by decide) (htb (.fieldLink R_Rv 19 "WaterMen$River" "rows" "[[I") tw_41) (fun _ h9 => h9) rfl d_Rv_tell_1 (fun q_1 e_1 m_1 => ?_)
  refine lv_iload_n hx hb d_Rv_tell_4 rfl (lv_at hl 1 rfl) ?_
  refine tw_aldA (ct := ct) hx hb hK hP hO_0 m_1 rfl rfl (hb_inl as_0 as_1 (by decide +kernel)) d_Rv_tell_5 (fun e_2 => ?_) (fun q_2 e_2 m_2 => ?_)
  · refine lv_astoreN (lv' := [(4, .null), (0, .ref q0), (1, .int p_0), (2, .int p_1), (3, .int p_2)]) hx hb d_Rv_tell_6 hl (by decide) rfl (fun ls hl => ?_)
    refine lv_aloadN hx hb d_Rv_tell_8 (lv_at hl 0 rfl) ?_
    refine lv_ifnonnullN hx hb d_Rv_tell_10 ?_
    refine lv_bipush (v := 12) hx hb d_Rv_tell_13 (by decide +kernel) ?_
    refine tw_newI (ct := ct) (N' := 12) hx hb (htb (.arrayClass .int) tw_42) hK hP hD hS hA hO_0 19 rfl ⟨by decide +kernel, by decide +kernel⟩ (by decide +kernel) (by decide +kernel) (by decide +kernel) (Nat.le_of_ble_eq_true rfl) (Nat.le_of_ble_eq_true rfl) d_Rv_tell_15 (fun q_n1 L_1 f_1 H hP hD hS hO_1 hE_1 m_n1 nq_1 hL_1 hF_1 => ?_)
    have hA_1 := hA_0.trans hE_1
    refine lv_astore (lv' := [(4, .ref q_n1), (0, .ref q0), (1, .int p_0), (2, .int p_1), (3, .int p_2)]) hx hb d_Rv_tell_17 hl (by decide) rfl (fun ls hl => ?_)
    refine lv_iconst (v := 0) hx hb d_Rv_tell_19 (by decide +kernel) ?_
    refine lv_istore (lv' := [(5, .int 0), (4, .ref q_n1), (0, .ref q0), (1, .int p_0), (2, .int p_1), (3, .int p_2)]) hx hb d_Rv_tell_20 hl (by decide) rfl (fun ls hl => ?_)
    have cut_3 : ∀ (n_3 : Nat) (v5_3 : Int32) (L_2 : List Nat) (f_2 : TF) (H : Heap) (locs : List Loc) (ls : Array Slot), va_P (dC, dI) vwCl (TW ct L_2 f_2) H → va_D A (TW ct L_2 f_2) → va_S A s.heap H locs → Ok L_2 f_2 → Ext WL_Rv_tell_t_22_3 L_1 f_1 L_2 f_2 → ¬ (v5_3 < 0) → ¬ (12 < v5_3) → (12 : Int32).toInt - (v5_3 : Int32).toInt ≤ (n_3 : Int) → lv_has ls 6 [(0, .ref q0), (1, .int p_0), (2, .int p_1), (3, .int p_2), (4, .ref q_n1), (5, .int v5_3)] → W p l e (headSpec (.code y_Rv_tell b_Rv_tell 6 none :: TB) ({ frames := 0, cells := 1, slots := 12, locals := 0 })).room s m [.ref q0, .int p_0, .int p_1, .int p_2].toArray below meth c H locs 1 12 (MQ below (va_Qv (fun (u : TSt) => Ok u.1 u.2 ∧ Ext W_Rv_tell_t L f u.1 u.2 ∧ (True)) (fun (u : TSt) t => va_P (dC, dI) vwCl (TW ct u.1 u.2) t.heap ∧ va_K (dC, dI) vwCl (TT ct) t ∧ va_D (va_A (TW ct L f) s.heap.size) (TW ct u.1 u.2)) (va_A (TW ct L f) s.heap.size)) [.ref q0, .int p_0, .int p_1, .int p_2].toArray s 1 12 (va_A (TW ct L f) s.heap.size)) (F0 m 22 ls []) := by
      intro n_3
      induction n_3 using Nat.strongRecOn with
      | _ n_3 ih_3 =>
        intro v5_3 L_2 f_2 H locs ls hP hD hS hO_2 hE_2 iv0_3 iv1_3 hm_3 hl
        have hA_2 := hA_1.trans hE_2
        refine lv_iload hx hb d_Rv_tell_22 (lv_at hl 5 rfl) ?_
        refine lv_bipush (v := 12) hx hb d_Rv_tell_24 (by decide +kernel) ?_
        refine lv_icmp_ge (tgt := 52) hx hb d_Rv_tell_26 (by decide) (fun c_4 => ?_) (fun c_4 => ?_)
        · refine lv_aload_n hx hb d_Rv_tell_52 rfl (lv_at hl 0 rfl) ?_
          refine tw_getR (D := (dC, dI)) (C := R_Rv) (T := F_Rv) (N := 6) (ci := 1) (kd := 1) (ct := ct) hx hb htb i_Rv hown hK hP (hA_2.m m0) rfl rfl 2 ((hA_2.er m0 rfl).trans e_1) (by decide) (htb (.fieldLink R_Rv 19 "WaterMen$River" "rows" "[[I") tw_41) (fun _ h9 => h9) rfl d_Rv_tell_53 ?_
          refine hb_tv (.ref q_1) rfl ?_
          refine lv_iload_n hx hb d_Rv_tell_56 rfl (lv_at hl 1 rfl) ?_
          refine lv_aload hx hb d_Rv_tell_57 (lv_at hl 4 rfl) ?_
          refine tw_astA (ct := ct) hx hb hK hP hD hS (over_moved (Vm.Alike.refl s.vm) hN.2.2) hO_2 (hA_2.m m_1) rfl (hE_2.m m_n1) rfl (hb_inl as_0 as_1 (by decide +kernel)) d_Rv_tell_59 (fun f_3 H locs hP hD hS hO_3 hE_3 w_5 hF_3 => ?_)
          have hA_3 := hA_2.trans hE_3
          refine lv_aload hx hb d_Rv_tell_60 (lv_at hl 4 rfl) ?_
          refine lv_iload_n hx hb d_Rv_tell_62 rfl (lv_at hl 2 rfl) ?_
          refine lv_iload_n hx hb d_Rv_tell_63 rfl (lv_at hl 3 rfl) ?_
          refine tw_astI (ct := ct) (x := p_2) hx hb hK hP hD hS hO_3 (hE_3.m (hE_2.m m_n1)) rfl (hb_inl as_2 as_3 (by decide +kernel)) (i32_full _) d_Rv_tell_64 (fun f_4 H locs hP hD hS hO_4 hE_4 w_6 ow_6 hF_4 => ?_)
          have hA_4 := hA_3.trans hE_4
          refine W.widen (k := 1) (n := 12) (Nat.le_of_ble_eq_true rfl) (Nat.le_of_ble_eq_true rfl) ?_
          exact W.vret hx hb hr (fun t ht hW => ⟨⟨(L_2, f_4), rfl, ⟨hO_4, hA_4.mono (by decide +kernel), trivial⟩, by rw [ht]; exact hP, va_K.moved hW.alike hK, by rw [hAe]; exact hD⟩, by rw [hAe]; exact hS.F ht⟩) (by rw [hAe]; exact hS.2.2) d_Rv_tell_65
        · refine lv_aload hx hb d_Rv_tell_29 (lv_at hl 4 rfl) ?_
          refine lv_iload hx hb d_Rv_tell_31 (lv_at hl 5 rfl) ?_
          refine lv_aload_n hx hb d_Rv_tell_33 rfl (lv_at hl 0 rfl) ?_
          refine tw_getr (D := (dC, dI)) (C := R_Rv) (T := F_Rv) (N := 6) (ci := 1) (kd := 1) (ct := ct) hx hb htb i_Rv hown hK hP hO_2 (hA_2.m m0) rfl rfl 1 (by decide) (htb (.fieldLink R_Rv 15 "WaterMen$River" "table" "[I") tw_43) (fun _ h9 => h9) rfl d_Rv_tell_34 (fun q_7 e_7 m_7 => ?_)
          refine lv_iload hx hb d_Rv_tell_37 (lv_at hl 5 rfl) ?_
          refine lv_iload_n hx hb d_Rv_tell_39 rfl (lv_at hl 1 rfl) ?_
          refine lv_iadd hx hb d_Rv_tell_40 ?_
          refine lv_bipush (v := 12) hx hb d_Rv_tell_41 (by decide +kernel) ?_
          refine lv_irem hx hb d_Rv_tell_43 (by decide) ?_
          refine hb_remn (c := 12) (C1 := 11) (K := 2147483635) (by decide +kernel) (by decide +kernel) (by decide +kernel) (show ¬ ((v5_3 + p_0) < 0) from ((fun (a_0 : Int32) (a_1 : Int32) (k_0 : ¬ (a_0 < 0)) (k_1 : ¬ (499 < a_0)) (k_2 : ¬ (a_1 < 0)) (k_3 : ¬ (12 ≤ a_1)) => (show ¬ ((a_1 + a_0) < 0) from by have z0 : (0 : Int32).toInt = 0 := (by decide +kernel); have z1 : (12 : Int32).toInt = 12 := (by decide +kernel); have z2 : (499 : Int32).toInt = 499 := (by decide +kernel); have r0 := fb_rng (a_0); have r1 := fb_rng (a_1); have e0 := k_0; rw [Int32.lt_iff_toInt_lt, z0] at e0; have e1 := k_1; rw [Int32.lt_iff_toInt_lt, z2] at e1; have e2 := k_2; rw [Int32.lt_iff_toInt_lt, z0] at e2; have e3 := k_3; rw [Int32.le_iff_toInt_le, z1] at e3; obtain ⟨n_0, hn_0, s0⟩ := nd_add (x := (a_1)) (y := (a_0)) (by omega) (by omega); rw [hn_0, Int32.lt_iff_toInt_lt, z0]; omega)) p_0 v5_3 as_0 as_1 iv0_3 c_4)) (show ¬ (2147483635 < (v5_3 + p_0)) from ((fun (a_0 : Int32) (a_1 : Int32) (k_0 : ¬ (499 < a_0)) (k_1 : ¬ (a_1 < 0)) (k_2 : ¬ (12 ≤ a_1)) => (show ¬ (2147483635 < (a_1 + a_0)) from by have z0 : (0 : Int32).toInt = 0 := (by decide +kernel); have z1 : (12 : Int32).toInt = 12 := (by decide +kernel); have z2 : (499 : Int32).toInt = 499 := (by decide +kernel); have z3 : (2147483635 : Int32).toInt = 2147483635 := (by decide +kernel); have r0 := fb_rng (a_0); have r1 := fb_rng (a_1); have e0 := k_0; rw [Int32.lt_iff_toInt_lt, z2] at e0; have e1 := k_1; rw [Int32.lt_iff_toInt_lt, z0] at e1; have e2 := k_2; rw [Int32.le_iff_toInt_le, z1] at e2; obtain ⟨n_0, hn_0, s0⟩ := nd_add (x := (a_1)) (y := (a_0)) (by omega) (by omega); rw [hn_0, Int32.lt_iff_toInt_lt, z3]; omega)) p_0 v5_3 as_1 iv0_3 c_4)) (fun y_8 qu_8 g1_8 g2_8 g3_8 g4_8 g5_8 g9_8 => ?_)
          refine tw_aldI (ct := ct) hx hb hK hP hO_2 m_7 rfl (hb_inl g1_8 g2_8 (by decide +kernel)) d_Rv_tell_44 (fun x_9 e_9 b_9 => ?_)
          refine tw_astI (ct := ct) (x := x_9) hx hb hK hP hD hS hO_2 (hE_2.m m_n1) rfl (hb_in iv0_3 c_4 (by decide +kernel)) (i32_full _) d_Rv_tell_45 (fun f_3 H locs hP hD hS hO_3 hE_3 w_10 ow_10 hF_3 => ?_)
          have hA_3 := hA_2.trans hE_3
          refine lv_iinc (v := (v5_3 + 1)) (lv' := [(5, .int (v5_3 + 1)), (0, .ref q0), (1, .int p_0), (2, .int p_1), (3, .int p_2), (4, .ref q_n1)]) hx hb d_Rv_tell_46 hl (k := 5) rfl rfl (by decide) rfl (fun ls hl => ?_)
          refine lv_goto (tgt := 22) hx hb d_Rv_tell_49 (by decide) ?_
          exact ih_3 (n_3 - 1) (ms_1 ((fun (a_0 : Int32) (k_0 : ¬ (12 ≤ a_0)) => (show 1 ≤ (12 : Int32).toInt - (a_0).toInt ∧ (12 : Int32).toInt - ((a_0) + (1 : Int32)).toInt + 1 ≤ (12 : Int32).toInt - (a_0).toInt from by have z0 : (1 : Int32).toInt = 1 := (by decide +kernel); have z1 : (12 : Int32).toInt = 12 := (by decide +kernel); have r0 := fb_rng (a_0); have e0 := k_0; rw [Int32.le_iff_toInt_le, z1] at e0; obtain ⟨n_0, hn_0, s0⟩ := nd_add (x := (a_0)) (y := (1 : Int32)) (by (try rw [z0]); omega) (by (try rw [z0]); omega); rw [z0] at s0; rw [hn_0]; (try rw [z1]); omega)) v5_3 c_4) hm_3) (v5_3 + 1) _ _ _ _ _ hP hD hS hO_3 ((hE_2.trans hE_3).mono (by decide +kernel)) (show ¬ ((v5_3 + 1) < 0) from by have e0 := iv0_3; rw [Int32.lt_iff_toInt_lt] at e0; have e1 := c_4; rw [Int32.le_iff_toInt_le] at e1; have z0 : (0 : Int32).toInt = 0 := (by decide +kernel); have z1 : (1 : Int32).toInt = 1 := (by decide +kernel); have z2 : (12 : Int32).toInt = 12 := (by decide +kernel); have ss := fb_addI (x := v5_3) (y := 1) (by omega) (by omega); rw [Int32.lt_iff_toInt_lt]; omega) (show ¬ (12 < (v5_3 + 1)) from by have e0 := iv0_3; rw [Int32.lt_iff_toInt_lt] at e0; have e1 := c_4; rw [Int32.le_iff_toInt_le] at e1; have z0 : (0 : Int32).toInt = 0 := (by decide +kernel); have z1 : (1 : Int32).toInt = 1 := (by decide +kernel); have z2 : (12 : Int32).toInt = 12 := (by decide +kernel); have ss := fb_addI (x := v5_3) (y := 1) (by omega) (by omega); rw [Int32.lt_iff_toInt_lt]; omega) (by exact ms_2 ((fun (a_0 : Int32) (k_0 : ¬ (12 ≤ a_0)) => (show 1 ≤ (12 : Int32).toInt - (a_0).toInt ∧ (12 : Int32).toInt - ((a_0) + (1 : Int32)).toInt + 1 ≤ (12 : Int32).toInt - (a_0).toInt from by have z0 : (1 : Int32).toInt = 1 := (by decide +kernel); have z1 : (12 : Int32).toInt = 12 := (by decide +kernel); have r0 := fb_rng (a_0); have e0 := k_0; rw [Int32.le_iff_toInt_le, z1] at e0; obtain ⟨n_0, hn_0, s0⟩ := nd_add (x := (a_0)) (y := (1 : Int32)) (by (try rw [z0]); omega) (by (try rw [z0]); omega); rw [z0] at s0; rw [hn_0]; (try rw [z1]); omega)) v5_3 c_4) hm_3) (lv_sub hl [1, 2, 3, 4, 5, 0] rfl)
    exact cut_3 4294967296 (0 : Int32) _ _ _ _ _ hP hD hS hO_1 Ext.rf (by decide +kernel) (by decide +kernel) (by exact ms_0 _ _) (lv_sub hl [2, 3, 4, 5, 1, 0] rfl)
  · refine lv_astore (lv' := [(4, .ref q_2), (0, .ref q0), (1, .int p_0), (2, .int p_1), (3, .int p_2)]) hx hb d_Rv_tell_6 hl (by decide) rfl (fun ls hl => ?_)
    refine lv_aload hx hb d_Rv_tell_8 (lv_at hl 0 rfl) ?_
    refine lv_ifnonnull (tgt := 60) hx hb d_Rv_tell_10 (by decide) ?_
    refine lv_aload hx hb d_Rv_tell_60 (lv_at hl 0 rfl) ?_
    refine lv_iload_n hx hb d_Rv_tell_62 rfl (lv_at hl 3 rfl) ?_
    refine lv_iload_n hx hb d_Rv_tell_63 rfl (lv_at hl 4 rfl) ?_
    refine tw_astI (ct := ct) (x := p_2) hx hb hK hP hD hS hO_0 m_2 rfl (hb_inl as_2 as_3 (by decide +kernel)) (i32_full _) d_Rv_tell_64 (fun f_1 H locs hP hD hS hO_1 hE_1 w_11 ow_11 hF_1 => ?_)
    have hA_1 := hA_0.trans hE_1
    refine W.widen (k := 1) (n := 12) (Nat.le_of_ble_eq_true rfl) (Nat.le_of_ble_eq_true rfl) ?_
    exact W.vret hx hb hr (fun t ht hW => ⟨⟨(L, f_1), rfl, ⟨hO_1, hA_1.mono (by decide +kernel), trivial⟩, by rw [ht]; exact hP, va_K.moved hW.alike hK, by rw [hAe]; exact hD⟩, by rw [hAe]; exact hS.F ht⟩) (by rw [hAe]; exact hS.2.2) d_Rv_tell_65
set_option maxHeartbeats 4000000 in
set_option maxRecDepth 100000 in
theorem c_Rv_height_t (l : Launch) (dC : Nat → ClassId) (dI : Nat → Nat → Nat) (ct : Nat → ClassId) (L : List Nat) (f : TF) (hO_0 : Ok L f) (q0 : Nat) (m0 : q0 ∈ L ∧ tk f q0 = 1) (p_0 : Int32) (p_1 : Int32)  (as_0 : ¬ (p_0 < 0)) (as_1 : ¬ (500 < p_0)) (as_2 : ¬ (p_1 < 0)) (as_3 : ¬ (11 < p_1)) : Met l y_Rv_height (.code y_Rv_height b_Rv_height 4 (some .int) :: TB) ({ frames := 0, cells := 0, slots := 0, locals := 0 }) (va_Pc [.ref q0, .int p_0, .int p_1] (PR dC dI (TW ct L f) (TT ct))) (vp_Si (fun r => True)) 0 0 (fun _ => False) := by
  refine Met.ofW (cc := b_Rv_height) (maxL := 4) (ret := (some .int)) (by decide) rfl ?_
  intro p e s m args below meth c s₁ B hml hv
  obtain ⟨rfl, hP, hK, hN⟩ := hv
  have hx := B.exec
  have hb := B.bytes
  have hr := B.returns
  have hts := atoms_spec (ws := (.code y_Rv_height b_Rv_height 4 (some .int) :: TB)) B.pre
  have htb := fun w (h : w ∈ TB) => hts w (List.mem_cons_of_mem _ h)
  have hown : s.vm.findClass R_Rv = some m.cls := findClass_of_methodNamed B.named
  have hlocks := B.notSynchronized
  have hl := lv_entry ([.ref q0, .int p_0, .int p_1]) (n := 4) (Nat.le_of_ble_eq_true rfl)
  rw [lg_entry_eq]
  generalize (lg_sl ([.ref q0, .int p_0, .int p_1]) ++ List.replicate (4 - (lg_sl ([.ref q0, .int p_0, .int p_1])).length) Slot.unset).toArray = ls at hl ⊢
  have hl : lv_has ls 4 [(0, .ref q0), (1, .int p_0), (2, .int p_1)] := hl
  refine lv_iload_n hx hb d_Rv_height_0 rfl (lv_at hl 1 rfl) ?_
  refine lv_sipush (v := 500) hx hb d_Rv_height_1 (by decide +kernel) ?_
  refine lv_icmp_ge (tgt := 16) hx hb d_Rv_height_4 (by decide) (fun c_1 => ?_) (fun c_1 => ?_)
  · refine lv_null hx hb d_Rv_height_16 ?_
    refine lv_astore_nN (lv' := [(3, .null), (0, .ref q0), (1, .int p_0), (2, .int p_1)]) hx hb d_Rv_height_17 rfl hl (by decide) rfl (fun ls hl => ?_)
    refine lv_aload_nN hx hb d_Rv_height_18 rfl (lv_at hl 0 rfl) ?_
    refine lv_ifnonnullN hx hb d_Rv_height_19 ?_
    refine lv_aload_n hx hb d_Rv_height_22 rfl (lv_at hl 1 rfl) ?_
    refine tw_getr (D := (dC, dI)) (C := R_Rv) (T := F_Rv) (N := 6) (ci := 1) (kd := 1) (ct := ct) hx hb htb i_Rv hown hK hP hO_0 m0 rfl rfl 1 (by decide) (htb (.fieldLink R_Rv 15 "WaterMen$River" "table" "[I") tw_43) (fun _ h9 => h9) rfl d_Rv_height_23 (fun q_2 e_2 m_2 => ?_)
    refine lv_iload_n hx hb d_Rv_height_26 rfl (lv_at hl 3 rfl) ?_
    refine lv_iload_n hx hb d_Rv_height_27 rfl (lv_at hl 2 rfl) ?_
    refine lv_iadd hx hb d_Rv_height_28 ?_
    refine lv_bipush (v := 12) hx hb d_Rv_height_29 (by decide +kernel) ?_
    refine lv_irem hx hb d_Rv_height_31 (by decide) ?_
    refine hb_remn (c := 12) (C1 := 11) (K := 2147483635) (by decide +kernel) (by decide +kernel) (by decide +kernel) (show ¬ ((p_1 + p_0) < 0) from ((fun (a_0 : Int32) (a_1 : Int32) (k_0 : ¬ (500 < a_0)) (k_1 : ¬ (a_1 < 0)) (k_2 : ¬ (11 < a_1)) (k_3 : 500 ≤ a_0) => (show ¬ ((a_1 + a_0) < 0) from by have z0 : (0 : Int32).toInt = 0 := (by decide +kernel); have z1 : (11 : Int32).toInt = 11 := (by decide +kernel); have z2 : (500 : Int32).toInt = 500 := (by decide +kernel); have r0 := fb_rng (a_0); have r1 := fb_rng (a_1); have e0 := k_0; rw [Int32.lt_iff_toInt_lt, z2] at e0; have e1 := k_1; rw [Int32.lt_iff_toInt_lt, z0] at e1; have e2 := k_2; rw [Int32.lt_iff_toInt_lt, z1] at e2; have e3 := k_3; rw [Int32.le_iff_toInt_le, z2] at e3; obtain ⟨n_0, hn_0, s0⟩ := nd_add (x := (a_1)) (y := (a_0)) (by omega) (by omega); rw [hn_0, Int32.lt_iff_toInt_lt, z0]; omega)) p_0 p_1 as_1 as_2 as_3 c_1)) (show ¬ (2147483635 < (p_1 + p_0)) from ((fun (a_0 : Int32) (a_1 : Int32) (k_0 : ¬ (500 < a_0)) (k_1 : ¬ (11 < a_1)) (k_2 : 500 ≤ a_0) => (show ¬ (2147483635 < (a_1 + a_0)) from by have z0 : (11 : Int32).toInt = 11 := (by decide +kernel); have z1 : (500 : Int32).toInt = 500 := (by decide +kernel); have z2 : (2147483635 : Int32).toInt = 2147483635 := (by decide +kernel); have r0 := fb_rng (a_0); have r1 := fb_rng (a_1); have e0 := k_0; rw [Int32.lt_iff_toInt_lt, z1] at e0; have e1 := k_1; rw [Int32.lt_iff_toInt_lt, z0] at e1; have e2 := k_2; rw [Int32.le_iff_toInt_le, z1] at e2; obtain ⟨n_0, hn_0, s0⟩ := nd_add (x := (a_1)) (y := (a_0)) (by omega) (by omega); rw [hn_0, Int32.lt_iff_toInt_lt, z2]; omega)) p_0 p_1 as_1 as_3 c_1)) (fun y_3 qu_3 g1_3 g2_3 g3_3 g4_3 g5_3 g9_3 => ?_)
    refine tw_aldI (ct := ct) hx hb hK hP hO_0 m_2 rfl (hb_inl g1_3 g2_3 (by decide +kernel)) d_Rv_height_32 (fun x_4 e_4 b_4 => ?_)
    refine lv_goto (tgt := 39) hx hb d_Rv_height_33 (by decide) ?_
    exact W.iret (v := x_4) hx hb hr (fun t ht hW => ⟨x_4, rfl, trivial, ht⟩) t_nil d_Rv_height_39
  · refine lv_aload_n hx hb d_Rv_height_7 rfl (lv_at hl 0 rfl) ?_
    refine tw_getr (D := (dC, dI)) (C := R_Rv) (T := F_Rv) (N := 6) (ci := 1) (kd := 1) (ct := ct) hx hb htb i_Rv hown hK hP hO_0 m0 rfl rfl 2 (by decide) (htb (.fieldLink R_Rv 19 "WaterMen$River" "rows" "[[I") tw_41) (fun _ h9 => h9) rfl d_Rv_height_8 (fun q_5 e_5 m_5 => ?_)
    refine lv_iload_n hx hb d_Rv_height_11 rfl (lv_at hl 1 rfl) ?_
    refine tw_aldA (ct := ct) hx hb hK hP hO_0 m_5 rfl rfl (hb_in as_0 c_1 (by decide +kernel)) d_Rv_height_12 (fun e_6 => ?_) (fun q_6 e_6 m_6 => ?_)
    · refine lv_goto (tgt := 17) hx hb d_Rv_height_13 (by decide) ?_
      refine lv_astore_nN (lv' := [(3, .null), (0, .ref q0), (1, .int p_0), (2, .int p_1)]) hx hb d_Rv_height_17 rfl hl (by decide) rfl (fun ls hl => ?_)
      refine lv_aload_nN hx hb d_Rv_height_18 rfl (lv_at hl 0 rfl) ?_
      refine lv_ifnonnullN hx hb d_Rv_height_19 ?_
      refine lv_aload_n hx hb d_Rv_height_22 rfl (lv_at hl 1 rfl) ?_
      refine tw_getr (D := (dC, dI)) (C := R_Rv) (T := F_Rv) (N := 6) (ci := 1) (kd := 1) (ct := ct) hx hb htb i_Rv hown hK hP hO_0 m0 rfl rfl 1 (by decide) (htb (.fieldLink R_Rv 15 "WaterMen$River" "table" "[I") tw_43) (fun _ h9 => h9) rfl d_Rv_height_23 (fun q_7 e_7 m_7 => ?_)
      refine lv_iload_n hx hb d_Rv_height_26 rfl (lv_at hl 3 rfl) ?_
      refine lv_iload_n hx hb d_Rv_height_27 rfl (lv_at hl 2 rfl) ?_
      refine lv_iadd hx hb d_Rv_height_28 ?_
      refine lv_bipush (v := 12) hx hb d_Rv_height_29 (by decide +kernel) ?_
      refine lv_irem hx hb d_Rv_height_31 (by decide) ?_
      refine hb_remn (c := 12) (C1 := 11) (K := 2147483635) (by decide +kernel) (by decide +kernel) (by decide +kernel) (show ¬ ((p_1 + p_0) < 0) from ((fun (a_0 : Int32) (a_1 : Int32) (k_0 : ¬ (a_0 < 0)) (k_1 : ¬ (a_1 < 0)) (k_2 : ¬ (11 < a_1)) (k_3 : ¬ (500 ≤ a_0)) => (show ¬ ((a_1 + a_0) < 0) from by have z0 : (0 : Int32).toInt = 0 := (by decide +kernel); have z1 : (11 : Int32).toInt = 11 := (by decide +kernel); have z2 : (500 : Int32).toInt = 500 := (by decide +kernel); have r0 := fb_rng (a_0); have r1 := fb_rng (a_1); have e0 := k_0; rw [Int32.lt_iff_toInt_lt, z0] at e0; have e1 := k_1; rw [Int32.lt_iff_toInt_lt, z0] at e1; have e2 := k_2; rw [Int32.lt_iff_toInt_lt, z1] at e2; have e3 := k_3; rw [Int32.le_iff_toInt_le, z2] at e3; obtain ⟨n_0, hn_0, s0⟩ := nd_add (x := (a_1)) (y := (a_0)) (by omega) (by omega); rw [hn_0, Int32.lt_iff_toInt_lt, z0]; omega)) p_0 p_1 as_0 as_2 as_3 c_1)) (show ¬ (2147483635 < (p_1 + p_0)) from ((fun (a_0 : Int32) (a_1 : Int32) (k_0 : ¬ (a_1 < 0)) (k_1 : ¬ (11 < a_1)) (k_2 : ¬ (500 ≤ a_0)) => (show ¬ (2147483635 < (a_1 + a_0)) from by have z0 : (0 : Int32).toInt = 0 := (by decide +kernel); have z1 : (11 : Int32).toInt = 11 := (by decide +kernel); have z2 : (500 : Int32).toInt = 500 := (by decide +kernel); have z3 : (2147483635 : Int32).toInt = 2147483635 := (by decide +kernel); have r0 := fb_rng (a_0); have r1 := fb_rng (a_1); have e0 := k_0; rw [Int32.lt_iff_toInt_lt, z0] at e0; have e1 := k_1; rw [Int32.lt_iff_toInt_lt, z1] at e1; have e2 := k_2; rw [Int32.le_iff_toInt_le, z2] at e2; obtain ⟨n_0, hn_0, s0⟩ := nd_add (x := (a_1)) (y := (a_0)) (by omega) (by omega); rw [hn_0, Int32.lt_iff_toInt_lt, z3]; omega)) p_0 p_1 as_2 as_3 c_1)) (fun y_8 qu_8 g1_8 g2_8 g3_8 g4_8 g5_8 g9_8 => ?_)
      refine tw_aldI (ct := ct) hx hb hK hP hO_0 m_7 rfl (hb_inl g1_8 g2_8 (by decide +kernel)) d_Rv_height_32 (fun x_9 e_9 b_9 => ?_)
      refine lv_goto (tgt := 39) hx hb d_Rv_height_33 (by decide) ?_
      exact W.iret (v := x_9) hx hb hr (fun t ht hW => ⟨x_9, rfl, trivial, ht⟩) t_nil d_Rv_height_39
    · refine lv_goto (tgt := 17) hx hb d_Rv_height_13 (by decide) ?_
      refine lv_astore_n (lv' := [(3, .ref q_6), (0, .ref q0), (1, .int p_0), (2, .int p_1)]) hx hb d_Rv_height_17 rfl hl (by decide) rfl (fun ls hl => ?_)
      refine lv_aload_n hx hb d_Rv_height_18 rfl (lv_at hl 0 rfl) ?_
      refine lv_ifnonnull (tgt := 36) hx hb d_Rv_height_19 (by decide) ?_
      refine lv_aload_n hx hb d_Rv_height_36 rfl (lv_at hl 0 rfl) ?_
      refine lv_iload_n hx hb d_Rv_height_37 rfl (lv_at hl 3 rfl) ?_
      refine tw_aldI (ct := ct) hx hb hK hP hO_0 m_6 rfl (hb_inl as_2 as_3 (by decide +kernel)) d_Rv_height_38 (fun x_10 e_10 b_10 => ?_)
      exact W.iret (v := x_10) hx hb hr (fun t ht hW => ⟨x_10, rfl, trivial, ht⟩) t_nil d_Rv_height_39
set_option maxHeartbeats 4000000 in
set_option maxRecDepth 100000 in
theorem c_Rv_flowIn_t (l : Launch) (dC : Nat → ClassId) (dI : Nat → Nat → Nat) (ct : Nat → ClassId) (L : List Nat) (f : TF) (hO_0 : Ok L f) (q0 : Nat) (m0 : q0 ∈ L ∧ tk f q0 = 1) (p_0 : Int32) (p_1 : Int32)  (as_0 : ¬ (p_0 < 0)) (as_1 : ¬ (499 < p_0)) (as_2 : ¬ (p_1 < 0)) (as_3 : ¬ (11 < p_1)) : Met l y_Rv_flowIn (.code y_Rv_flowIn b_Rv_flowIn 4 (some .int) :: TB) ({ frames := 1, cells := 0, slots := 0, locals := 23 }) (va_Pc [.ref q0, .int p_0, .int p_1] (PR dC dI (TW ct L f) (TT ct))) (vp_Si (fun r => True)) 0 0 (fun _ => False) := by
  refine Met.ofW (cc := b_Rv_flowIn) (maxL := 4) (ret := (some .int)) (by decide) rfl ?_
  intro p e s m args below meth c s₁ B hml hv
  obtain ⟨rfl, hP, hK, hN⟩ := hv
  have hx := B.exec
  have hb := B.bytes
  have hr := B.returns
  have hts := atoms_spec (ws := (.code y_Rv_flowIn b_Rv_flowIn 4 (some .int) :: TB)) B.pre
  have htb := fun w (h : w ∈ TB) => hts w (List.mem_cons_of_mem _ h)
  have hown : s.vm.findClass R_Rv = some m.cls := findClass_of_methodNamed B.named
  have hlocks := B.notSynchronized
  have hl := lv_entry ([.ref q0, .int p_0, .int p_1]) (n := 4) (Nat.le_of_ble_eq_true rfl)
  rw [lg_entry_eq]
  generalize (lg_sl ([.ref q0, .int p_0, .int p_1]) ++ List.replicate (4 - (lg_sl ([.ref q0, .int p_0, .int p_1])).length) Slot.unset).toArray = ls at hl ⊢
  have hl : lv_has ls 4 [(0, .ref q0), (1, .int p_0), (2, .int p_1)] := hl
  refine lv_iload_n hx hb d_Rv_flowIn_0 rfl (lv_at hl 2 rfl) ?_
  refine lv_bipush (v := 11) hx hb d_Rv_flowIn_1 (by decide +kernel) ?_
  refine lv_icmp_ne (tgt := 17) hx hb d_Rv_flowIn_3 (by decide) (fun c_1 => ?_) (fun c_1 => ?_)
  · refine lv_aload_n hx hb d_Rv_flowIn_17 rfl (lv_at hl 0 rfl) ?_
    refine lv_iload_n hx hb d_Rv_flowIn_18 rfl (lv_at hl 1 rfl) ?_
    refine lv_iload_n hx hb d_Rv_flowIn_19 rfl (lv_at hl 2 rfl) ?_
    refine lv_iconst (v := 1) hx hb d_Rv_flowIn_20 (by decide +kernel) ?_
    refine lv_iadd hx hb d_Rv_flowIn_21 ?_
    refine vp_callSi (va_Run.run (va_runV (As := [.int p_0, .int (p_1 + 1)]) (rest := []) ⟨hx, hb, hml, hown, htb⟩ (c_Rv_height_t l dC dI ct L f hO_0 q0 m0 p_0 (p_1 + 1) as_0 (show ¬ (500 < p_0) from by have e0 := as_0; rw [Int32.lt_iff_toInt_lt] at e0; have e1 := as_1; rw [Int32.lt_iff_toInt_lt] at e1; have z0 : (0 : Int32).toInt = 0 := (by decide +kernel); have z1 : (499 : Int32).toInt = 499 := (by decide +kernel); have z2 : (500 : Int32).toInt = 500 := (by decide +kernel); rw [Int32.lt_iff_toInt_lt]; omega) (show ¬ ((p_1 + 1) < 0) from by have e0 := as_2; rw [Int32.lt_iff_toInt_lt] at e0; have e1 := as_3; rw [Int32.lt_iff_toInt_lt] at e1; have e2 := c_1; rw [← Int32.toInt_inj] at e2; have z0 : (0 : Int32).toInt = 0 := (by decide +kernel); have z1 : (1 : Int32).toInt = 1 := (by decide +kernel); have z2 : (11 : Int32).toInt = 11 := (by decide +kernel); have ss := fb_addI (x := p_1) (y := 1) (by omega) (by omega); rw [Int32.lt_iff_toInt_lt]; omega) (show ¬ (11 < (p_1 + 1)) from by have e0 := as_2; rw [Int32.lt_iff_toInt_lt] at e0; have e1 := as_3; rw [Int32.lt_iff_toInt_lt] at e1; have e2 := c_1; rw [← Int32.toInt_inj] at e2; have z0 : (0 : Int32).toInt = 0 := (by decide +kernel); have z1 : (1 : Int32).toInt = 1 := (by decide +kernel); have z2 : (11 : Int32).toInt = 11 := (by decide +kernel); have ss := fb_addI (x := p_1) (y := 1) (by omega) (by omega); rw [Int32.lt_iff_toInt_lt]; omega)) (cwV 2 htb (gd_V tw_46 tw_47 tw_48 tw_45 tw_44) rfl rfl rfl (by decide +kernel) ⟨Nat.le_of_ble_eq_true rfl, Nat.le_of_ble_eq_true rfl⟩) ⟨pr_blind, tw_recv hK hP m0 rfl rfl, pr_pre hP hK hN⟩ rfl rfl hl.1 rfl (lv_room (Nat.le_of_ble_eq_true rfl)) d_Rv_flowIn_22 ⟨Nat.le_of_ble_eq_true rfl, Nat.le_of_ble_eq_true rfl⟩)) (fun r_2 er_2 => ?_)
    clear er_2
    refine lv_istore_n (lv' := [(3, .int r_2), (0, .ref q0), (1, .int p_0), (2, .int p_1)]) hx hb d_Rv_flowIn_25 rfl hl (by decide) rfl (fun ls hl => ?_)
    refine lv_iload_n hx hb d_Rv_flowIn_26 rfl (lv_at hl 0 rfl) ?_
    refine lv_aload_n hx hb d_Rv_flowIn_27 rfl (lv_at hl 1 rfl) ?_
    refine lv_iload_n hx hb d_Rv_flowIn_28 rfl (lv_at hl 2 rfl) ?_
    refine lv_iload_n hx hb d_Rv_flowIn_29 rfl (lv_at hl 3 rfl) ?_
    refine vp_callSi (va_Run.run (va_runV (As := [.int p_0, .int p_1]) (rest := [.int r_2]) ⟨hx, hb, hml, hown, htb⟩ (c_Rv_height_t l dC dI ct L f hO_0 q0 m0 p_0 p_1 as_0 (show ¬ (500 < p_0) from by have e0 := as_0; rw [Int32.lt_iff_toInt_lt] at e0; have e1 := as_1; rw [Int32.lt_iff_toInt_lt] at e1; have z0 : (0 : Int32).toInt = 0 := (by decide +kernel); have z1 : (499 : Int32).toInt = 499 := (by decide +kernel); have z2 : (500 : Int32).toInt = 500 := (by decide +kernel); rw [Int32.lt_iff_toInt_lt]; omega) as_2 as_3) (cwV 2 htb (gd_V tw_46 tw_47 tw_48 tw_45 tw_44) rfl rfl rfl (by decide +kernel) ⟨Nat.le_of_ble_eq_true rfl, Nat.le_of_ble_eq_true rfl⟩) ⟨pr_blind, tw_recv hK hP m0 rfl rfl, pr_pre hP hK hN⟩ rfl rfl hl.1 rfl (lv_room (Nat.le_of_ble_eq_true rfl)) d_Rv_flowIn_30 ⟨Nat.le_of_ble_eq_true rfl, Nat.le_of_ble_eq_true rfl⟩)) (fun r_3 er_3 => ?_)
    clear er_3
    refine lv_isub hx hb d_Rv_flowIn_33 ?_
    exact W.iret (v := (r_2 - r_3)) hx hb hr (fun t ht hW => ⟨(r_2 - r_3), rfl, trivial, ht⟩) t_nil d_Rv_flowIn_34
  · refine lv_aload_n hx hb d_Rv_flowIn_6 rfl (lv_at hl 0 rfl) ?_
    refine lv_iload_n hx hb d_Rv_flowIn_7 rfl (lv_at hl 1 rfl) ?_
    refine lv_iconst (v := 1) hx hb d_Rv_flowIn_8 (by decide +kernel) ?_
    refine lv_iadd hx hb d_Rv_flowIn_9 ?_
    refine lv_iconst (v := 0) hx hb d_Rv_flowIn_10 (by decide +kernel) ?_
    refine vp_callSi (va_Run.run (va_runV (As := [.int (p_0 + 1), .int 0]) (rest := []) ⟨hx, hb, hml, hown, htb⟩ (c_Rv_height_t l dC dI ct L f hO_0 q0 m0 (p_0 + 1) (0 : Int32) (show ¬ ((p_0 + 1) < 0) from by have e0 := as_0; rw [Int32.lt_iff_toInt_lt] at e0; have e1 := as_1; rw [Int32.lt_iff_toInt_lt] at e1; have z0 : (0 : Int32).toInt = 0 := (by decide +kernel); have z1 : (1 : Int32).toInt = 1 := (by decide +kernel); have z2 : (499 : Int32).toInt = 499 := (by decide +kernel); have ss := fb_addI (x := p_0) (y := 1) (by omega) (by omega); rw [Int32.lt_iff_toInt_lt]; omega) (show ¬ (500 < (p_0 + 1)) from by have e0 := as_0; rw [Int32.lt_iff_toInt_lt] at e0; have e1 := as_1; rw [Int32.lt_iff_toInt_lt] at e1; have z0 : (0 : Int32).toInt = 0 := (by decide +kernel); have z1 : (1 : Int32).toInt = 1 := (by decide +kernel); have z2 : (499 : Int32).toInt = 499 := (by decide +kernel); have z3 : (500 : Int32).toInt = 500 := (by decide +kernel); have ss := fb_addI (x := p_0) (y := 1) (by omega) (by omega); rw [Int32.lt_iff_toInt_lt]; omega) (by decide +kernel) (by decide +kernel)) (cwV 2 htb (gd_V tw_46 tw_47 tw_48 tw_45 tw_44) rfl rfl rfl (by decide +kernel) ⟨Nat.le_of_ble_eq_true rfl, Nat.le_of_ble_eq_true rfl⟩) ⟨pr_blind, tw_recv hK hP m0 rfl rfl, pr_pre hP hK hN⟩ rfl rfl hl.1 rfl (lv_room (Nat.le_of_ble_eq_true rfl)) d_Rv_flowIn_11 ⟨Nat.le_of_ble_eq_true rfl, Nat.le_of_ble_eq_true rfl⟩)) (fun r_4 er_4 => ?_)
    clear er_4
    refine lv_goto (tgt := 25) hx hb d_Rv_flowIn_14 (by decide) ?_
    refine lv_istore_n (lv' := [(3, .int r_4), (0, .ref q0), (1, .int p_0), (2, .int p_1)]) hx hb d_Rv_flowIn_25 rfl hl (by decide) rfl (fun ls hl => ?_)
    refine lv_iload_n hx hb d_Rv_flowIn_26 rfl (lv_at hl 0 rfl) ?_
    refine lv_aload_n hx hb d_Rv_flowIn_27 rfl (lv_at hl 1 rfl) ?_
    refine lv_iload_n hx hb d_Rv_flowIn_28 rfl (lv_at hl 2 rfl) ?_
    refine lv_iload_n hx hb d_Rv_flowIn_29 rfl (lv_at hl 3 rfl) ?_
    refine vp_callSi (va_Run.run (va_runV (As := [.int p_0, .int p_1]) (rest := [.int r_4]) ⟨hx, hb, hml, hown, htb⟩ (c_Rv_height_t l dC dI ct L f hO_0 q0 m0 p_0 p_1 as_0 (show ¬ (500 < p_0) from by have e0 := as_0; rw [Int32.lt_iff_toInt_lt] at e0; have e1 := as_1; rw [Int32.lt_iff_toInt_lt] at e1; have z0 : (0 : Int32).toInt = 0 := (by decide +kernel); have z1 : (499 : Int32).toInt = 499 := (by decide +kernel); have z2 : (500 : Int32).toInt = 500 := (by decide +kernel); rw [Int32.lt_iff_toInt_lt]; omega) as_2 as_3) (cwV 2 htb (gd_V tw_46 tw_47 tw_48 tw_45 tw_44) rfl rfl rfl (by decide +kernel) ⟨Nat.le_of_ble_eq_true rfl, Nat.le_of_ble_eq_true rfl⟩) ⟨pr_blind, tw_recv hK hP m0 rfl rfl, pr_pre hP hK hN⟩ rfl rfl hl.1 rfl (lv_room (Nat.le_of_ble_eq_true rfl)) d_Rv_flowIn_30 ⟨Nat.le_of_ble_eq_true rfl, Nat.le_of_ble_eq_true rfl⟩)) (fun r_5 er_5 => ?_)
    clear er_5
    refine lv_isub hx hb d_Rv_flowIn_33 ?_
    exact W.iret (v := (r_4 - r_5)) hx hb hr (fun t ht hW => ⟨(r_4 - r_5), rfl, trivial, ht⟩) t_nil d_Rv_flowIn_34
