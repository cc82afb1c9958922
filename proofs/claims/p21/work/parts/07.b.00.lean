set_option maxHeartbeats 4000000 in
set_option maxRecDepth 100000 in
theorem c_Md_today_t (l : Launch) (dC : Nat → ClassId) (dI : Nat → Nat → Nat) (ct : Nat → ClassId) (L : List Nat) (f : TF) (hO_0 : Ok L f) (q0 : Nat) (m0 : q0 ∈ L ∧ tk f q0 = 27)    : Met l y_Md_today (.code y_Md_today b_Md_today 1 (some .int) :: TB) ({ frames := 0, cells := 0, slots := 0, locals := 0 }) (va_Pc [.ref q0] (PR dC dI (TW ct L f) (TT ct))) (vp_Si (fun r => (¬ (r < 0) ∧ ¬ (499 < r) ∧ ¬ ((ti f q0 1) < (r * 720)) ∧ ¬ (((r * 720) + 719) < (ti f q0 1)) ∧ True))) 0 0 (fun _ => False) := by
  refine Met.ofW (cc := b_Md_today) (maxL := 1) (ret := (some .int)) (by decide) rfl ?_
  intro p e s m args below meth c s₁ B hml hv
  obtain ⟨rfl, hP, hK, hN⟩ := hv
  have hx := B.exec
  have hb := B.bytes
  have hr := B.returns
  have hts := atoms_spec (ws := (.code y_Md_today b_Md_today 1 (some .int) :: TB)) B.pre
  have htb := fun w (h : w ∈ TB) => hts w (List.mem_cons_of_mem _ h)
  have hown : s.vm.findClass R_Md = some m.cls := findClass_of_methodNamed B.named
  have hlocks := B.notSynchronized
  have hl := lv_entry ([.ref q0]) (n := 1) (Nat.le_of_ble_eq_true rfl)
  rw [lg_entry_eq]
  generalize (lg_sl ([.ref q0]) ++ List.replicate (1 - (lg_sl ([.ref q0])).length) Slot.unset).toArray = ls at hl ⊢
  have hl : lv_has ls 1 [(0, .ref q0)] := hl
  have bs_1 := hO_0.i m0 (show slotD 27 1 = some (.inl (0, 359999)) from rfl)
  refine lv_aload_n hx hb d_Md_today_0 rfl (lv_at hl 0 rfl) ?_
  refine tw_getI (x := (ti f q0 1)) (D := (dC, dI)) (C := R_Md) (T := F_Md) (N := 64) (ci := 7) (kd := 27) (ct := ct) hx hb htb i_Md hown hK hP m0 rfl rfl 1 rfl (by decide) (htb (.fieldLink R_Md 7 "WaterMenModel" "time" "I") tw_476) (fun _ h9 => h9) rfl d_Md_today_1 ?_
  refine lv_sipush (v := 720) hx hb d_Md_today_4 (by decide +kernel) ?_
  refine lv_idiv hx hb d_Md_today_7 (by decide) ?_
  refine hb_divn (U := 359999) (Qm := 499) (c := 720) (C1 := 719) (K := 2147482927) (by decide +kernel) (by decide +kernel) (by decide +kernel) bs_1.1 (show ¬ (2147482927 < (ti f q0 1)) from ((fun (a_0 : Int32) (k_0 : ¬ (359999 < a_0)) => (show ¬ (2147482927 < a_0) from by have z0 : (359999 : Int32).toInt = 359999 := (by decide +kernel); have z1 : (2147482927 : Int32).toInt = 2147482927 := (by decide +kernel); have r0 := fb_rng (a_0); have e0 := k_0; rw [Int32.lt_iff_toInt_lt, z0] at e0; rw [Int32.lt_iff_toInt_lt, z1]; omega)) (ti f q0 1) bs_1.2)) bs_1.2 (by decide +kernel) (fun y_2 g1_2 g2_2 g3_2 g4_2 g5_2 g9_2 => ?_)
  exact W.iret (v := y_2) hx hb hr (fun t ht hW => ⟨y_2, rfl, ⟨g1_2, g5_2, g3_2, g4_2, trivial⟩, ht⟩) t_nil d_Md_today_8
set_option maxHeartbeats 4000000 in
set_option maxRecDepth 100000 in
theorem c_Md_hourNow_t (l : Launch) (dC : Nat → ClassId) (dI : Nat → Nat → Nat) (ct : Nat → ClassId) (L : List Nat) (f : TF) (hO_0 : Ok L f) (q0 : Nat) (m0 : q0 ∈ L ∧ tk f q0 = 27)    : Met l y_Md_hourNow (.code y_Md_hourNow b_Md_hourNow 1 (some .int) :: TB) ({ frames := 0, cells := 0, slots := 0, locals := 0 }) (va_Pc [.ref q0] (PR dC dI (TW ct L f) (TT ct))) (vp_Si (fun r => (¬ (r < 0) ∧ ¬ (11 < r) ∧ True))) 0 0 (fun _ => False) := by
  refine Met.ofW (cc := b_Md_hourNow) (maxL := 1) (ret := (some .int)) (by decide) rfl ?_
  intro p e s m args below meth c s₁ B hml hv
  obtain ⟨rfl, hP, hK, hN⟩ := hv
  have hx := B.exec
  have hb := B.bytes
  have hr := B.returns
  have hts := atoms_spec (ws := (.code y_Md_hourNow b_Md_hourNow 1 (some .int) :: TB)) B.pre
  have htb := fun w (h : w ∈ TB) => hts w (List.mem_cons_of_mem _ h)
  have hown : s.vm.findClass R_Md = some m.cls := findClass_of_methodNamed B.named
  have hlocks := B.notSynchronized
  have hl := lv_entry ([.ref q0]) (n := 1) (Nat.le_of_ble_eq_true rfl)
  rw [lg_entry_eq]
  generalize (lg_sl ([.ref q0]) ++ List.replicate (1 - (lg_sl ([.ref q0])).length) Slot.unset).toArray = ls at hl ⊢
  have hl : lv_has ls 1 [(0, .ref q0)] := hl
  refine lv_aload_n hx hb d_Md_hourNow_0 rfl (lv_at hl 0 rfl) ?_
  refine tw_geti (D := (dC, dI)) (C := R_Md) (T := F_Md) (N := 64) (ci := 7) (kd := 27) (ct := ct) hx hb htb i_Md hown hK hP hO_0 m0 rfl rfl 1 (by decide) (htb (.fieldLink R_Md 7 "WaterMenModel" "time" "I") tw_476) (fun _ h9 => h9) rfl d_Md_hourNow_1 (fun x_1 e_1 b_1 => ?_)
  refine lv_sipush (v := 720) hx hb d_Md_hourNow_4 (by decide +kernel) ?_
  refine lv_irem hx hb d_Md_hourNow_7 (by decide) ?_
  refine hb_remn (c := 720) (C1 := 719) (K := 2147482927) (by decide +kernel) (by decide +kernel) (by decide +kernel) b_1.1 (show ¬ (2147482927 < x_1) from by have e0 := b_1.1; rw [Int32.lt_iff_toInt_lt] at e0; have e1 := b_1.2; rw [Int32.lt_iff_toInt_lt] at e1; have z0 : (0 : Int32).toInt = 0 := (by decide +kernel); have z1 : (359999 : Int32).toInt = 359999 := (by decide +kernel); have z2 : (2147482927 : Int32).toInt = 2147482927 := (by decide +kernel); rw [Int32.lt_iff_toInt_lt]; omega) (fun y_2 qu_2 g1_2 g2_2 g3_2 g4_2 g5_2 g9_2 => ?_)
  refine lv_bipush (v := 60) hx hb d_Md_hourNow_8 (by decide +kernel) ?_
  refine lv_idiv hx hb d_Md_hourNow_10 (by decide) ?_
  refine hb_divn (U := 719) (Qm := 11) (c := 60) (C1 := 59) (K := 2147483587) (by decide +kernel) (by decide +kernel) (by decide +kernel) g1_2 (show ¬ (2147483587 < y_2) from by have e0 := g1_2; rw [Int32.lt_iff_toInt_lt] at e0; have e1 := g2_2; rw [Int32.lt_iff_toInt_lt] at e1; have z0 : (0 : Int32).toInt = 0 := (by decide +kernel); have z1 : (719 : Int32).toInt = 719 := (by decide +kernel); have z2 : (2147483587 : Int32).toInt = 2147483587 := (by decide +kernel); rw [Int32.lt_iff_toInt_lt]; omega) g2_2 (by decide +kernel) (fun y_3 g1_3 g2_3 g3_3 g4_3 g5_3 g9_3 => ?_)
  exact W.iret (v := y_3) hx hb hr (fun t ht hW => ⟨y_3, rfl, ⟨g1_3, g5_3, trivial⟩, ht⟩) t_nil d_Md_hourNow_11
def f_Md_in  (p_0 : Int32) (p_1 : Int32) (p_2 : Int32) : Int32 := if p_0 < p_1 then (0) else (if p_2 < p_0 then (0) else (1))
set_option maxHeartbeats 4000000 in
set_option maxRecDepth 100000 in
theorem c_Md_in (l : Launch)  (p_0 : Int32) (p_1 : Int32) (p_2 : Int32)  : Met l y_Md_in (.code y_Md_in b_Md_in 3 (some .boolean) :: TB) ({ frames := 0, cells := 0, slots := 0, locals := 0 }) (va_Pc [.int p_0, .int p_1, .int p_2] (fun _ => True)) (vp_Si (fun r => r = f_Md_in p_0 p_1 p_2)) 0 0 (fun _ => False) := by
  refine Met.ofW (cc := b_Md_in) (maxL := 3) (ret := (some .boolean)) (by decide) rfl ?_
  intro p e s m args below meth c s₁ B hml hv
  obtain ⟨rfl, -⟩ := hv
  have hx := B.exec
  have hb := B.bytes
  have hr := B.returns
  have hts := atoms_spec (ws := (.code y_Md_in b_Md_in 3 (some .boolean) :: TB)) B.pre
  have htb := fun w (h : w ∈ TB) => hts w (List.mem_cons_of_mem _ h)
  have hown : s.vm.findClass R_Md = some m.cls := findClass_of_methodNamed B.named
  have hlocks := B.notSynchronized
  have hl := lv_entry ([.int p_0, .int p_1, .int p_2]) (n := 3) (Nat.le_of_ble_eq_true rfl)
  rw [lg_entry_eq]
  generalize (lg_sl ([.int p_0, .int p_1, .int p_2]) ++ List.replicate (3 - (lg_sl ([.int p_0, .int p_1, .int p_2])).length) Slot.unset).toArray = ls at hl ⊢
  have hl : lv_has ls 3 [(0, .int p_0), (1, .int p_1), (2, .int p_2)] := hl
  refine lv_iload_n hx hb d_Md_in_0 rfl (lv_at hl 0 rfl) ?_
  refine lv_iload_n hx hb d_Md_in_1 rfl (lv_at hl 1 rfl) ?_
  refine lv_icmp_lt (tgt := 14) hx hb d_Md_in_2 (by decide) (fun c_1 => ?_) (fun c_1 => ?_)
  · refine lv_iconst (v := 0) hx hb d_Md_in_14 (by decide +kernel) ?_
    exact W.zret (v := 0) hx hb hr (by decide +kernel) (fun t ht hW => ⟨0, rfl, (by unfold f_Md_in; rw [if_pos c_1]), ht⟩) t_nil d_Md_in_15
  · refine lv_iload_n hx hb d_Md_in_5 rfl (lv_at hl 0 rfl) ?_
    refine lv_iload_n hx hb d_Md_in_6 rfl (lv_at hl 2 rfl) ?_
    refine lv_icmp_gt (tgt := 14) hx hb d_Md_in_7 (by decide) (fun c_2 => ?_) (fun c_2 => ?_)
    · refine lv_iconst (v := 0) hx hb d_Md_in_14 (by decide +kernel) ?_
      exact W.zret (v := 0) hx hb hr (by decide +kernel) (fun t ht hW => ⟨0, rfl, (by unfold f_Md_in; rw [if_neg c_1, if_pos c_2]), ht⟩) t_nil d_Md_in_15
    · refine lv_iconst (v := 1) hx hb d_Md_in_10 (by decide +kernel) ?_
      refine lv_goto (tgt := 15) hx hb d_Md_in_11 (by decide) ?_
      exact W.zret (v := 1) hx hb hr (by decide +kernel) (fun t ht hW => ⟨1, rfl, (by unfold f_Md_in; rw [if_neg c_1, if_neg c_2]), ht⟩) t_nil d_Md_in_15
set_option maxHeartbeats 4000000 in
set_option maxRecDepth 100000 in
theorem c_Md_isStairs_t (l : Launch) (dC : Nat → ClassId) (dI : Nat → Nat → Nat) (ct : Nat → ClassId) (L : List Nat) (f : TF) (hO_0 : Ok L f) (q0 : Nat) (m0 : q0 ∈ L ∧ tk f q0 = 27) (p_0 : Int32)   : Met l y_Md_isStairs (.code y_Md_isStairs b_Md_isStairs 2 (some .boolean) :: TB) ({ frames := 1, cells := 0, slots := 0, locals := 22 }) (va_Pc [.ref q0, .int p_0] (PR dC dI (TW ct L f) (TT ct))) (vp_Si (fun r => (r = 0 ∧ True) ∨ (r = 1 ∧ ¬ (p_0 < 0) ∧ ¬ (11 < p_0) ∧ ¬ ((ti f q0 2) ≤ p_0) ∧ True))) 0 0 (fun _ => False) := by
  refine Met.ofW (cc := b_Md_isStairs) (maxL := 2) (ret := (some .boolean)) (by decide) rfl ?_
  intro p e s m args below meth c s₁ B hml hv
  obtain ⟨rfl, hP, hK, hN⟩ := hv
  have hx := B.exec
  have hb := B.bytes
  have hr := B.returns
  have hts := atoms_spec (ws := (.code y_Md_isStairs b_Md_isStairs 2 (some .boolean) :: TB)) B.pre
  have htb := fun w (h : w ∈ TB) => hts w (List.mem_cons_of_mem _ h)
  have hown : s.vm.findClass R_Md = some m.cls := findClass_of_methodNamed B.named
  have hlocks := B.notSynchronized
  have hl := lv_entry ([.ref q0, .int p_0]) (n := 2) (Nat.le_of_ble_eq_true rfl)
  rw [lg_entry_eq]
  generalize (lg_sl ([.ref q0, .int p_0]) ++ List.replicate (2 - (lg_sl ([.ref q0, .int p_0])).length) Slot.unset).toArray = ls at hl ⊢
  have hl : lv_has ls 2 [(0, .ref q0), (1, .int p_0)] := hl
  have bs_1 := hO_0.i m0 (show slotD 27 2 = some (.inl (0, 12)) from rfl)
  refine lv_iload_n hx hb d_Md_isStairs_0 rfl (lv_at hl 1 rfl) ?_
  refine lv_iconst (v := 0) hx hb d_Md_isStairs_1 (by decide +kernel) ?_
  refine lv_aload_n hx hb d_Md_isStairs_2 rfl (lv_at hl 0 rfl) ?_
  refine tw_getI (x := (ti f q0 2)) (D := (dC, dI)) (C := R_Md) (T := F_Md) (N := 64) (ci := 7) (kd := 27) (ct := ct) hx hb htb i_Md hown hK hP m0 rfl rfl 2 rfl (by decide) (htb (.fieldLink R_Md 14 "WaterMenModel" "stairs" "I") tw_477) (fun _ h9 => h9) rfl d_Md_isStairs_3 ?_
  refine lv_iconst (v := 1) hx hb d_Md_isStairs_6 (by decide +kernel) ?_
  refine lv_isub hx hb d_Md_isStairs_7 ?_
  refine vp_callSi (va_Run.run (va_runS (As := [.int p_0, .int 0, .int ((ti f q0 2) - 1)]) (rest := []) ⟨hx, hb, hml, hown, htb⟩ (c_Md_in l p_0 0 ((ti f q0 2) - 1)) (cwS 3 htb (gd_S tw_480 tw_481 tw_479 tw_478) rfl rfl rfl (by decide +kernel) ⟨Nat.le_of_ble_eq_true rfl, Nat.le_of_ble_eq_true rfl⟩) ⟨fun _ _ _ _ h => h, fun U _ _ => ⟨rfl, trivial⟩⟩ rfl rfl hl.1 rfl (lv_room (Nat.le_of_ble_eq_true rfl)) d_Md_isStairs_8 ⟨Nat.le_of_ble_eq_true rfl, Nat.le_of_ble_eq_true rfl⟩)) (fun r er => ?_)
  subst er
  by_cases c_3 : p_0 < 0
  · refine hb_ti 0 (by unfold f_Md_in; rw [if_pos c_3]; first | done | rfl) ?_
    exact W.zret (v := 0) hx hb hr (by decide +kernel) (fun t ht hW => ⟨0, rfl, (Or.inl ⟨rfl, trivial⟩), ht⟩) t_nil d_Md_isStairs_11
  · by_cases c_4 : ((ti f q0 2) - 1) < p_0
    · refine hb_ti 0 (by unfold f_Md_in; rw [if_neg c_3, if_pos c_4]; first | done | rfl) ?_
      exact W.zret (v := 0) hx hb hr (by decide +kernel) (fun t ht hW => ⟨0, rfl, (Or.inl ⟨rfl, trivial⟩), ht⟩) t_nil d_Md_isStairs_11
    · refine hb_ti 1 (by unfold f_Md_in; rw [if_neg c_3, if_neg c_4]; first | done | rfl) ?_
      exact W.zret (v := 1) hx hb hr (by decide +kernel) (fun t ht hW => ⟨1, rfl, (Or.inr ⟨rfl, c_3, (show ¬ (11 < p_0) from ((fun (a_0 : Int32) (a_1 : Int32) (k_0 : ¬ (a_1 < 0)) (k_1 : ¬ (12 < a_1)) (k_2 : ¬ ((a_1 - 1) < a_0)) => (show ¬ (11 < a_0) from by have z0 : (0 : Int32).toInt = 0 := (by decide +kernel); have z1 : (1 : Int32).toInt = 1 := (by decide +kernel); have z2 : (11 : Int32).toInt = 11 := (by decide +kernel); have z3 : (12 : Int32).toInt = 12 := (by decide +kernel); have r0 := fb_rng (a_0); have r1 := fb_rng (a_1); have e0 := k_0; rw [Int32.lt_iff_toInt_lt, z0] at e0; have e1 := k_1; rw [Int32.lt_iff_toInt_lt, z3] at e1; obtain ⟨n_0, hn_0, s0⟩ := nd_sub (x := a_1) (y := (1 : Int32)) (by (try rw [z1]); omega) (by (try rw [z1]); omega); rw [z1] at s0; have e2 := k_2; rw [hn_0, Int32.lt_iff_toInt_lt] at e2; rw [Int32.lt_iff_toInt_lt, z2]; omega)) p_0 (ti f q0 2) bs_1.1 bs_1.2 c_4)), (show ¬ ((ti f q0 2) ≤ p_0) from ((fun (a_0 : Int32) (a_1 : Int32) (k_0 : ¬ (a_1 < 0)) (k_1 : ¬ ((a_1 - 1) < a_0)) => (show ¬ (a_1 ≤ a_0) from by have z0 : (0 : Int32).toInt = 0 := (by decide +kernel); have z1 : (1 : Int32).toInt = 1 := (by decide +kernel); have r0 := fb_rng (a_0); have r1 := fb_rng (a_1); have e0 := k_0; rw [Int32.lt_iff_toInt_lt, z0] at e0; obtain ⟨n_0, hn_0, s0⟩ := nd_sub (x := a_1) (y := (1 : Int32)) (by (try rw [z1]); omega) (by (try rw [z1]); omega); rw [z1] at s0; have e1 := k_1; rw [hn_0, Int32.lt_iff_toInt_lt] at e1; rw [Int32.le_iff_toInt_le]; omega)) p_0 (ti f q0 2) bs_1.1 c_4)), trivial⟩), ht⟩) t_nil d_Md_isStairs_11
set_option maxHeartbeats 4000000 in
set_option maxRecDepth 100000 in
theorem c_Md_levelOf_t (l : Launch) (dC : Nat → ClassId) (dI : Nat → Nat → Nat) (ct : Nat → ClassId) (L : List Nat) (f : TF) (hO_0 : Ok L f) (q0 : Nat) (m0 : q0 ∈ L ∧ tk f q0 = 27) (p_0 : Int32) (p_1 : Int32)  (as_0 : ¬ (p_0 < 0)) (as_1 : ¬ (500 < p_0)) (as_2 : ¬ (p_1 < 0)) (as_3 : ¬ (11 < p_1)) : Met l y_Md_levelOf (.code y_Md_levelOf b_Md_levelOf 3 (some .int) :: TB) ({ frames := 0, cells := 0, slots := 0, locals := 0 }) (va_Pc [.ref q0, .int p_0, .int p_1] (PR dC dI (TW ct L f) (TT ct))) (vp_Si (fun r => True)) 0 0 (fun _ => False) := by
  refine Met.ofW (cc := b_Md_levelOf) (maxL := 3) (ret := (some .int)) (by decide) rfl ?_
  intro p e s m args below meth c s₁ B hml hv
  obtain ⟨rfl, hP, hK, hN⟩ := hv
  have hx := B.exec
  have hb := B.bytes
  have hr := B.returns
  have hts := atoms_spec (ws := (.code y_Md_levelOf b_Md_levelOf 3 (some .int) :: TB)) B.pre
  have htb := fun w (h : w ∈ TB) => hts w (List.mem_cons_of_mem _ h)
  have hown : s.vm.findClass R_Md = some m.cls := findClass_of_methodNamed B.named
  have hlocks := B.notSynchronized
  have hl := lv_entry ([.ref q0, .int p_0, .int p_1]) (n := 3) (Nat.le_of_ble_eq_true rfl)
  rw [lg_entry_eq]
  generalize (lg_sl ([.ref q0, .int p_0, .int p_1]) ++ List.replicate (3 - (lg_sl ([.ref q0, .int p_0, .int p_1])).length) Slot.unset).toArray = ls at hl ⊢
  have hl : lv_has ls 3 [(0, .ref q0), (1, .int p_0), (2, .int p_1)] := hl
  refine lv_iload_n hx hb d_Md_levelOf_0 rfl (lv_at hl 1 rfl) ?_
  refine lv_sipush (v := 500) hx hb d_Md_levelOf_1 (by decide +kernel) ?_
  refine lv_icmp_ge (tgt := 30) hx hb d_Md_levelOf_4 (by decide) (fun c_1 => ?_) (fun c_1 => ?_)
  · refine lv_aload_n hx hb d_Md_levelOf_30 rfl (lv_at hl 0 rfl) ?_
    refine tw_getr (D := (dC, dI)) (C := R_Md) (T := F_Md) (N := 64) (ci := 7) (kd := 27) (ct := ct) hx hb htb i_Md hown hK hP hO_0 m0 rfl rfl 5 (by decide) (htb (.fieldLink R_Md 25 "WaterMenModel" "table" "[I") tw_482) (fun _ h9 => h9) rfl d_Md_levelOf_31 (fun q_2 e_2 m_2 => ?_)
    refine lv_iload_n hx hb d_Md_levelOf_34 rfl (lv_at hl 2 rfl) ?_
    refine lv_iload_n hx hb d_Md_levelOf_35 rfl (lv_at hl 1 rfl) ?_
    refine lv_iadd hx hb d_Md_levelOf_36 ?_
    refine lv_bipush (v := 12) hx hb d_Md_levelOf_37 (by decide +kernel) ?_
    refine lv_irem hx hb d_Md_levelOf_39 (by decide) ?_
    refine hb_remn (c := 12) (C1 := 11) (K := 2147483635) (by decide +kernel) (by decide +kernel) (by decide +kernel) (show ¬ ((p_1 + p_0) < 0) from ((fun (a_0 : Int32) (a_1 : Int32) (k_0 : ¬ (500 < a_0)) (k_1 : ¬ (a_1 < 0)) (k_2 : ¬ (11 < a_1)) (k_3 : 500 ≤ a_0) => (show ¬ ((a_1 + a_0) < 0) from by have z0 : (0 : Int32).toInt = 0 := (by decide +kernel); have z1 : (11 : Int32).toInt = 11 := (by decide +kernel); have z2 : (500 : Int32).toInt = 500 := (by decide +kernel); have r0 := fb_rng (a_0); have r1 := fb_rng (a_1); have e0 := k_0; rw [Int32.lt_iff_toInt_lt, z2] at e0; have e1 := k_1; rw [Int32.lt_iff_toInt_lt, z0] at e1; have e2 := k_2; rw [Int32.lt_iff_toInt_lt, z1] at e2; have e3 := k_3; rw [Int32.le_iff_toInt_le, z2] at e3; obtain ⟨n_0, hn_0, s0⟩ := nd_add (x := (a_1)) (y := (a_0)) (by omega) (by omega); rw [hn_0, Int32.lt_iff_toInt_lt, z0]; omega)) p_0 p_1 as_1 as_2 as_3 c_1)) (show ¬ (2147483635 < (p_1 + p_0)) from ((fun (a_0 : Int32) (a_1 : Int32) (k_0 : ¬ (500 < a_0)) (k_1 : ¬ (11 < a_1)) (k_2 : 500 ≤ a_0) => (show ¬ (2147483635 < (a_1 + a_0)) from by have z0 : (11 : Int32).toInt = 11 := (by decide +kernel); have z1 : (500 : Int32).toInt = 500 := (by decide +kernel); have z2 : (2147483635 : Int32).toInt = 2147483635 := (by decide +kernel); have r0 := fb_rng (a_0); have r1 := fb_rng (a_1); have e0 := k_0; rw [Int32.lt_iff_toInt_lt, z1] at e0; have e1 := k_1; rw [Int32.lt_iff_toInt_lt, z0] at e1; have e2 := k_2; rw [Int32.le_iff_toInt_le, z1] at e2; obtain ⟨n_0, hn_0, s0⟩ := nd_add (x := (a_1)) (y := (a_0)) (by omega) (by omega); rw [hn_0, Int32.lt_iff_toInt_lt, z2]; omega)) p_0 p_1 as_1 as_3 c_1)) (fun y_3 qu_3 g1_3 g2_3 g3_3 g4_3 g5_3 g9_3 => ?_)
    refine tw_aldI (ct := ct) hx hb hK hP hO_0 m_2 rfl (hb_inl g1_3 g2_3 (by decide +kernel)) d_Md_levelOf_40 (fun x_4 e_4 b_4 => ?_)
    exact W.iret (v := x_4) hx hb hr (fun t ht hW => ⟨x_4, rfl, trivial, ht⟩) t_nil d_Md_levelOf_41
  · refine lv_aload_n hx hb d_Md_levelOf_7 rfl (lv_at hl 0 rfl) ?_
    refine tw_getr (D := (dC, dI)) (C := R_Md) (T := F_Md) (N := 64) (ci := 7) (kd := 27) (ct := ct) hx hb htb i_Md hown hK hP hO_0 m0 rfl rfl 6 (by decide) (htb (.fieldLink R_Md 17 "WaterMenModel" "hasRow" "[Z") tw_483) (fun _ h9 => h9) rfl d_Md_levelOf_8 (fun q_5 e_5 m_5 => ?_)
    refine lv_iload_n hx hb d_Md_levelOf_11 rfl (lv_at hl 1 rfl) ?_
    refine tw_aldZ (ct := ct) hx hb hK hP hO_0 m_5 rfl (hb_in as_0 c_1 (by decide +kernel)) d_Md_levelOf_12 (fun x_6 e_6 b_6 => ?_)
    refine lv_if_eq (tgt := 30) hx hb d_Md_levelOf_13 (by decide) (fun c_7 => ?_) (fun c_7 => ?_)
    · refine lv_aload_n hx hb d_Md_levelOf_30 rfl (lv_at hl 0 rfl) ?_
      refine tw_getr (D := (dC, dI)) (C := R_Md) (T := F_Md) (N := 64) (ci := 7) (kd := 27) (ct := ct) hx hb htb i_Md hown hK hP hO_0 m0 rfl rfl 5 (by decide) (htb (.fieldLink R_Md 25 "WaterMenModel" "table" "[I") tw_482) (fun _ h9 => h9) rfl d_Md_levelOf_31 (fun q_8 e_8 m_8 => ?_)
      refine lv_iload_n hx hb d_Md_levelOf_34 rfl (lv_at hl 2 rfl) ?_
      refine lv_iload_n hx hb d_Md_levelOf_35 rfl (lv_at hl 1 rfl) ?_
      refine lv_iadd hx hb d_Md_levelOf_36 ?_
      refine lv_bipush (v := 12) hx hb d_Md_levelOf_37 (by decide +kernel) ?_
      refine lv_irem hx hb d_Md_levelOf_39 (by decide) ?_
      refine hb_remn (c := 12) (C1 := 11) (K := 2147483635) (by decide +kernel) (by decide +kernel) (by decide +kernel) (show ¬ ((p_1 + p_0) < 0) from ((fun (a_0 : Int32) (a_1 : Int32) (k_0 : ¬ (a_0 < 0)) (k_1 : ¬ (a_1 < 0)) (k_2 : ¬ (11 < a_1)) (k_3 : ¬ (500 ≤ a_0)) => (show ¬ ((a_1 + a_0) < 0) from by have z0 : (0 : Int32).toInt = 0 := (by decide +kernel); have z1 : (11 : Int32).toInt = 11 := (by decide +kernel); have z2 : (500 : Int32).toInt = 500 := (by decide +kernel); have r0 := fb_rng (a_0); have r1 := fb_rng (a_1); have e0 := k_0; rw [Int32.lt_iff_toInt_lt, z0] at e0; have e1 := k_1; rw [Int32.lt_iff_toInt_lt, z0] at e1; have e2 := k_2; rw [Int32.lt_iff_toInt_lt, z1] at e2; have e3 := k_3; rw [Int32.le_iff_toInt_le, z2] at e3; obtain ⟨n_0, hn_0, s0⟩ := nd_add (x := (a_1)) (y := (a_0)) (by omega) (by omega); rw [hn_0, Int32.lt_iff_toInt_lt, z0]; omega)) p_0 p_1 as_0 as_2 as_3 c_1)) (show ¬ (2147483635 < (p_1 + p_0)) from ((fun (a_0 : Int32) (a_1 : Int32) (k_0 : ¬ (a_1 < 0)) (k_1 : ¬ (11 < a_1)) (k_2 : ¬ (500 ≤ a_0)) => (show ¬ (2147483635 < (a_1 + a_0)) from by have z0 : (0 : Int32).toInt = 0 := (by decide +kernel); have z1 : (11 : Int32).toInt = 11 := (by decide +kernel); have z2 : (500 : Int32).toInt = 500 := (by decide +kernel); have z3 : (2147483635 : Int32).toInt = 2147483635 := (by decide +kernel); have r0 := fb_rng (a_0); have r1 := fb_rng (a_1); have e0 := k_0; rw [Int32.lt_iff_toInt_lt, z0] at e0; have e1 := k_1; rw [Int32.lt_iff_toInt_lt, z1] at e1; have e2 := k_2; rw [Int32.le_iff_toInt_le, z2] at e2; obtain ⟨n_0, hn_0, s0⟩ := nd_add (x := (a_1)) (y := (a_0)) (by omega) (by omega); rw [hn_0, Int32.lt_iff_toInt_lt, z3]; omega)) p_0 p_1 as_2 as_3 c_1)) (fun y_9 qu_9 g1_9 g2_9 g3_9 g4_9 g5_9 g9_9 => ?_)
      refine tw_aldI (ct := ct) hx hb hK hP hO_0 m_8 rfl (hb_inl g1_9 g2_9 (by decide +kernel)) d_Md_levelOf_40 (fun x_10 e_10 b_10 => ?_)
      exact W.iret (v := x_10) hx hb hr (fun t ht hW => ⟨x_10, rfl, trivial, ht⟩) t_nil d_Md_levelOf_41
    · refine lv_aload_n hx hb d_Md_levelOf_16 rfl (lv_at hl 0 rfl) ?_
      refine tw_getr (D := (dC, dI)) (C := R_Md) (T := F_Md) (N := 64) (ci := 7) (kd := 27) (ct := ct) hx hb htb i_Md hown hK hP hO_0 m0 rfl rfl 7 (by decide) (htb (.fieldLink R_Md 21 "WaterMenModel" "rows" "[I") tw_484) (fun _ h9 => h9) rfl d_Md_levelOf_17 (fun q_11 e_11 m_11 => ?_)
      refine lv_bipush (v := 12) hx hb d_Md_levelOf_20 (by decide +kernel) ?_
      refine lv_iload_n hx hb d_Md_levelOf_22 rfl (lv_at hl 1 rfl) ?_
      refine lv_imul hx hb d_Md_levelOf_23 ?_
      refine lv_iload_n hx hb d_Md_levelOf_24 rfl (lv_at hl 2 rfl) ?_
      refine lv_iadd hx hb d_Md_levelOf_25 ?_
      refine tw_aldI (ct := ct) hx hb hK hP hO_0 m_11 rfl ((fun (a_0 : Int32) (a_1 : Int32) (k_0 : ¬ (a_0 < 0)) (k_1 : ¬ (a_1 < 0)) (k_2 : ¬ (11 < a_1)) (k_3 : ¬ (500 ≤ a_0)) => (show vp_in (((12 * a_0) + a_1)) 6000 from by have z0 : (0 : Int32).toInt = 0 := (by decide +kernel); have z1 : (11 : Int32).toInt = 11 := (by decide +kernel); have z2 : (12 : Int32).toInt = 12 := (by decide +kernel); have z3 : (500 : Int32).toInt = 500 := (by decide +kernel); have r0 := fb_rng (a_0); have r1 := fb_rng (a_1); have e0 := k_0; rw [Int32.lt_iff_toInt_lt, z0] at e0; have e1 := k_1; rw [Int32.lt_iff_toInt_lt, z0] at e1; have e2 := k_2; rw [Int32.lt_iff_toInt_lt, z1] at e2; have e3 := k_3; rw [Int32.le_iff_toInt_le, z3] at e3; obtain ⟨n_0, hn_0, s0⟩ := nd_mul (x := (12 : Int32)) (y := (a_0)) (by (try rw [z2]); omega) (by (try rw [z2]); omega); rw [z2] at s0; obtain ⟨n_1, hn_1, s1⟩ := nd_add (x := n_0) (y := (a_1)) (by omega) (by omega); rw [hn_0, hn_1, vp_in_iff]; omega)) p_0 p_1 as_0 as_2 as_3 c_1) d_Md_levelOf_26 (fun x_12 e_12 b_12 => ?_)
      refine lv_goto (tgt := 41) hx hb d_Md_levelOf_27 (by decide) ?_
      exact W.iret (v := x_12) hx hb hr (fun t ht hW => ⟨x_12, rfl, trivial, ht⟩) t_nil d_Md_levelOf_41
set_option maxHeartbeats 4000000 in
set_option maxRecDepth 100000 in
theorem c_Md_flowOf_t (l : Launch) (dC : Nat → ClassId) (dI : Nat → Nat → Nat) (ct : Nat → ClassId) (L : List Nat) (f : TF) (hO_0 : Ok L f) (q0 : Nat) (m0 : q0 ∈ L ∧ tk f q0 = 27) (p_0 : Int32) (p_1 : Int32)  (as_0 : ¬ (p_0 < 0)) (as_1 : ¬ (499 < p_0)) (as_2 : ¬ (p_1 < 0)) (as_3 : ¬ (11 < p_1)) : Met l y_Md_flowOf (.code y_Md_flowOf b_Md_flowOf 3 (some .int) :: TB) ({ frames := 1, cells := 0, slots := 0, locals := 22 }) (va_Pc [.ref q0, .int p_0, .int p_1] (PR dC dI (TW ct L f) (TT ct))) (vp_Si (fun r => True)) 0 0 (fun _ => False) := by
  refine Met.ofW (cc := b_Md_flowOf) (maxL := 3) (ret := (some .int)) (by decide) rfl ?_
  intro p e s m args below meth c s₁ B hml hv
  obtain ⟨rfl, hP, hK, hN⟩ := hv
  have hx := B.exec
  have hb := B.bytes
  have hr := B.returns
  have hts := atoms_spec (ws := (.code y_Md_flowOf b_Md_flowOf 3 (some .int) :: TB)) B.pre
  have htb := fun w (h : w ∈ TB) => hts w (List.mem_cons_of_mem _ h)
  have hown : s.vm.findClass R_Md = some m.cls := findClass_of_methodNamed B.named
  have hlocks := B.notSynchronized
  have hl := lv_entry ([.ref q0, .int p_0, .int p_1]) (n := 3) (Nat.le_of_ble_eq_true rfl)
  rw [lg_entry_eq]
  generalize (lg_sl ([.ref q0, .int p_0, .int p_1]) ++ List.replicate (3 - (lg_sl ([.ref q0, .int p_0, .int p_1])).length) Slot.unset).toArray = ls at hl ⊢
  have hl : lv_has ls 3 [(0, .ref q0), (1, .int p_0), (2, .int p_1)] := hl
  refine lv_iload_n hx hb d_Md_flowOf_0 rfl (lv_at hl 2 rfl) ?_
  refine lv_bipush (v := 11) hx hb d_Md_flowOf_1 (by decide +kernel) ?_
  refine lv_icmp_ne (tgt := 17) hx hb d_Md_flowOf_3 (by decide) (fun c_1 => ?_) (fun c_1 => ?_)
  · refine lv_aload_n hx hb d_Md_flowOf_17 rfl (lv_at hl 0 rfl) ?_
    refine lv_iload_n hx hb d_Md_flowOf_18 rfl (lv_at hl 1 rfl) ?_
    refine lv_iload_n hx hb d_Md_flowOf_19 rfl (lv_at hl 2 rfl) ?_
    refine lv_iconst (v := 1) hx hb d_Md_flowOf_20 (by decide +kernel) ?_
    refine lv_iadd hx hb d_Md_flowOf_21 ?_
    refine vp_callSi (va_Run.run (va_runV (As := [.int p_0, .int (p_1 + 1)]) (rest := []) ⟨hx, hb, hml, hown, htb⟩ (c_Md_levelOf_t l dC dI ct L f hO_0 q0 m0 p_0 (p_1 + 1) as_0 (show ¬ (500 < p_0) from by have e0 := as_0; rw [Int32.lt_iff_toInt_lt] at e0; have e1 := as_1; rw [Int32.lt_iff_toInt_lt] at e1; have z0 : (0 : Int32).toInt = 0 := (by decide +kernel); have z1 : (499 : Int32).toInt = 499 := (by decide +kernel); have z2 : (500 : Int32).toInt = 500 := (by decide +kernel); rw [Int32.lt_iff_toInt_lt]; omega) (show ¬ ((p_1 + 1) < 0) from by have e0 := as_2; rw [Int32.lt_iff_toInt_lt] at e0; have e1 := as_3; rw [Int32.lt_iff_toInt_lt] at e1; have e2 := c_1; rw [← Int32.toInt_inj] at e2; have z0 : (0 : Int32).toInt = 0 := (by decide +kernel); have z1 : (1 : Int32).toInt = 1 := (by decide +kernel); have z2 : (11 : Int32).toInt = 11 := (by decide +kernel); have ss := fb_addI (x := p_1) (y := 1) (by omega) (by omega); rw [Int32.lt_iff_toInt_lt]; omega) (show ¬ (11 < (p_1 + 1)) from by have e0 := as_2; rw [Int32.lt_iff_toInt_lt] at e0; have e1 := as_3; rw [Int32.lt_iff_toInt_lt] at e1; have e2 := c_1; rw [← Int32.toInt_inj] at e2; have z0 : (0 : Int32).toInt = 0 := (by decide +kernel); have z1 : (1 : Int32).toInt = 1 := (by decide +kernel); have z2 : (11 : Int32).toInt = 11 := (by decide +kernel); have ss := fb_addI (x := p_1) (y := 1) (by omega) (by omega); rw [Int32.lt_iff_toInt_lt]; omega)) (cwV 2 htb (gd_V tw_486 tw_487 tw_488 tw_479 tw_485) rfl rfl rfl (by decide +kernel) ⟨Nat.le_of_ble_eq_true rfl, Nat.le_of_ble_eq_true rfl⟩) ⟨pr_blind, tw_recv hK hP m0 rfl rfl, pr_pre hP hK hN⟩ rfl rfl hl.1 rfl (lv_room (Nat.le_of_ble_eq_true rfl)) d_Md_flowOf_22 ⟨Nat.le_of_ble_eq_true rfl, Nat.le_of_ble_eq_true rfl⟩)) (fun r_2 er_2 => ?_)
    clear er_2
    refine lv_aload_n hx hb d_Md_flowOf_25 rfl (lv_at hl 0 rfl) ?_
    refine lv_iload_n hx hb d_Md_flowOf_26 rfl (lv_at hl 1 rfl) ?_
    refine lv_iload_n hx hb d_Md_flowOf_27 rfl (lv_at hl 2 rfl) ?_
    refine vp_callSi (va_Run.run (va_runV (As := [.int p_0, .int p_1]) (rest := [.int r_2]) ⟨hx, hb, hml, hown, htb⟩ (c_Md_levelOf_t l dC dI ct L f hO_0 q0 m0 p_0 p_1 as_0 (show ¬ (500 < p_0) from by have e0 := as_0; rw [Int32.lt_iff_toInt_lt] at e0; have e1 := as_1; rw [Int32.lt_iff_toInt_lt] at e1; have z0 : (0 : Int32).toInt = 0 := (by decide +kernel); have z1 : (499 : Int32).toInt = 499 := (by decide +kernel); have z2 : (500 : Int32).toInt = 500 := (by decide +kernel); rw [Int32.lt_iff_toInt_lt]; omega) as_2 as_3) (cwV 2 htb (gd_V tw_486 tw_487 tw_488 tw_479 tw_485) rfl rfl rfl (by decide +kernel) ⟨Nat.le_of_ble_eq_true rfl, Nat.le_of_ble_eq_true rfl⟩) ⟨pr_blind, tw_recv hK hP m0 rfl rfl, pr_pre hP hK hN⟩ rfl rfl hl.1 rfl (lv_room (Nat.le_of_ble_eq_true rfl)) d_Md_flowOf_28 ⟨Nat.le_of_ble_eq_true rfl, Nat.le_of_ble_eq_true rfl⟩)) (fun r_3 er_3 => ?_)
    clear er_3
    refine lv_isub hx hb d_Md_flowOf_31 ?_
    exact W.iret (v := (r_2 - r_3)) hx hb hr (fun t ht hW => ⟨(r_2 - r_3), rfl, trivial, ht⟩) t_nil d_Md_flowOf_32
  · refine lv_aload_n hx hb d_Md_flowOf_6 rfl (lv_at hl 0 rfl) ?_
    refine lv_iload_n hx hb d_Md_flowOf_7 rfl (lv_at hl 1 rfl) ?_
    refine lv_iconst (v := 1) hx hb d_Md_flowOf_8 (by decide +kernel) ?_
    refine lv_iadd hx hb d_Md_flowOf_9 ?_
    refine lv_iconst (v := 0) hx hb d_Md_flowOf_10 (by decide +kernel) ?_
    refine vp_callSi (va_Run.run (va_runV (As := [.int (p_0 + 1), .int 0]) (rest := []) ⟨hx, hb, hml, hown, htb⟩ (c_Md_levelOf_t l dC dI ct L f hO_0 q0 m0 (p_0 + 1) (0 : Int32) (show ¬ ((p_0 + 1) < 0) from by have e0 := as_0; rw [Int32.lt_iff_toInt_lt] at e0; have e1 := as_1; rw [Int32.lt_iff_toInt_lt] at e1; have z0 : (0 : Int32).toInt = 0 := (by decide +kernel); have z1 : (1 : Int32).toInt = 1 := (by decide +kernel); have z2 : (499 : Int32).toInt = 499 := (by decide +kernel); have ss := fb_addI (x := p_0) (y := 1) (by omega) (by omega); rw [Int32.lt_iff_toInt_lt]; omega) (show ¬ (500 < (p_0 + 1)) from by have e0 := as_0; rw [Int32.lt_iff_toInt_lt] at e0; have e1 := as_1; rw [Int32.lt_iff_toInt_lt] at e1; have z0 : (0 : Int32).toInt = 0 := (by decide +kernel); have z1 : (1 : Int32).toInt = 1 := (by decide +kernel); have z2 : (499 : Int32).toInt = 499 := (by decide +kernel); have z3 : (500 : Int32).toInt = 500 := (by decide +kernel); have ss := fb_addI (x := p_0) (y := 1) (by omega) (by omega); rw [Int32.lt_iff_toInt_lt]; omega) (by decide +kernel) (by decide +kernel)) (cwV 2 htb (gd_V tw_486 tw_487 tw_488 tw_479 tw_485) rfl rfl rfl (by decide +kernel) ⟨Nat.le_of_ble_eq_true rfl, Nat.le_of_ble_eq_true rfl⟩) ⟨pr_blind, tw_recv hK hP m0 rfl rfl, pr_pre hP hK hN⟩ rfl rfl hl.1 rfl (lv_room (Nat.le_of_ble_eq_true rfl)) d_Md_flowOf_11 ⟨Nat.le_of_ble_eq_true rfl, Nat.le_of_ble_eq_true rfl⟩)) (fun r_4 er_4 => ?_)
    clear er_4
    refine lv_goto (tgt := 25) hx hb d_Md_flowOf_14 (by decide) ?_
    refine lv_aload_n hx hb d_Md_flowOf_25 rfl (lv_at hl 0 rfl) ?_
    refine lv_iload_n hx hb d_Md_flowOf_26 rfl (lv_at hl 1 rfl) ?_
    refine lv_iload_n hx hb d_Md_flowOf_27 rfl (lv_at hl 2 rfl) ?_
    refine vp_callSi (va_Run.run (va_runV (As := [.int p_0, .int p_1]) (rest := [.int r_4]) ⟨hx, hb, hml, hown, htb⟩ (c_Md_levelOf_t l dC dI ct L f hO_0 q0 m0 p_0 p_1 as_0 (show ¬ (500 < p_0) from by have e0 := as_0; rw [Int32.lt_iff_toInt_lt] at e0; have e1 := as_1; rw [Int32.lt_iff_toInt_lt] at e1; have z0 : (0 : Int32).toInt = 0 := (by decide +kernel); have z1 : (499 : Int32).toInt = 499 := (by decide +kernel); have z2 : (500 : Int32).toInt = 500 := (by decide +kernel); rw [Int32.lt_iff_toInt_lt]; omega) as_2 as_3) (cwV 2 htb (gd_V tw_486 tw_487 tw_488 tw_479 tw_485) rfl rfl rfl (by decide +kernel) ⟨Nat.le_of_ble_eq_true rfl, Nat.le_of_ble_eq_true rfl⟩) ⟨pr_blind, tw_recv hK hP m0 rfl rfl, pr_pre hP hK hN⟩ rfl rfl hl.1 rfl (lv_room (Nat.le_of_ble_eq_true rfl)) d_Md_flowOf_28 ⟨Nat.le_of_ble_eq_true rfl, Nat.le_of_ble_eq_true rfl⟩)) (fun r_5 er_5 => ?_)
    clear er_5
    refine lv_isub hx hb d_Md_flowOf_31 ?_
    exact W.iret (v := (r_4 - r_5)) hx hb hr (fun t ht hW => ⟨(r_4 - r_5), rfl, trivial, ht⟩) t_nil d_Md_flowOf_32
def W_Md_stairs_t : List (Nat × Nat) := [(27, 2), (28, 1000)]
set_option maxHeartbeats 4000000 in
set_option maxRecDepth 100000 in
theorem c_Md_stairs_t (l : Launch) (dC : Nat → ClassId) (dI : Nat → Nat → Nat) (ct : Nat → ClassId) (L : List Nat) (f : TF) (hO_0 : Ok L f) (q0 : Nat) (m0 : q0 ∈ L ∧ tk f q0 = 27) (sz : Nat) (p_0 : Int32)   : Met l y_Md_stairs (.code y_Md_stairs b_Md_stairs 2 (some .int) :: TB) ({ frames := 1, cells := 0, slots := 0, locals := 22 }) (va_Pc [.ref q0, .int p_0] (PC dC dI (TW ct L f) (TT ct) sz)) (va_Qi (fun r (u : TSt) => Ok u.1 u.2 ∧ Ext W_Md_stairs_t L f u.1 u.2 ∧ (True)) (fun (u : TSt) t => va_P (dC, dI) vwCl (TW ct u.1 u.2) t.heap ∧ va_K (dC, dI) vwCl (TT ct) t ∧ va_D (va_A (TW ct L f) sz) (TW ct u.1 u.2)) (va_A (TW ct L f) sz)) 0 0 (va_A (TW ct L f) sz) := by
  refine Met.ofW (cc := b_Md_stairs) (maxL := 2) (ret := (some .int)) (by decide) rfl ?_
  intro p e s m args below meth c s₁ B hml hv
  obtain ⟨rfl, hsz, hP, hK, hD0, hN⟩ := hv
  have hx := B.exec
  have hb := B.bytes
  have hr := B.returns
  have hts := atoms_spec (ws := (.code y_Md_stairs b_Md_stairs 2 (some .int) :: TB)) B.pre
  have htb := fun w (h : w ∈ TB) => hts w (List.mem_cons_of_mem _ h)
  have hown : s.vm.findClass R_Md = some m.cls := findClass_of_methodNamed B.named
  have hlocks := B.notSynchronized
  have hl := lv_entry ([.ref q0, .int p_0]) (n := 2) (Nat.le_of_ble_eq_true rfl)
  rw [lg_entry_eq]
  generalize (lg_sl ([.ref q0, .int p_0]) ++ List.replicate (2 - (lg_sl ([.ref q0, .int p_0])).length) Slot.unset).toArray = ls at hl ⊢
  have hl : lv_has ls 2 [(0, .ref q0), (1, .int p_0)] := hl
  subst hsz
  have hD := hD0.self (sz := s.heap.size)
  obtain ⟨A, hAe⟩ : ∃ A, va_A (TW ct L f) s.heap.size = A := ⟨_, rfl⟩
  rw [hAe] at hD
  have hA : ∀ q : Nat, s.heap.size ≤ q → A q := fun q h => by rw [← hAe]; exact Or.inr h
  have hS : va_S A s.heap s.heap [] := va_S.rf
  have hA_0 : Ext [] L f L f := Ext.rf
  suffices hGo : ∀ (H : Heap) (locs : List Loc), va_P (dC, dI) vwCl (TW ct L f) H → va_S A s.heap H locs → W p l e (headSpec (.code y_Md_stairs b_Md_stairs 2 (some .int) :: TB) ({ frames := 1, cells := 0, slots := 0, locals := 22 })).room s m [.ref q0, .int p_0].toArray below meth c H locs 0 0 (MQ below (va_Qi (fun r (u : TSt) => Ok u.1 u.2 ∧ Ext W_Md_stairs_t L f u.1 u.2 ∧ (True)) (fun (u : TSt) t => va_P (dC, dI) vwCl (TW ct u.1 u.2) t.heap ∧ va_K (dC, dI) vwCl (TT ct) t ∧ va_D (va_A (TW ct L f) s.heap.size) (TW ct u.1 u.2)) (va_A (TW ct L f) s.heap.size)) [.ref q0, .int p_0].toArray s 0 0 (va_A (TW ct L f) s.heap.size)) (F0 m 0 ls []) from hGo _ _ hP hS
  clear hP hS
  intro H locs hP hS
  refine lv_iload_n hx hb d_Md_stairs_0 rfl (lv_at hl 1 rfl) ?_
  refine lv_iconst (v := 0) hx hb d_Md_stairs_1 (by decide +kernel) ?_
  refine lv_bipush (v := 60) hx hb d_Md_stairs_2 (by decide +kernel) ?_
  refine vp_callSi (va_Run.run (va_runS (As := [.int p_0, .int 0, .int 60]) (rest := []) ⟨hx, hb, hml, hown, htb⟩ (c_Md_in l p_0 0 60) (cwS 3 htb (gd_S tw_480 tw_481 tw_479 tw_478) rfl rfl rfl (by decide +kernel) ⟨Nat.le_of_ble_eq_true rfl, Nat.le_of_ble_eq_true rfl⟩) ⟨fun _ _ _ _ h => h, fun U _ _ => ⟨rfl, trivial⟩⟩ rfl rfl hl.1 rfl (lv_room (Nat.le_of_ble_eq_true rfl)) d_Md_stairs_4 ⟨Nat.le_of_ble_eq_true rfl, Nat.le_of_ble_eq_true rfl⟩)) (fun r er => ?_)
  subst er
  by_cases c_2 : p_0 < 0
  · refine hb_ti 0 (by unfold f_Md_in; rw [if_pos c_2]; first | done | rfl) ?_
    refine lv_if_eq (tgt := 32) hx hb d_Md_stairs_7 (by decide) (fun _ => ?_) (fun h => absurd (by decide +kernel) h)
    refine lv_iconst (v := (-1)) hx hb d_Md_stairs_32 (by decide +kernel) ?_
    refine W.widen (k := 0) (n := 0) (Nat.le_of_ble_eq_true rfl) (Nat.le_of_ble_eq_true rfl) ?_
    exact W.iret (v := (-1)) hx hb hr (fun t ht hW => ⟨⟨(-1), (L, f), rfl, ⟨hO_0, hA_0.mono (by decide +kernel), trivial⟩, by rw [ht]; exact hP, va_K.moved hW.alike hK, by rw [hAe]; exact hD⟩, by rw [hAe]; exact hS.F ht⟩) (by rw [hAe]; exact hS.2.2) d_Md_stairs_33
  · by_cases c_3 : 60 < p_0
    · refine hb_ti 0 (by unfold f_Md_in; rw [if_neg c_2, if_pos c_3]; first | done | rfl) ?_
      refine lv_if_eq (tgt := 32) hx hb d_Md_stairs_7 (by decide) (fun _ => ?_) (fun h => absurd (by decide +kernel) h)
      refine lv_iconst (v := (-1)) hx hb d_Md_stairs_32 (by decide +kernel) ?_
      refine W.widen (k := 0) (n := 0) (Nat.le_of_ble_eq_true rfl) (Nat.le_of_ble_eq_true rfl) ?_
      exact W.iret (v := (-1)) hx hb hr (fun t ht hW => ⟨⟨(-1), (L, f), rfl, ⟨hO_0, hA_0.mono (by decide +kernel), trivial⟩, by rw [ht]; exact hP, va_K.moved hW.alike hK, by rw [hAe]; exact hD⟩, by rw [hAe]; exact hS.F ht⟩) (by rw [hAe]; exact hS.2.2) d_Md_stairs_33
    · refine hb_ti 1 (by unfold f_Md_in; rw [if_neg c_2, if_neg c_3]; first | done | rfl) ?_
      refine lv_if_eq (tgt := 32) hx hb d_Md_stairs_7 (by decide) (fun h => absurd h (by decide +kernel)) (fun _ => ?_)
      refine lv_aload_n hx hb d_Md_stairs_10 rfl (lv_at hl 0 rfl) ?_
      refine tw_geti (D := (dC, dI)) (C := R_Md) (T := F_Md) (N := 64) (ci := 7) (kd := 27) (ct := ct) hx hb htb i_Md hown hK hP hO_0 m0 rfl rfl 2 (by decide) (htb (.fieldLink R_Md 14 "WaterMenModel" "stairs" "I") tw_477) (fun _ h9 => h9) rfl d_Md_stairs_11 (fun x_4 e_4 b_4 => ?_)
      refine lv_if_le (tgt := 34) hx hb d_Md_stairs_14 (by decide) (fun c_5 => ?_) (fun c_5 => ?_)
      · refine lv_aload_n hx hb d_Md_stairs_34 rfl (lv_at hl 0 rfl) ?_
        refine tw_getI (x := x_4) (D := (dC, dI)) (C := R_Md) (T := F_Md) (N := 64) (ci := 7) (kd := 27) (ct := ct) hx hb htb i_Md hown hK hP m0 rfl rfl 2 e_4 (by decide) (htb (.fieldLink R_Md 14 "WaterMenModel" "stairs" "I") tw_477) (fun _ h9 => h9) rfl d_Md_stairs_35 ?_
        refine lv_bipush (v := 12) hx hb d_Md_stairs_38 (by decide +kernel) ?_
        refine lv_icmp_ne (tgt := 46) hx hb d_Md_stairs_40 (by decide) (fun _ => ?_) (fun h => absurd h (show ¬ (x_4 = 12) from by have e0 := b_4.1; rw [Int32.lt_iff_toInt_lt] at e0; have e1 := c_5; rw [Int32.le_iff_toInt_le] at e1; have z0 : (0 : Int32).toInt = 0 := (by decide +kernel); have z1 : (12 : Int32).toInt = 12 := (by decide +kernel); rw [← Int32.toInt_inj]; omega))
        refine lv_aload_n hx hb d_Md_stairs_46 rfl (lv_at hl 0 rfl) ?_
        refine tw_getr (D := (dC, dI)) (C := R_Md) (T := F_Md) (N := 64) (ci := 7) (kd := 27) (ct := ct) hx hb htb i_Md hown hK hP hO_0 m0 rfl rfl 3 (by decide) (htb (.fieldLink R_Md 32 "WaterMenModel" "miles" "[I") tw_489) (fun _ h9 => h9) rfl d_Md_stairs_47 (fun q_6 e_6 m_6 => ?_)
        refine lv_aload_n hx hb d_Md_stairs_50 rfl (lv_at hl 0 rfl) ?_
        refine tw_getI (x := x_4) (D := (dC, dI)) (C := R_Md) (T := F_Md) (N := 64) (ci := 7) (kd := 27) (ct := ct) hx hb htb i_Md hown hK hP m0 rfl rfl 2 e_4 (by decide) (htb (.fieldLink R_Md 14 "WaterMenModel" "stairs" "I") tw_477) (fun _ h9 => h9) rfl d_Md_stairs_51 ?_
        refine lv_iload_n hx hb d_Md_stairs_54 rfl (lv_at hl 1 rfl) ?_
        refine tw_astI (ct := ct) (x := p_0) hx hb hK hP hD hS hO_0 m_6 rfl ((fun (a_0 : Int32) (k_0 : ¬ (a_0 < 0)) (k_1 : a_0 ≤ 0) => (show vp_in (a_0) 12 from by have z0 : (0 : Int32).toInt = 0 := (by decide +kernel); have r0 := fb_rng (a_0); have e0 := k_0; rw [Int32.lt_iff_toInt_lt, z0] at e0; have e1 := k_1; rw [Int32.le_iff_toInt_le, z0] at e1; rw [vp_in_iff]; omega)) x_4 b_4.1 c_5) (i32_full _) d_Md_stairs_55 (fun f_1 H locs hP hD hS hO_1 hE_1 w_7 ow_7 hF_1 => ?_)
        have hA_1 := hA_0.trans hE_1
        refine lv_aload_n hx hb d_Md_stairs_56 rfl (lv_at hl 0 rfl) ?_
        refine lv_dup hx hb d_Md_stairs_57 rfl ?_
        refine tw_getI (x := x_4) (D := (dC, dI)) (C := R_Md) (T := F_Md) (N := 64) (ci := 7) (kd := 27) (ct := ct) hx hb htb i_Md hown hK hP (hA_1.m m0) rfl rfl 2 ((hA_1.ei m0 rfl).trans e_4) (by decide) (htb (.fieldLink R_Md 14 "WaterMenModel" "stairs" "I") tw_477) (fun _ h9 => h9) rfl d_Md_stairs_58 ?_
        refine lv_iconst (v := 1) hx hb d_Md_stairs_61 (by decide +kernel) ?_
        refine lv_iadd hx hb d_Md_stairs_62 ?_
        refine tw_puti (v := (x_4 + 1)) (D := (dC, dI)) (C := R_Md) (T := F_Md) (N := 64) (ci := 7) (kd := 27) (ct := ct) (ty := .int) hx hb htb i_Md t_Md t_Md_ok n_Md hown hK hP hD hS hO_1 (hA_1.m m0) rfl rfl 2 (by decide) (htb (.fieldLink R_Md 14 "WaterMenModel" "stairs" "I") tw_477) (fun _ h9 => h9) rfl (by decide +kernel) rfl rfl rfl ⟨(show ¬ ((x_4 + 1) < 0) from by have e0 := b_4.1; rw [Int32.lt_iff_toInt_lt] at e0; have e1 := c_5; rw [Int32.le_iff_toInt_le] at e1; have z0 : (0 : Int32).toInt = 0 := (by decide +kernel); have z1 : (1 : Int32).toInt = 1 := (by decide +kernel); have ss := fb_addI (x := x_4) (y := 1) (by omega) (by omega); rw [Int32.lt_iff_toInt_lt]; omega), (show ¬ (12 < (x_4 + 1)) from by have e0 := b_4.1; rw [Int32.lt_iff_toInt_lt] at e0; have e1 := c_5; rw [Int32.le_iff_toInt_le] at e1; have z0 : (0 : Int32).toInt = 0 := (by decide +kernel); have z1 : (1 : Int32).toInt = 1 := (by decide +kernel); have z2 : (12 : Int32).toInt = 12 := (by decide +kernel); have ss := fb_addI (x := x_4) (y := 1) (by omega) (by omega); rw [Int32.lt_iff_toInt_lt]; omega)⟩ d_Md_stairs_63 (fun f_2 H locs hP hD hS hO_2 hE_2 w_8 hF_2 => ?_)
        have hA_2 := hA_1.trans hE_2
        refine lv_aload_n hx hb d_Md_stairs_66 rfl (lv_at hl 0 rfl) ?_
        refine tw_getI (x := (x_4 + 1)) (D := (dC, dI)) (C := R_Md) (T := F_Md) (N := 64) (ci := 7) (kd := 27) (ct := ct) hx hb htb i_Md hown hK hP (hA_2.m m0) rfl rfl 2 w_8 (by decide) (htb (.fieldLink R_Md 14 "WaterMenModel" "stairs" "I") tw_477) (fun _ h9 => h9) rfl d_Md_stairs_67 ?_
        refine lv_iconst (v := 1) hx hb d_Md_stairs_70 (by decide +kernel) ?_
        refine lv_isub hx hb d_Md_stairs_71 ?_
        refine W.widen (k := 0) (n := 0) (Nat.le_of_ble_eq_true rfl) (Nat.le_of_ble_eq_true rfl) ?_
        exact W.iret (v := ((x_4 + 1) - 1)) hx hb hr (fun t ht hW => ⟨⟨((x_4 + 1) - 1), (L, f_2), rfl, ⟨hO_2, hA_2.mono (by decide +kernel), trivial⟩, by rw [ht]; exact hP, va_K.moved hW.alike hK, by rw [hAe]; exact hD⟩, by rw [hAe]; exact hS.F ht⟩) (by rw [hAe]; exact hS.2.2) d_Md_stairs_72
      · refine lv_iload_n hx hb d_Md_stairs_17 rfl (lv_at hl 1 rfl) ?_
        refine lv_aload_n hx hb d_Md_stairs_18 rfl (lv_at hl 0 rfl) ?_
        refine tw_getr (D := (dC, dI)) (C := R_Md) (T := F_Md) (N := 64) (ci := 7) (kd := 27) (ct := ct) hx hb htb i_Md hown hK hP hO_0 m0 rfl rfl 3 (by decide) (htb (.fieldLink R_Md 32 "WaterMenModel" "miles" "[I") tw_489) (fun _ h9 => h9) rfl d_Md_stairs_19 (fun q_9 e_9 m_9 => ?_)
        refine lv_aload_n hx hb d_Md_stairs_22 rfl (lv_at hl 0 rfl) ?_
        refine tw_getI (x := x_4) (D := (dC, dI)) (C := R_Md) (T := F_Md) (N := 64) (ci := 7) (kd := 27) (ct := ct) hx hb htb i_Md hown hK hP m0 rfl rfl 2 e_4 (by decide) (htb (.fieldLink R_Md 14 "WaterMenModel" "stairs" "I") tw_477) (fun _ h9 => h9) rfl d_Md_stairs_23 ?_
        refine lv_iconst (v := 1) hx hb d_Md_stairs_26 (by decide +kernel) ?_
        refine lv_isub hx hb d_Md_stairs_27 ?_
        refine tw_aldI (ct := ct) hx hb hK hP hO_0 m_9 rfl ((fun (a_0 : Int32) (k_0 : ¬ (12 < a_0)) (k_1 : ¬ (a_0 ≤ 0)) => (show vp_in ((a_0 - 1)) 12 from by have z0 : (0 : Int32).toInt = 0 := (by decide +kernel); have z1 : (1 : Int32).toInt = 1 := (by decide +kernel); have z2 : (12 : Int32).toInt = 12 := (by decide +kernel); have r0 := fb_rng (a_0); have e0 := k_0; rw [Int32.lt_iff_toInt_lt, z2] at e0; have e1 := k_1; rw [Int32.le_iff_toInt_le, z0] at e1; obtain ⟨n_0, hn_0, s0⟩ := nd_sub (x := (a_0)) (y := (1 : Int32)) (by (try rw [z1]); omega) (by (try rw [z1]); omega); rw [z1] at s0; rw [hn_0, vp_in_iff]; omega)) x_4 b_4.2 c_5) d_Md_stairs_28 (fun x_10 e_10 b_10 => ?_)
        refine lv_icmp_gt (tgt := 34) hx hb d_Md_stairs_29 (by decide) (fun c_11 => ?_) (fun c_11 => ?_)
        · refine lv_aload_n hx hb d_Md_stairs_34 rfl (lv_at hl 0 rfl) ?_
          refine tw_getI (x := x_4) (D := (dC, dI)) (C := R_Md) (T := F_Md) (N := 64) (ci := 7) (kd := 27) (ct := ct) hx hb htb i_Md hown hK hP m0 rfl rfl 2 e_4 (by decide) (htb (.fieldLink R_Md 14 "WaterMenModel" "stairs" "I") tw_477) (fun _ h9 => h9) rfl d_Md_stairs_35 ?_
          refine lv_bipush (v := 12) hx hb d_Md_stairs_38 (by decide +kernel) ?_
          refine lv_icmp_ne (tgt := 46) hx hb d_Md_stairs_40 (by decide) (fun c_12 => ?_) (fun c_12 => ?_)
          · refine lv_aload_n hx hb d_Md_stairs_46 rfl (lv_at hl 0 rfl) ?_
            refine tw_getR (D := (dC, dI)) (C := R_Md) (T := F_Md) (N := 64) (ci := 7) (kd := 27) (ct := ct) hx hb htb i_Md hown hK hP m0 rfl rfl 3 e_9 (by decide) (htb (.fieldLink R_Md 32 "WaterMenModel" "miles" "[I") tw_489) (fun _ h9 => h9) rfl d_Md_stairs_47 ?_
            refine hb_tv (.ref q_9) rfl ?_
            refine lv_aload_n hx hb d_Md_stairs_50 rfl (lv_at hl 0 rfl) ?_
            refine tw_getI (x := x_4) (D := (dC, dI)) (C := R_Md) (T := F_Md) (N := 64) (ci := 7) (kd := 27) (ct := ct) hx hb htb i_Md hown hK hP m0 rfl rfl 2 e_4 (by decide) (htb (.fieldLink R_Md 14 "WaterMenModel" "stairs" "I") tw_477) (fun _ h9 => h9) rfl d_Md_stairs_51 ?_
            refine lv_iload_n hx hb d_Md_stairs_54 rfl (lv_at hl 1 rfl) ?_
            refine tw_astI (ct := ct) (x := p_0) hx hb hK hP hD hS hO_0 m_9 rfl ((fun (a_0 : Int32) (k_0 : ¬ (12 < a_0)) (k_1 : ¬ (a_0 ≤ 0)) (k_2 : ¬ (a_0 = 12)) => (show vp_in (a_0) 12 from by have z0 : (0 : Int32).toInt = 0 := (by decide +kernel); have z1 : (12 : Int32).toInt = 12 := (by decide +kernel); have r0 := fb_rng (a_0); have e0 := k_0; rw [Int32.lt_iff_toInt_lt, z1] at e0; have e1 := k_1; rw [Int32.le_iff_toInt_le, z0] at e1; have e2 := k_2; rw [← Int32.toInt_inj, z1] at e2; rw [vp_in_iff]; omega)) x_4 b_4.2 c_5 c_12) (i32_full _) d_Md_stairs_55 (fun f_1 H locs hP hD hS hO_1 hE_1 w_13 ow_13 hF_1 => ?_)
            have hA_1 := hA_0.trans hE_1
            refine lv_aload_n hx hb d_Md_stairs_56 rfl (lv_at hl 0 rfl) ?_
            refine lv_dup hx hb d_Md_stairs_57 rfl ?_
            refine tw_getI (x := x_4) (D := (dC, dI)) (C := R_Md) (T := F_Md) (N := 64) (ci := 7) (kd := 27) (ct := ct) hx hb htb i_Md hown hK hP (hA_1.m m0) rfl rfl 2 ((hA_1.ei m0 rfl).trans e_4) (by decide) (htb (.fieldLink R_Md 14 "WaterMenModel" "stairs" "I") tw_477) (fun _ h9 => h9) rfl d_Md_stairs_58 ?_
            refine lv_iconst (v := 1) hx hb d_Md_stairs_61 (by decide +kernel) ?_
            refine lv_iadd hx hb d_Md_stairs_62 ?_
            refine tw_puti (v := (x_4 + 1)) (D := (dC, dI)) (C := R_Md) (T := F_Md) (N := 64) (ci := 7) (kd := 27) (ct := ct) (ty := .int) hx hb htb i_Md t_Md t_Md_ok n_Md hown hK hP hD hS hO_1 (hA_1.m m0) rfl rfl 2 (by decide) (htb (.fieldLink R_Md 14 "WaterMenModel" "stairs" "I") tw_477) (fun _ h9 => h9) rfl (by decide +kernel) rfl rfl rfl ⟨(show ¬ ((x_4 + 1) < 0) from by have e0 := c_5; rw [Int32.le_iff_toInt_le] at e0; have e1 := b_4.2; rw [Int32.lt_iff_toInt_lt] at e1; have e2 := c_12; rw [← Int32.toInt_inj] at e2; have z0 : (0 : Int32).toInt = 0 := (by decide +kernel); have z1 : (1 : Int32).toInt = 1 := (by decide +kernel); have z2 : (12 : Int32).toInt = 12 := (by decide +kernel); have ss := fb_addI (x := x_4) (y := 1) (by omega) (by omega); rw [Int32.lt_iff_toInt_lt]; omega), (show ¬ (12 < (x_4 + 1)) from by have e0 := c_5; rw [Int32.le_iff_toInt_le] at e0; have e1 := b_4.2; rw [Int32.lt_iff_toInt_lt] at e1; have e2 := c_12; rw [← Int32.toInt_inj] at e2; have z0 : (0 : Int32).toInt = 0 := (by decide +kernel); have z1 : (1 : Int32).toInt = 1 := (by decide +kernel); have z2 : (12 : Int32).toInt = 12 := (by decide +kernel); have ss := fb_addI (x := x_4) (y := 1) (by omega) (by omega); rw [Int32.lt_iff_toInt_lt]; omega)⟩ d_Md_stairs_63 (fun f_2 H locs hP hD hS hO_2 hE_2 w_14 hF_2 => ?_)
            have hA_2 := hA_1.trans hE_2
            refine lv_aload_n hx hb d_Md_stairs_66 rfl (lv_at hl 0 rfl) ?_
            refine tw_getI (x := (x_4 + 1)) (D := (dC, dI)) (C := R_Md) (T := F_Md) (N := 64) (ci := 7) (kd := 27) (ct := ct) hx hb htb i_Md hown hK hP (hA_2.m m0) rfl rfl 2 w_14 (by decide) (htb (.fieldLink R_Md 14 "WaterMenModel" "stairs" "I") tw_477) (fun _ h9 => h9) rfl d_Md_stairs_67 ?_
            refine lv_iconst (v := 1) hx hb d_Md_stairs_70 (by decide +kernel) ?_
            refine lv_isub hx hb d_Md_stairs_71 ?_
            refine W.widen (k := 0) (n := 0) (Nat.le_of_ble_eq_true rfl) (Nat.le_of_ble_eq_true rfl) ?_
            exact W.iret (v := ((x_4 + 1) - 1)) hx hb hr (fun t ht hW => ⟨⟨((x_4 + 1) - 1), (L, f_2), rfl, ⟨hO_2, hA_2.mono (by decide +kernel), trivial⟩, by rw [ht]; exact hP, va_K.moved hW.alike hK, by rw [hAe]; exact hD⟩, by rw [hAe]; exact hS.F ht⟩) (by rw [hAe]; exact hS.2.2) d_Md_stairs_72
          · refine lv_bipush (v := (-3)) hx hb d_Md_stairs_43 (by decide +kernel) ?_
            refine W.widen (k := 0) (n := 0) (Nat.le_of_ble_eq_true rfl) (Nat.le_of_ble_eq_true rfl) ?_
            exact W.iret (v := (-3)) hx hb hr (fun t ht hW => ⟨⟨(-3), (L, f), rfl, ⟨hO_0, hA_0.mono (by decide +kernel), trivial⟩, by rw [ht]; exact hP, va_K.moved hW.alike hK, by rw [hAe]; exact hD⟩, by rw [hAe]; exact hS.F ht⟩) (by rw [hAe]; exact hS.2.2) d_Md_stairs_45
        · refine lv_iconst (v := (-1)) hx hb d_Md_stairs_32 (by decide +kernel) ?_
          refine W.widen (k := 0) (n := 0) (Nat.le_of_ble_eq_true rfl) (Nat.le_of_ble_eq_true rfl) ?_
          exact W.iret (v := (-1)) hx hb hr (fun t ht hW => ⟨⟨(-1), (L, f), rfl, ⟨hO_0, hA_0.mono (by decide +kernel), trivial⟩, by rw [ht]; exact hP, va_K.moved hW.alike hK, by rw [hAe]; exact hD⟩, by rw [hAe]; exact hS.F ht⟩) (by rw [hAe]; exact hS.2.2) d_Md_stairs_33
def W_Md_bridge_t : List (Nat × Nat) := [(27, 4)]
set_option maxHeartbeats 4000000 in
set_option maxRecDepth 100000 in
theorem c_Md_bridge_t (l : Launch) (dC : Nat → ClassId) (dI : Nat → Nat → Nat) (ct : Nat → ClassId) (L : List Nat) (f : TF) (hO_0 : Ok L f) (q0 : Nat) (m0 : q0 ∈ L ∧ tk f q0 = 27) (sz : Nat) (p_0 : Int32)   : Met l y_Md_bridge (.code y_Md_bridge b_Md_bridge 2 (some .int) :: TB) ({ frames := 1, cells := 0, slots := 0, locals := 22 }) (va_Pc [.ref q0, .int p_0] (PC dC dI (TW ct L f) (TT ct) sz)) (va_Qi (fun r (u : TSt) => Ok u.1 u.2 ∧ Ext W_Md_bridge_t L f u.1 u.2 ∧ (True)) (fun (u : TSt) t => va_P (dC, dI) vwCl (TW ct u.1 u.2) t.heap ∧ va_K (dC, dI) vwCl (TT ct) t ∧ va_D (va_A (TW ct L f) sz) (TW ct u.1 u.2)) (va_A (TW ct L f) sz)) 0 0 (va_A (TW ct L f) sz) := by
  refine Met.ofW (cc := b_Md_bridge) (maxL := 2) (ret := (some .int)) (by decide) rfl ?_
  intro p e s m args below meth c s₁ B hml hv
  obtain ⟨rfl, hsz, hP, hK, hD0, hN⟩ := hv
  have hx := B.exec
  have hb := B.bytes
  have hr := B.returns
  have hts := atoms_spec (ws := (.code y_Md_bridge b_Md_bridge 2 (some .int) :: TB)) B.pre
  have htb := fun w (h : w ∈ TB) => hts w (List.mem_cons_of_mem _ h)
  have hown : s.vm.findClass R_Md = some m.cls := findClass_of_methodNamed B.named
  have hlocks := B.notSynchronized
  have hl := lv_entry ([.ref q0, .int p_0]) (n := 2) (Nat.le_of_ble_eq_true rfl)
  rw [lg_entry_eq]
  generalize (lg_sl ([.ref q0, .int p_0]) ++ List.replicate (2 - (lg_sl ([.ref q0, .int p_0])).length) Slot.unset).toArray = ls at hl ⊢
  have hl : lv_has ls 2 [(0, .ref q0), (1, .int p_0)] := hl
  subst hsz
  have hD := hD0.self (sz := s.heap.size)
  obtain ⟨A, hAe⟩ : ∃ A, va_A (TW ct L f) s.heap.size = A := ⟨_, rfl⟩
  rw [hAe] at hD
  have hA : ∀ q : Nat, s.heap.size ≤ q → A q := fun q h => by rw [← hAe]; exact Or.inr h
  have hS : va_S A s.heap s.heap [] := va_S.rf
  have hA_0 : Ext [] L f L f := Ext.rf
  suffices hGo : ∀ (H : Heap) (locs : List Loc), va_P (dC, dI) vwCl (TW ct L f) H → va_S A s.heap H locs → W p l e (headSpec (.code y_Md_bridge b_Md_bridge 2 (some .int) :: TB) ({ frames := 1, cells := 0, slots := 0, locals := 22 })).room s m [.ref q0, .int p_0].toArray below meth c H locs 0 0 (MQ below (va_Qi (fun r (u : TSt) => Ok u.1 u.2 ∧ Ext W_Md_bridge_t L f u.1 u.2 ∧ (True)) (fun (u : TSt) t => va_P (dC, dI) vwCl (TW ct u.1 u.2) t.heap ∧ va_K (dC, dI) vwCl (TT ct) t ∧ va_D (va_A (TW ct L f) s.heap.size) (TW ct u.1 u.2)) (va_A (TW ct L f) s.heap.size)) [.ref q0, .int p_0].toArray s 0 0 (va_A (TW ct L f) s.heap.size)) (F0 m 0 ls []) from hGo _ _ hP hS
  clear hP hS
  intro H locs hP hS
  refine lv_iload_n hx hb d_Md_bridge_0 rfl (lv_at hl 1 rfl) ?_
  refine lv_iconst (v := (-1)) hx hb d_Md_bridge_1 (by decide +kernel) ?_
  refine lv_icmp_eq (tgt := 21) hx hb d_Md_bridge_2 (by decide) (fun c_1 => ?_) (fun c_1 => ?_)
  · refine lv_aload_n hx hb d_Md_bridge_21 rfl (lv_at hl 0 rfl) ?_
    refine lv_iload_n hx hb d_Md_bridge_22 rfl (lv_at hl 1 rfl) ?_
    refine tw_puti (v := p_0) (D := (dC, dI)) (C := R_Md) (T := F_Md) (N := 64) (ci := 7) (kd := 27) (ct := ct) (ty := .int) hx hb htb i_Md t_Md t_Md_ok n_Md hown hK hP hD hS hO_0 m0 rfl rfl 4 (by decide) (htb (.fieldLink R_Md 35 "WaterMenModel" "bridge" "I") tw_490) (fun _ h9 => h9) rfl (by decide +kernel) rfl rfl rfl (i32_full _) d_Md_bridge_23 (fun f_1 H locs hP hD hS hO_1 hE_1 w_2 hF_1 => ?_)
    have hA_1 := hA_0.trans hE_1
    refine lv_iconst (v := 1) hx hb d_Md_bridge_26 (by decide +kernel) ?_
    refine W.widen (k := 0) (n := 0) (Nat.le_of_ble_eq_true rfl) (Nat.le_of_ble_eq_true rfl) ?_
    exact W.iret (v := 1) hx hb hr (fun t ht hW => ⟨⟨1, (L, f_1), rfl, ⟨hO_1, hA_1.mono (by decide +kernel), trivial⟩, by rw [ht]; exact hP, va_K.moved hW.alike hK, by rw [hAe]; exact hD⟩, by rw [hAe]; exact hS.F ht⟩) (by rw [hAe]; exact hS.2.2) d_Md_bridge_27
  · refine lv_iload_n hx hb d_Md_bridge_5 rfl (lv_at hl 1 rfl) ?_
    refine lv_iconst (v := 0) hx hb d_Md_bridge_6 (by decide +kernel) ?_
    refine lv_aload_n hx hb d_Md_bridge_7 rfl (lv_at hl 0 rfl) ?_
    refine tw_geti (D := (dC, dI)) (C := R_Md) (T := F_Md) (N := 64) (ci := 7) (kd := 27) (ct := ct) hx hb htb i_Md hown hK hP hO_0 m0 rfl rfl 2 (by decide) (htb (.fieldLink R_Md 14 "WaterMenModel" "stairs" "I") tw_477) (fun _ h9 => h9) rfl d_Md_bridge_8 (fun x_3 e_3 b_3 => ?_)
    refine lv_iconst (v := 2) hx hb d_Md_bridge_11 (by decide +kernel) ?_
    refine lv_isub hx hb d_Md_bridge_12 ?_
    refine vp_callSi (va_Run.run (va_runS (As := [.int p_0, .int 0, .int (x_3 - 2)]) (rest := []) ⟨hx, hb, hml, hown, htb⟩ (c_Md_in l p_0 0 (x_3 - 2)) (cwS 3 htb (gd_S tw_480 tw_481 tw_479 tw_478) rfl rfl rfl (by decide +kernel) ⟨Nat.le_of_ble_eq_true rfl, Nat.le_of_ble_eq_true rfl⟩) ⟨fun _ _ _ _ h => h, fun U _ _ => ⟨rfl, trivial⟩⟩ rfl rfl hl.1 rfl (lv_room (Nat.le_of_ble_eq_true rfl)) d_Md_bridge_13 ⟨Nat.le_of_ble_eq_true rfl, Nat.le_of_ble_eq_true rfl⟩)) (fun r er => ?_)
    subst er
    by_cases c_5 : p_0 < 0
    · refine hb_ti 0 (by unfold f_Md_in; rw [if_pos c_5]; first | done | rfl) ?_
      refine lv_if_ne (tgt := 21) hx hb d_Md_bridge_16 (by decide) (fun h => absurd (by decide +kernel) h) (fun _ => ?_)
      refine lv_iconst (v := (-1)) hx hb d_Md_bridge_19 (by decide +kernel) ?_
      refine W.widen (k := 0) (n := 0) (Nat.le_of_ble_eq_true rfl) (Nat.le_of_ble_eq_true rfl) ?_
      exact W.iret (v := (-1)) hx hb hr (fun t ht hW => ⟨⟨(-1), (L, f), rfl, ⟨hO_0, hA_0.mono (by decide +kernel), trivial⟩, by rw [ht]; exact hP, va_K.moved hW.alike hK, by rw [hAe]; exact hD⟩, by rw [hAe]; exact hS.F ht⟩) (by rw [hAe]; exact hS.2.2) d_Md_bridge_20
    · by_cases c_6 : (x_3 - 2) < p_0
      · refine hb_ti 0 (by unfold f_Md_in; rw [if_neg c_5, if_pos c_6]; first | done | rfl) ?_
        refine lv_if_ne (tgt := 21) hx hb d_Md_bridge_16 (by decide) (fun h => absurd (by decide +kernel) h) (fun _ => ?_)
        refine lv_iconst (v := (-1)) hx hb d_Md_bridge_19 (by decide +kernel) ?_
        refine W.widen (k := 0) (n := 0) (Nat.le_of_ble_eq_true rfl) (Nat.le_of_ble_eq_true rfl) ?_
        exact W.iret (v := (-1)) hx hb hr (fun t ht hW => ⟨⟨(-1), (L, f), rfl, ⟨hO_0, hA_0.mono (by decide +kernel), trivial⟩, by rw [ht]; exact hP, va_K.moved hW.alike hK, by rw [hAe]; exact hD⟩, by rw [hAe]; exact hS.F ht⟩) (by rw [hAe]; exact hS.2.2) d_Md_bridge_20
      · refine hb_ti 1 (by unfold f_Md_in; rw [if_neg c_5, if_neg c_6]; first | done | rfl) ?_
        refine lv_if_ne (tgt := 21) hx hb d_Md_bridge_16 (by decide) (fun _ => ?_) (fun h => absurd h (by decide +kernel))
        refine lv_aload_n hx hb d_Md_bridge_21 rfl (lv_at hl 0 rfl) ?_
        refine lv_iload_n hx hb d_Md_bridge_22 rfl (lv_at hl 1 rfl) ?_
        refine tw_puti (v := p_0) (D := (dC, dI)) (C := R_Md) (T := F_Md) (N := 64) (ci := 7) (kd := 27) (ct := ct) (ty := .int) hx hb htb i_Md t_Md t_Md_ok n_Md hown hK hP hD hS hO_0 m0 rfl rfl 4 (by decide) (htb (.fieldLink R_Md 35 "WaterMenModel" "bridge" "I") tw_490) (fun _ h9 => h9) rfl (by decide +kernel) rfl rfl rfl (i32_full _) d_Md_bridge_23 (fun f_1 H locs hP hD hS hO_1 hE_1 w_7 hF_1 => ?_)
        have hA_1 := hA_0.trans hE_1
        refine lv_iconst (v := 1) hx hb d_Md_bridge_26 (by decide +kernel) ?_
        refine W.widen (k := 0) (n := 0) (Nat.le_of_ble_eq_true rfl) (Nat.le_of_ble_eq_true rfl) ?_
        exact W.iret (v := 1) hx hb hr (fun t ht hW => ⟨⟨1, (L, f_1), rfl, ⟨hO_1, hA_1.mono (by decide +kernel), trivial⟩, by rw [ht]; exact hP, va_K.moved hW.alike hK, by rw [hAe]; exact hD⟩, by rw [hAe]; exact hS.F ht⟩) (by rw [hAe]; exact hS.2.2) d_Md_bridge_27
def f_Md_isDay  (p_0 : Int32) : Int32 := if p_0 < 0 then (0) else (if 499 < p_0 then (0) else (1))
set_option maxHeartbeats 4000000 in
set_option maxRecDepth 100000 in
theorem c_Md_isDay (l : Launch)  (p_0 : Int32)  : Met l y_Md_isDay (.code y_Md_isDay b_Md_isDay 1 (some .boolean) :: TB) ({ frames := 1, cells := 0, slots := 0, locals := 22 }) (va_Pc [.int p_0] (fun _ => True)) (vp_Si (fun r => r = f_Md_isDay p_0)) 0 0 (fun _ => False) := by
  refine Met.ofW (cc := b_Md_isDay) (maxL := 1) (ret := (some .boolean)) (by decide) rfl ?_
  intro p e s m args below meth c s₁ B hml hv
  obtain ⟨rfl, -⟩ := hv
  have hx := B.exec
  have hb := B.bytes
  have hr := B.returns
  have hts := atoms_spec (ws := (.code y_Md_isDay b_Md_isDay 1 (some .boolean) :: TB)) B.pre
  have htb := fun w (h : w ∈ TB) => hts w (List.mem_cons_of_mem _ h)
  have hown : s.vm.findClass R_Md = some m.cls := findClass_of_methodNamed B.named
  have hlocks := B.notSynchronized
  have hl := lv_entry ([.int p_0]) (n := 1) (Nat.le_of_ble_eq_true rfl)
  rw [lg_entry_eq]
  generalize (lg_sl ([.int p_0]) ++ List.replicate (1 - (lg_sl ([.int p_0])).length) Slot.unset).toArray = ls at hl ⊢
  have hl : lv_has ls 1 [(0, .int p_0)] := hl
  refine lv_iload_n hx hb d_Md_isDay_0 rfl (lv_at hl 0 rfl) ?_
  refine lv_iconst (v := 0) hx hb d_Md_isDay_1 (by decide +kernel) ?_
  refine lv_sipush (v := 499) hx hb d_Md_isDay_2 (by decide +kernel) ?_
  refine vp_callSi (va_Run.run (va_runS (As := [.int p_0, .int 0, .int 499]) (rest := []) ⟨hx, hb, hml, hown, htb⟩ (c_Md_in l p_0 0 499) (cwS 3 htb (gd_S tw_480 tw_481 tw_479 tw_478) rfl rfl rfl (by decide +kernel) ⟨Nat.le_of_ble_eq_true rfl, Nat.le_of_ble_eq_true rfl⟩) ⟨fun _ _ _ _ h => h, fun U _ _ => ⟨rfl, trivial⟩⟩ rfl rfl hl.1 rfl (lv_room (Nat.le_of_ble_eq_true rfl)) d_Md_isDay_5 ⟨Nat.le_of_ble_eq_true rfl, Nat.le_of_ble_eq_true rfl⟩)) (fun r er => ?_)
  subst er
  by_cases c_2 : p_0 < 0
  · refine hb_ti 0 (by unfold f_Md_in; rw [if_pos c_2]) ?_
    exact W.zret (v := 0) hx hb hr (by decide +kernel) (fun t ht hW => ⟨0, rfl, (by unfold f_Md_isDay; rw [if_pos c_2]), ht⟩) t_nil d_Md_isDay_8
  · by_cases c_3 : 499 < p_0
    · refine hb_ti 0 (by unfold f_Md_in; rw [if_neg c_2, if_pos c_3]) ?_
      exact W.zret (v := 0) hx hb hr (by decide +kernel) (fun t ht hW => ⟨0, rfl, (by unfold f_Md_isDay; rw [if_neg c_2, if_pos c_3]), ht⟩) t_nil d_Md_isDay_8
    · refine hb_ti 1 (by unfold f_Md_in; rw [if_neg c_2, if_neg c_3]) ?_
      exact W.zret (v := 1) hx hb hr (by decide +kernel) (fun t ht hW => ⟨1, rfl, (by unfold f_Md_isDay; rw [if_neg c_2, if_neg c_3]), ht⟩) t_nil d_Md_isDay_8
def WL_Md_level_t_33_10 : List (Nat × Nat) := [(31, 1000)]
def W_Md_level_t : List (Nat × Nat) := [(30, 1000), (31, 1000)]
set_option maxHeartbeats 4000000 in
set_option maxRecDepth 100000 in
theorem c_Md_level_t (l : Launch) (dC : Nat → ClassId) (dI : Nat → Nat → Nat) (ct : Nat → ClassId) (L : List Nat) (f : TF) (hO_0 : Ok L f) (q0 : Nat) (m0 : q0 ∈ L ∧ tk f q0 = 27) (sz : Nat) (p_0 : Int32) (p_1 : Int32) (p_2 : Int32)   : Met l y_Md_level (.code y_Md_level b_Md_level 5 (some .int) :: TB) ({ frames := 2, cells := 0, slots := 0, locals := 42 }) (va_Pc [.ref q0, .int p_0, .int p_1, .int p_2] (PC dC dI (TW ct L f) (TT ct) sz)) (va_Qi (fun r (u : TSt) => Ok u.1 u.2 ∧ Ext W_Md_level_t L f u.1 u.2 ∧ ((r = 1 ∧ ¬ (p_0 < 0) ∧ ¬ (499 < p_0) ∧ ¬ (p_1 < 0) ∧ ¬ (11 < p_1) ∧ ¬ (p_2 < (-90)) ∧ ¬ (90 < p_2) ∧ True) ∨ (r = (-1) ∧ p_0 < 0 ∧ True) ∨ (r = (-1) ∧ 499 < p_0 ∧ True) ∨ (r = (-1) ∧ p_1 < 0 ∧ True) ∨ (r = (-1) ∧ 11 < p_1 ∧ True) ∨ (r = (-1) ∧ p_2 < (-90) ∧ True) ∨ (r = (-1) ∧ 90 < p_2 ∧ True))) (fun (u : TSt) t => va_P (dC, dI) vwCl (TW ct u.1 u.2) t.heap ∧ va_K (dC, dI) vwCl (TT ct) t ∧ va_D (va_A (TW ct L f) sz) (TW ct u.1 u.2)) (va_A (TW ct L f) sz)) 0 0 (va_A (TW ct L f) sz) := by
  refine Met.ofW (cc := b_Md_level) (maxL := 5) (ret := (some .int)) (by decide) rfl ?_
  intro p e s m args below meth c s₁ B hml hv
  obtain ⟨rfl, hsz, hP, hK, hD0, hN⟩ := hv
  have hx := B.exec
  have hb := B.bytes
  have hr := B.returns
  have hts := atoms_spec (ws := (.code y_Md_level b_Md_level 5 (some .int) :: TB)) B.pre
  have htb := fun w (h : w ∈ TB) => hts w (List.mem_cons_of_mem _ h)
  have hown : s.vm.findClass R_Md = some m.cls := findClass_of_methodNamed B.named
  have hlocks := B.notSynchronized
  have hl := lv_entry ([.ref q0, .int p_0, .int p_1, .int p_2]) (n := 5) (Nat.le_of_ble_eq_true rfl)
  rw [lg_entry_eq]
  generalize (lg_sl ([.ref q0, .int p_0, .int p_1, .int p_2]) ++ List.replicate (5 - (lg_sl ([.ref q0, .int p_0, .int p_1, .int p_2])).length) Slot.unset).toArray = ls at hl ⊢
  have hl : lv_has ls 5 [(0, .ref q0), (1, .int p_0), (2, .int p_1), (3, .int p_2)] := hl
  subst hsz
  have hD := hD0.self (sz := s.heap.size)
  obtain ⟨A, hAe⟩ : ∃ A, va_A (TW ct L f) s.heap.size = A := ⟨_, rfl⟩
  rw [hAe] at hD
  have hA : ∀ q : Nat, s.heap.size ≤ q → A q := fun q h => by rw [← hAe]; exact Or.inr h
  have hS : va_S A s.heap s.heap [] := va_S.rf
  have hA_0 : Ext [] L f L f := Ext.rf
  suffices hGo : ∀ (H : Heap) (locs : List Loc), va_P (dC, dI) vwCl (TW ct L f) H → va_S A s.heap H locs → W p l e (headSpec (.code y_Md_level b_Md_level 5 (some .int) :: TB) ({ frames := 2, cells := 0, slots := 0, locals := 42 })).room s m [.ref q0, .int p_0, .int p_1, .int p_2].toArray below meth c H locs 0 0 (MQ below (va_Qi (fun r (u : TSt) => Ok u.1 u.2 ∧ Ext W_Md_level_t L f u.1 u.2 ∧ ((r = 1 ∧ ¬ (p_0 < 0) ∧ ¬ (499 < p_0) ∧ ¬ (p_1 < 0) ∧ ¬ (11 < p_1) ∧ ¬ (p_2 < (-90)) ∧ ¬ (90 < p_2) ∧ True) ∨ (r = (-1) ∧ p_0 < 0 ∧ True) ∨ (r = (-1) ∧ 499 < p_0 ∧ True) ∨ (r = (-1) ∧ p_1 < 0 ∧ True) ∨ (r = (-1) ∧ 11 < p_1 ∧ True) ∨ (r = (-1) ∧ p_2 < (-90) ∧ True) ∨ (r = (-1) ∧ 90 < p_2 ∧ True))) (fun (u : TSt) t => va_P (dC, dI) vwCl (TW ct u.1 u.2) t.heap ∧ va_K (dC, dI) vwCl (TT ct) t ∧ va_D (va_A (TW ct L f) s.heap.size) (TW ct u.1 u.2)) (va_A (TW ct L f) s.heap.size)) [.ref q0, .int p_0, .int p_1, .int p_2].toArray s 0 0 (va_A (TW ct L f) s.heap.size)) (F0 m 0 ls []) from hGo _ _ hP hS
  clear hP hS
  intro H locs hP hS
  refine lv_iload_n hx hb d_Md_level_0 rfl (lv_at hl 1 rfl) ?_
  refine vp_callSi (va_Run.run (va_runS (As := [.int p_0]) (rest := []) ⟨hx, hb, hml, hown, htb⟩ (c_Md_isDay l p_0) (cwS 1 htb (gd_S tw_492 tw_493 tw_479 tw_491) rfl rfl rfl (by decide +kernel) ⟨Nat.le_of_ble_eq_true rfl, Nat.le_of_ble_eq_true rfl⟩) ⟨fun _ _ _ _ h => h, fun U _ _ => ⟨rfl, trivial⟩⟩ rfl rfl hl.1 rfl (lv_room (Nat.le_of_ble_eq_true rfl)) d_Md_level_1 ⟨Nat.le_of_ble_eq_true rfl, Nat.le_of_ble_eq_true rfl⟩)) (fun r er => ?_)
  subst er
  by_cases c_2 : p_0 < 0
  · refine hb_ti 0 (by unfold f_Md_isDay; rw [if_pos c_2]; first | done | rfl) ?_
    refine lv_if_eq (tgt := 28) hx hb d_Md_level_4 (by decide) (fun _ => ?_) (fun h => absurd (by decide +kernel) h)
    refine lv_iconst (v := (-1)) hx hb d_Md_level_28 (by decide +kernel) ?_
    refine W.widen (k := 0) (n := 0) (Nat.le_of_ble_eq_true rfl) (Nat.le_of_ble_eq_true rfl) ?_
    exact W.iret (v := (-1)) hx hb hr (fun t ht hW => ⟨⟨(-1), (L, f), rfl, ⟨hO_0, hA_0.mono (by decide +kernel), (Or.inr (Or.inl ⟨rfl, c_2, trivial⟩))⟩, by rw [ht]; exact hP, va_K.moved hW.alike hK, by rw [hAe]; exact hD⟩, by rw [hAe]; exact hS.F ht⟩) (by rw [hAe]; exact hS.2.2) d_Md_level_29
  · by_cases c_3 : 499 < p_0
    · refine hb_ti 0 (by unfold f_Md_isDay; rw [if_neg c_2, if_pos c_3]; first | done | rfl) ?_
      refine lv_if_eq (tgt := 28) hx hb d_Md_level_4 (by decide) (fun _ => ?_) (fun h => absurd (by decide +kernel) h)
      refine lv_iconst (v := (-1)) hx hb d_Md_level_28 (by decide +kernel) ?_
      refine W.widen (k := 0) (n := 0) (Nat.le_of_ble_eq_true rfl) (Nat.le_of_ble_eq_true rfl) ?_
      exact W.iret (v := (-1)) hx hb hr (fun t ht hW => ⟨⟨(-1), (L, f), rfl, ⟨hO_0, hA_0.mono (by decide +kernel), (Or.inr (Or.inr (Or.inl ⟨rfl, c_3, trivial⟩)))⟩, by rw [ht]; exact hP, va_K.moved hW.alike hK, by rw [hAe]; exact hD⟩, by rw [hAe]; exact hS.F ht⟩) (by rw [hAe]; exact hS.2.2) d_Md_level_29
    · refine hb_ti 1 (by unfold f_Md_isDay; rw [if_neg c_2, if_neg c_3]; first | done | rfl) ?_
      refine lv_if_eq (tgt := 28) hx hb d_Md_level_4 (by decide) (fun h => absurd h (by decide +kernel)) (fun _ => ?_)
      refine lv_iload_n hx hb d_Md_level_7 rfl (lv_at hl 2 rfl) ?_
      refine lv_iconst (v := 0) hx hb d_Md_level_8 (by decide +kernel) ?_
      refine lv_bipush (v := 11) hx hb d_Md_level_9 (by decide +kernel) ?_
      refine vp_callSi (va_Run.run (va_runS (As := [.int p_1, .int 0, .int 11]) (rest := []) ⟨hx, hb, hml, hown, htb⟩ (c_Md_in l p_1 0 11) (cwS 3 htb (gd_S tw_480 tw_481 tw_479 tw_478) rfl rfl rfl (by decide +kernel) ⟨Nat.le_of_ble_eq_true rfl, Nat.le_of_ble_eq_true rfl⟩) ⟨fun _ _ _ _ h => h, fun U _ _ => ⟨rfl, trivial⟩⟩ rfl rfl hl.1 rfl (lv_room (Nat.le_of_ble_eq_true rfl)) d_Md_level_11 ⟨Nat.le_of_ble_eq_true rfl, Nat.le_of_ble_eq_true rfl⟩)) (fun r er => ?_)
      subst er
      by_cases c_5 : p_1 < 0
      · refine hb_ti 0 (by unfold f_Md_in; rw [if_pos c_5]; first | done | rfl) ?_
        refine lv_if_eq (tgt := 28) hx hb d_Md_level_14 (by decide) (fun _ => ?_) (fun h => absurd (by decide +kernel) h)
        refine lv_iconst (v := (-1)) hx hb d_Md_level_28 (by decide +kernel) ?_
        refine W.widen (k := 0) (n := 0) (Nat.le_of_ble_eq_true rfl) (Nat.le_of_ble_eq_true rfl) ?_
        exact W.iret (v := (-1)) hx hb hr (fun t ht hW => ⟨⟨(-1), (L, f), rfl, ⟨hO_0, hA_0.mono (by decide +kernel), (Or.inr (Or.inr (Or.inr (Or.inl ⟨rfl, c_5, trivial⟩))))⟩, by rw [ht]; exact hP, va_K.moved hW.alike hK, by rw [hAe]; exact hD⟩, by rw [hAe]; exact hS.F ht⟩) (by rw [hAe]; exact hS.2.2) d_Md_level_29
      · by_cases c_6 : 11 < p_1
        · refine hb_ti 0 (by unfold f_Md_in; rw [if_neg c_5, if_pos c_6]; first | done | rfl) ?_
          refine lv_if_eq (tgt := 28) hx hb d_Md_level_14 (by decide) (fun _ => ?_) (fun h => absurd (by decide +kernel) h)
          refine lv_iconst (v := (-1)) hx hb d_Md_level_28 (by decide +kernel) ?_
          refine W.widen (k := 0) (n := 0) (Nat.le_of_ble_eq_true rfl) (Nat.le_of_ble_eq_true rfl) ?_
          exact W.iret (v := (-1)) hx hb hr (fun t ht hW => ⟨⟨(-1), (L, f), rfl, ⟨hO_0, hA_0.mono (by decide +kernel), (Or.inr (Or.inr (Or.inr (Or.inr (Or.inl ⟨rfl, c_6, trivial⟩)))))⟩, by rw [ht]; exact hP, va_K.moved hW.alike hK, by rw [hAe]; exact hD⟩, by rw [hAe]; exact hS.F ht⟩) (by rw [hAe]; exact hS.2.2) d_Md_level_29
        · refine hb_ti 1 (by unfold f_Md_in; rw [if_neg c_5, if_neg c_6]; first | done | rfl) ?_
          refine lv_if_eq (tgt := 28) hx hb d_Md_level_14 (by decide) (fun h => absurd h (by decide +kernel)) (fun _ => ?_)
          refine lv_iload_n hx hb d_Md_level_17 rfl (lv_at hl 3 rfl) ?_
          refine lv_bipush (v := (-90)) hx hb d_Md_level_18 (by decide +kernel) ?_
          refine lv_bipush (v := 90) hx hb d_Md_level_20 (by decide +kernel) ?_
          refine vp_callSi (va_Run.run (va_runS (As := [.int p_2, .int (-90), .int 90]) (rest := []) ⟨hx, hb, hml, hown, htb⟩ (c_Md_in l p_2 (-90) 90) (cwS 3 htb (gd_S tw_480 tw_481 tw_479 tw_478) rfl rfl rfl (by decide +kernel) ⟨Nat.le_of_ble_eq_true rfl, Nat.le_of_ble_eq_true rfl⟩) ⟨fun _ _ _ _ h => h, fun U _ _ => ⟨rfl, trivial⟩⟩ rfl rfl hl.1 rfl (lv_room (Nat.le_of_ble_eq_true rfl)) d_Md_level_22 ⟨Nat.le_of_ble_eq_true rfl, Nat.le_of_ble_eq_true rfl⟩)) (fun r er => ?_)
          subst er
          by_cases c_8 : p_2 < (-90)
          · refine hb_ti 0 (by unfold f_Md_in; rw [if_pos c_8]; first | done | rfl) ?_
            refine lv_if_ne (tgt := 30) hx hb d_Md_level_25 (by decide) (fun h => absurd (by decide +kernel) h) (fun _ => ?_)
            refine lv_iconst (v := (-1)) hx hb d_Md_level_28 (by decide +kernel) ?_
            refine W.widen (k := 0) (n := 0) (Nat.le_of_ble_eq_true rfl) (Nat.le_of_ble_eq_true rfl) ?_
            exact W.iret (v := (-1)) hx hb hr (fun t ht hW => ⟨⟨(-1), (L, f), rfl, ⟨hO_0, hA_0.mono (by decide +kernel), (Or.inr (Or.inr (Or.inr (Or.inr (Or.inr (Or.inl ⟨rfl, c_8, trivial⟩))))))⟩, by rw [ht]; exact hP, va_K.moved hW.alike hK, by rw [hAe]; exact hD⟩, by rw [hAe]; exact hS.F ht⟩) (by rw [hAe]; exact hS.2.2) d_Md_level_29
          · by_cases c_9 : 90 < p_2
            · refine hb_ti 0 (by unfold f_Md_in; rw [if_neg c_8, if_pos c_9]; first | done | rfl) ?_
              refine lv_if_ne (tgt := 30) hx hb d_Md_level_25 (by decide) (fun h => absurd (by decide +kernel) h) (fun _ => ?_)
              refine lv_iconst (v := (-1)) hx hb d_Md_level_28 (by decide +kernel) ?_
              refine W.widen (k := 0) (n := 0) (Nat.le_of_ble_eq_true rfl) (Nat.le_of_ble_eq_true rfl) ?_
              exact W.iret (v := (-1)) hx hb hr (fun t ht hW => ⟨⟨(-1), (L, f), rfl, ⟨hO_0, hA_0.mono (by decide +kernel), (Or.inr (Or.inr (Or.inr (Or.inr (Or.inr (Or.inr ⟨rfl, c_9, trivial⟩))))))⟩, by rw [ht]; exact hP, va_K.moved hW.alike hK, by rw [hAe]; exact hD⟩, by rw [hAe]; exact hS.F ht⟩) (by rw [hAe]; exact hS.2.2) d_Md_level_29
            · refine hb_ti 1 (by unfold f_Md_in; rw [if_neg c_8, if_neg c_9]; first | done | rfl) ?_
              refine lv_if_ne (tgt := 30) hx hb d_Md_level_25 (by decide) (fun _ => ?_) (fun h => absurd h (by decide +kernel))
              refine lv_iconst (v := 0) hx hb d_Md_level_30 (by decide +kernel) ?_
              refine lv_istore (lv' := [(4, .int 0), (0, .ref q0), (1, .int p_0), (2, .int p_1), (3, .int p_2)]) hx hb d_Md_level_31 hl (by decide) rfl (fun ls hl => ?_)
              have cut_10 : ∀ (n_10 : Nat) (v4_10 : Int32) (L_1 : List Nat) (f_1 : TF) (H : Heap) (locs : List Loc) (ls : Array Slot), va_P (dC, dI) vwCl (TW ct L_1 f_1) H → va_D A (TW ct L_1 f_1) → va_S A s.heap H locs → Ok L_1 f_1 → Ext WL_Md_level_t_33_10 L f L_1 f_1 → ¬ (v4_10 < 0) → ¬ (12 < v4_10) → (12 : Int32).toInt - (v4_10 : Int32).toInt ≤ (n_10 : Int) → lv_has ls 5 [(0, .ref q0), (1, .int p_0), (2, .int p_1), (3, .int p_2), (4, .int v4_10)] → W p l e (headSpec (.code y_Md_level b_Md_level 5 (some .int) :: TB) ({ frames := 2, cells := 0, slots := 0, locals := 42 })).room s m [.ref q0, .int p_0, .int p_1, .int p_2].toArray below meth c H locs 0 0 (MQ below (va_Qi (fun r (u : TSt) => Ok u.1 u.2 ∧ Ext W_Md_level_t L f u.1 u.2 ∧ ((r = 1 ∧ ¬ (p_0 < 0) ∧ ¬ (499 < p_0) ∧ ¬ (p_1 < 0) ∧ ¬ (11 < p_1) ∧ ¬ (p_2 < (-90)) ∧ ¬ (90 < p_2) ∧ True) ∨ (r = (-1) ∧ p_0 < 0 ∧ True) ∨ (r = (-1) ∧ 499 < p_0 ∧ True) ∨ (r = (-1) ∧ p_1 < 0 ∧ True) ∨ (r = (-1) ∧ 11 < p_1 ∧ True) ∨ (r = (-1) ∧ p_2 < (-90) ∧ True) ∨ (r = (-1) ∧ 90 < p_2 ∧ True))) (fun (u : TSt) t => va_P (dC, dI) vwCl (TW ct u.1 u.2) t.heap ∧ va_K (dC, dI) vwCl (TT ct) t ∧ va_D (va_A (TW ct L f) s.heap.size) (TW ct u.1 u.2)) (va_A (TW ct L f) s.heap.size)) [.ref q0, .int p_0, .int p_1, .int p_2].toArray s 0 0 (va_A (TW ct L f) s.heap.size)) (F0 m 33 ls []) := by
                intro n_10
                induction n_10 using Nat.strongRecOn with
                | _ n_10 ih_10 =>
                  intro v4_10 L_1 f_1 H locs ls hP hD hS hO_1 hE_1 iv0_10 iv1_10 hm_10 hl
                  have hA_1 := hA_0.trans hE_1
                  refine lv_iload hx hb d_Md_level_33 (lv_at hl 4 rfl) ?_
                  refine lv_bipush (v := 12) hx hb d_Md_level_35 (by decide +kernel) ?_
                  refine lv_icmp_ge (tgt := 79) hx hb d_Md_level_37 (by decide) (fun c_11 => ?_) (fun c_11 => ?_)
                  · refine lv_aload_n hx hb d_Md_level_79 rfl (lv_at hl 0 rfl) ?_
                    refine tw_getr (D := (dC, dI)) (C := R_Md) (T := F_Md) (N := 64) (ci := 7) (kd := 27) (ct := ct) hx hb htb i_Md hown hK hP hO_1 (hA_1.m m0) rfl rfl 6 (by decide) (htb (.fieldLink R_Md 17 "WaterMenModel" "hasRow" "[Z") tw_483) (fun _ h9 => h9) rfl d_Md_level_80 (fun q_12 e_12 m_12 => ?_)
                    refine lv_iload_n hx hb d_Md_level_83 rfl (lv_at hl 1 rfl) ?_
                    refine lv_iconst (v := 1) hx hb d_Md_level_84 (by decide +kernel) ?_
                    refine tw_astZ (ct := ct) (x := 1) hx hb hK hP hD hS hO_1 m_12 rfl (hb_inl c_2 c_3 (by decide +kernel)) ⟨by decide +kernel, by decide +kernel⟩ d_Md_level_85 (fun f_2 H locs hP hD hS hO_2 hE_2 w_13 ow_13 hF_2 => ?_)
                    have hA_2 := hA_1.trans hE_2
                    refine lv_aload_n hx hb d_Md_level_86 rfl (lv_at hl 0 rfl) ?_
                    refine tw_getr (D := (dC, dI)) (C := R_Md) (T := F_Md) (N := 64) (ci := 7) (kd := 27) (ct := ct) hx hb htb i_Md hown hK hP hO_2 (hA_2.m m0) rfl rfl 7 (by decide) (htb (.fieldLink R_Md 21 "WaterMenModel" "rows" "[I") tw_484) (fun _ h9 => h9) rfl d_Md_level_87 (fun q_14 e_14 m_14 => ?_)
                    refine lv_bipush (v := 12) hx hb d_Md_level_90 (by decide +kernel) ?_
                    refine lv_iload_n hx hb d_Md_level_92 rfl (lv_at hl 1 rfl) ?_
                    refine lv_imul hx hb d_Md_level_93 ?_
                    refine lv_iload_n hx hb d_Md_level_94 rfl (lv_at hl 2 rfl) ?_
                    refine lv_iadd hx hb d_Md_level_95 ?_
                    refine lv_iload_n hx hb d_Md_level_96 rfl (lv_at hl 3 rfl) ?_
                    refine tw_astI (ct := ct) (x := p_2) hx hb hK hP hD hS hO_2 m_14 rfl ((fun (a_0 : Int32) (a_1 : Int32) (k_0 : ¬ (a_0 < 0)) (k_1 : ¬ (499 < a_0)) (k_2 : ¬ (a_1 < 0)) (k_3 : ¬ (11 < a_1)) => (show vp_in (((12 * a_0) + a_1)) 6000 from by have z0 : (0 : Int32).toInt = 0 := (by decide +kernel); have z1 : (11 : Int32).toInt = 11 := (by decide +kernel); have z2 : (12 : Int32).toInt = 12 := (by decide +kernel); have z3 : (499 : Int32).toInt = 499 := (by decide +kernel); have r0 := fb_rng (a_0); have r1 := fb_rng (a_1); have e0 := k_0; rw [Int32.lt_iff_toInt_lt, z0] at e0; have e1 := k_1; rw [Int32.lt_iff_toInt_lt, z3] at e1; have e2 := k_2; rw [Int32.lt_iff_toInt_lt, z0] at e2; have e3 := k_3; rw [Int32.lt_iff_toInt_lt, z1] at e3; obtain ⟨n_0, hn_0, s0⟩ := nd_mul (x := (12 : Int32)) (y := (a_0)) (by (try rw [z2]); omega) (by (try rw [z2]); omega); rw [z2] at s0; obtain ⟨n_1, hn_1, s1⟩ := nd_add (x := n_0) (y := (a_1)) (by omega) (by omega); rw [hn_0, hn_1, vp_in_iff]; omega)) p_0 p_1 c_2 c_3 c_5 c_6) (i32_full _) d_Md_level_97 (fun f_3 H locs hP hD hS hO_3 hE_3 w_15 ow_15 hF_3 => ?_)
                    have hA_3 := hA_2.trans hE_3
                    refine lv_iconst (v := 1) hx hb d_Md_level_98 (by decide +kernel) ?_
                    refine W.widen (k := 0) (n := 0) (Nat.le_of_ble_eq_true rfl) (Nat.le_of_ble_eq_true rfl) ?_
                    exact W.iret (v := 1) hx hb hr (fun t ht hW => ⟨⟨1, (L_1, f_3), rfl, ⟨hO_3, hA_3.mono (by decide +kernel), (Or.inl ⟨rfl, c_2, c_3, c_5, c_6, c_8, c_9, trivial⟩)⟩, by rw [ht]; exact hP, va_K.moved hW.alike hK, by rw [hAe]; exact hD⟩, by rw [hAe]; exact hS.F ht⟩) (by rw [hAe]; exact hS.2.2) d_Md_level_99
                  · refine lv_aload_n hx hb d_Md_level_40 rfl (lv_at hl 0 rfl) ?_
                    refine tw_getr (D := (dC, dI)) (C := R_Md) (T := F_Md) (N := 64) (ci := 7) (kd := 27) (ct := ct) hx hb htb i_Md hown hK hP hO_1 (hA_1.m m0) rfl rfl 6 (by decide) (htb (.fieldLink R_Md 17 "WaterMenModel" "hasRow" "[Z") tw_483) (fun _ h9 => h9) rfl d_Md_level_41 (fun q_16 e_16 m_16 => ?_)
                    refine lv_iload_n hx hb d_Md_level_44 rfl (lv_at hl 1 rfl) ?_
                    refine tw_aldZ (ct := ct) hx hb hK hP hO_1 m_16 rfl (hb_inl c_2 c_3 (by decide +kernel)) d_Md_level_45 (fun x_17 e_17 b_17 => ?_)
                    refine lv_if_ne (tgt := 79) hx hb d_Md_level_46 (by decide) (fun c_18 => ?_) (fun c_18 => ?_)
                    · refine lv_aload_n hx hb d_Md_level_79 rfl (lv_at hl 0 rfl) ?_
                      refine tw_getR (D := (dC, dI)) (C := R_Md) (T := F_Md) (N := 64) (ci := 7) (kd := 27) (ct := ct) hx hb htb i_Md hown hK hP (hA_1.m m0) rfl rfl 6 e_16 (by decide) (htb (.fieldLink R_Md 17 "WaterMenModel" "hasRow" "[Z") tw_483) (fun _ h9 => h9) rfl d_Md_level_80 ?_
                      refine hb_tv (.ref q_16) rfl ?_
                      refine lv_iload_n hx hb d_Md_level_83 rfl (lv_at hl 1 rfl) ?_
                      refine lv_iconst (v := 1) hx hb d_Md_level_84 (by decide +kernel) ?_
                      refine tw_astZ (ct := ct) (x := 1) hx hb hK hP hD hS hO_1 m_16 rfl (hb_inl c_2 c_3 (by decide +kernel)) ⟨by decide +kernel, by decide +kernel⟩ d_Md_level_85 (fun f_2 H locs hP hD hS hO_2 hE_2 w_19 ow_19 hF_2 => ?_)
                      have hA_2 := hA_1.trans hE_2
                      refine lv_aload_n hx hb d_Md_level_86 rfl (lv_at hl 0 rfl) ?_
                      refine tw_getr (D := (dC, dI)) (C := R_Md) (T := F_Md) (N := 64) (ci := 7) (kd := 27) (ct := ct) hx hb htb i_Md hown hK hP hO_2 (hA_2.m m0) rfl rfl 7 (by decide) (htb (.fieldLink R_Md 21 "WaterMenModel" "rows" "[I") tw_484) (fun _ h9 => h9) rfl d_Md_level_87 (fun q_20 e_20 m_20 => ?_)
                      refine lv_bipush (v := 12) hx hb d_Md_level_90 (by decide +kernel) ?_
                      refine lv_iload_n hx hb d_Md_level_92 rfl (lv_at hl 1 rfl) ?_
                      refine lv_imul hx hb d_Md_level_93 ?_
                      refine lv_iload_n hx hb d_Md_level_94 rfl (lv_at hl 2 rfl) ?_
                      refine lv_iadd hx hb d_Md_level_95 ?_
                      refine lv_iload_n hx hb d_Md_level_96 rfl (lv_at hl 3 rfl) ?_
                      refine tw_astI (ct := ct) (x := p_2) hx hb hK hP hD hS hO_2 m_20 rfl ((fun (a_0 : Int32) (a_1 : Int32) (k_0 : ¬ (a_0 < 0)) (k_1 : ¬ (499 < a_0)) (k_2 : ¬ (a_1 < 0)) (k_3 : ¬ (11 < a_1)) => (show vp_in (((12 * a_0) + a_1)) 6000 from by have z0 : (0 : Int32).toInt = 0 := (by decide +kernel); have z1 : (11 : Int32).toInt = 11 := (by decide +kernel); have z2 : (12 : Int32).toInt = 12 := (by decide +kernel); have z3 : (499 : Int32).toInt = 499 := (by decide +kernel); have r0 := fb_rng (a_0); have r1 := fb_rng (a_1); have e0 := k_0; rw [Int32.lt_iff_toInt_lt, z0] at e0; have e1 := k_1; rw [Int32.lt_iff_toInt_lt, z3] at e1; have e2 := k_2; rw [Int32.lt_iff_toInt_lt, z0] at e2; have e3 := k_3; rw [Int32.lt_iff_toInt_lt, z1] at e3; obtain ⟨n_0, hn_0, s0⟩ := nd_mul (x := (12 : Int32)) (y := (a_0)) (by (try rw [z2]); omega) (by (try rw [z2]); omega); rw [z2] at s0; obtain ⟨n_1, hn_1, s1⟩ := nd_add (x := n_0) (y := (a_1)) (by omega) (by omega); rw [hn_0, hn_1, vp_in_iff]; omega)) p_0 p_1 c_2 c_3 c_5 c_6) (i32_full _) d_Md_level_97 (fun f_3 H locs hP hD hS hO_3 hE_3 w_21 ow_21 hF_3 => ?_)
                      have hA_3 := hA_2.trans hE_3
                      refine lv_iconst (v := 1) hx hb d_Md_level_98 (by decide +kernel) ?_
                      refine W.widen (k := 0) (n := 0) (Nat.le_of_ble_eq_true rfl) (Nat.le_of_ble_eq_true rfl) ?_
                      exact W.iret (v := 1) hx hb hr (fun t ht hW => ⟨⟨1, (L_1, f_3), rfl, ⟨hO_3, hA_3.mono (by decide +kernel), (Or.inl ⟨rfl, c_2, c_3, c_5, c_6, c_8, c_9, trivial⟩)⟩, by rw [ht]; exact hP, va_K.moved hW.alike hK, by rw [hAe]; exact hD⟩, by rw [hAe]; exact hS.F ht⟩) (by rw [hAe]; exact hS.2.2) d_Md_level_99
                    · refine lv_aload_n hx hb d_Md_level_49 rfl (lv_at hl 0 rfl) ?_
                      refine tw_getr (D := (dC, dI)) (C := R_Md) (T := F_Md) (N := 64) (ci := 7) (kd := 27) (ct := ct) hx hb htb i_Md hown hK hP hO_1 (hA_1.m m0) rfl rfl 7 (by decide) (htb (.fieldLink R_Md 21 "WaterMenModel" "rows" "[I") tw_484) (fun _ h9 => h9) rfl d_Md_level_50 (fun q_22 e_22 m_22 => ?_)
                      refine lv_bipush (v := 12) hx hb d_Md_level_53 (by decide +kernel) ?_
                      refine lv_iload_n hx hb d_Md_level_55 rfl (lv_at hl 1 rfl) ?_
                      refine lv_imul hx hb d_Md_level_56 ?_
                      refine lv_iload hx hb d_Md_level_57 (lv_at hl 4 rfl) ?_
                      refine lv_iadd hx hb d_Md_level_59 ?_
                      refine lv_aload_n hx hb d_Md_level_60 rfl (lv_at hl 0 rfl) ?_
                      refine tw_getr (D := (dC, dI)) (C := R_Md) (T := F_Md) (N := 64) (ci := 7) (kd := 27) (ct := ct) hx hb htb i_Md hown hK hP hO_1 (hA_1.m m0) rfl rfl 5 (by decide) (htb (.fieldLink R_Md 25 "WaterMenModel" "table" "[I") tw_482) (fun _ h9 => h9) rfl d_Md_level_61 (fun q_23 e_23 m_23 => ?_)
                      refine lv_iload hx hb d_Md_level_64 (lv_at hl 4 rfl) ?_
                      refine lv_iload_n hx hb d_Md_level_66 rfl (lv_at hl 1 rfl) ?_
                      refine lv_iadd hx hb d_Md_level_67 ?_
                      refine lv_bipush (v := 12) hx hb d_Md_level_68 (by decide +kernel) ?_
                      refine lv_irem hx hb d_Md_level_70 (by decide) ?_
                      refine hb_remn (c := 12) (C1 := 11) (K := 2147483635) (by decide +kernel) (by decide +kernel) (by decide +kernel) (show ¬ ((v4_10 + p_0) < 0) from ((fun (a_0 : Int32) (a_1 : Int32) (k_0 : ¬ (a_0 < 0)) (k_1 : ¬ (499 < a_0)) (k_2 : ¬ (a_1 < 0)) (k_3 : ¬ (12 ≤ a_1)) => (show ¬ ((a_1 + a_0) < 0) from by have z0 : (0 : Int32).toInt = 0 := (by decide +kernel); have z1 : (12 : Int32).toInt = 12 := (by decide +kernel); have z2 : (499 : Int32).toInt = 499 := (by decide +kernel); have r0 := fb_rng (a_0); have r1 := fb_rng (a_1); have e0 := k_0; rw [Int32.lt_iff_toInt_lt, z0] at e0; have e1 := k_1; rw [Int32.lt_iff_toInt_lt, z2] at e1; have e2 := k_2; rw [Int32.lt_iff_toInt_lt, z0] at e2; have e3 := k_3; rw [Int32.le_iff_toInt_le, z1] at e3; obtain ⟨n_0, hn_0, s0⟩ := nd_add (x := (a_1)) (y := (a_0)) (by omega) (by omega); rw [hn_0, Int32.lt_iff_toInt_lt, z0]; omega)) p_0 v4_10 c_2 c_3 iv0_10 c_11)) (show ¬ (2147483635 < (v4_10 + p_0)) from ((fun (a_0 : Int32) (a_1 : Int32) (k_0 : ¬ (499 < a_0)) (k_1 : ¬ (a_1 < 0)) (k_2 : ¬ (12 ≤ a_1)) => (show ¬ (2147483635 < (a_1 + a_0)) from by have z0 : (0 : Int32).toInt = 0 := (by decide +kernel); have z1 : (12 : Int32).toInt = 12 := (by decide +kernel); have z2 : (499 : Int32).toInt = 499 := (by decide +kernel); have z3 : (2147483635 : Int32).toInt = 2147483635 := (by decide +kernel); have r0 := fb_rng (a_0); have r1 := fb_rng (a_1); have e0 := k_0; rw [Int32.lt_iff_toInt_lt, z2] at e0; have e1 := k_1; rw [Int32.lt_iff_toInt_lt, z0] at e1; have e2 := k_2; rw [Int32.le_iff_toInt_le, z1] at e2; obtain ⟨n_0, hn_0, s0⟩ := nd_add (x := (a_1)) (y := (a_0)) (by omega) (by omega); rw [hn_0, Int32.lt_iff_toInt_lt, z3]; omega)) p_0 v4_10 c_3 iv0_10 c_11)) (fun y_24 qu_24 g1_24 g2_24 g3_24 g4_24 g5_24 g9_24 => ?_)
                      refine tw_aldI (ct := ct) hx hb hK hP hO_1 m_23 rfl (hb_inl g1_24 g2_24 (by decide +kernel)) d_Md_level_71 (fun x_25 e_25 b_25 => ?_)
                      refine tw_astI (ct := ct) (x := x_25) hx hb hK hP hD hS hO_1 m_22 rfl ((fun (a_0 : Int32) (a_1 : Int32) (a_2 : Int32) (k_0 : ¬ (a_0 < 0)) (k_1 : ¬ (499 < a_0)) (k_2 : ¬ (12 ≤ a_2)) (k_3 : ¬ ((a_2 + a_0) < a_1)) (k_4 : ¬ (a_1 < 0)) => (show vp_in (((12 * a_0) + a_2)) 6000 from by have z0 : (0 : Int32).toInt = 0 := (by decide +kernel); have z1 : (12 : Int32).toInt = 12 := (by decide +kernel); have z2 : (499 : Int32).toInt = 499 := (by decide +kernel); have r0 := fb_rng (a_0); have r1 := fb_rng (a_1); have r2 := fb_rng (a_2); have e0 := k_0; rw [Int32.lt_iff_toInt_lt, z0] at e0; have e1 := k_1; rw [Int32.lt_iff_toInt_lt, z2] at e1; have e2 := k_2; rw [Int32.le_iff_toInt_le, z1] at e2; obtain ⟨n_0, hn_0, s0⟩ := nd_add (x := (a_2)) (y := (a_0)) (by omega) (by omega); have e3 := k_3; rw [hn_0, Int32.lt_iff_toInt_lt] at e3; have e4 := k_4; rw [Int32.lt_iff_toInt_lt, z0] at e4; obtain ⟨n_1, hn_1, s1⟩ := nd_mul (x := (12 : Int32)) (y := (a_0)) (by (try rw [z1]); omega) (by (try rw [z1]); omega); rw [z1] at s1; obtain ⟨n_2, hn_2, s2⟩ := nd_add (x := n_1) (y := (a_2)) (by omega) (by omega); rw [hn_1, hn_2, vp_in_iff]; omega)) p_0 qu_24 v4_10 c_2 c_3 c_11 g4_24 g3_24) (i32_full _) d_Md_level_72 (fun f_2 H locs hP hD hS hO_2 hE_2 w_26 ow_26 hF_2 => ?_)
                      have hA_2 := hA_1.trans hE_2
                      refine lv_iinc (v := (v4_10 + 1)) (lv' := [(4, .int (v4_10 + 1)), (0, .ref q0), (1, .int p_0), (2, .int p_1), (3, .int p_2)]) hx hb d_Md_level_73 hl (k := 4) rfl rfl (by decide) rfl (fun ls hl => ?_)
                      refine lv_goto (tgt := 33) hx hb d_Md_level_76 (by decide) ?_
                      exact ih_10 (n_10 - 1) (ms_1 ((fun (a_0 : Int32) (k_0 : ¬ (12 ≤ a_0)) => (show 1 ≤ (12 : Int32).toInt - (a_0).toInt ∧ (12 : Int32).toInt - ((a_0) + (1 : Int32)).toInt + 1 ≤ (12 : Int32).toInt - (a_0).toInt from by have z0 : (1 : Int32).toInt = 1 := (by decide +kernel); have z1 : (12 : Int32).toInt = 12 := (by decide +kernel); have r0 := fb_rng (a_0); have e0 := k_0; rw [Int32.le_iff_toInt_le, z1] at e0; obtain ⟨n_0, hn_0, s0⟩ := nd_add (x := (a_0)) (y := (1 : Int32)) (by (try rw [z0]); omega) (by (try rw [z0]); omega); rw [z0] at s0; rw [hn_0]; (try rw [z1]); omega)) v4_10 c_11) hm_10) (v4_10 + 1) _ _ _ _ _ hP hD hS hO_2 ((hE_1.trans hE_2).mono (by decide +kernel)) (show ¬ ((v4_10 + 1) < 0) from by have e0 := iv0_10; rw [Int32.lt_iff_toInt_lt] at e0; have e1 := c_11; rw [Int32.le_iff_toInt_le] at e1; have z0 : (0 : Int32).toInt = 0 := (by decide +kernel); have z1 : (1 : Int32).toInt = 1 := (by decide +kernel); have z2 : (12 : Int32).toInt = 12 := (by decide +kernel); have ss := fb_addI (x := v4_10) (y := 1) (by omega) (by omega); rw [Int32.lt_iff_toInt_lt]; omega) (show ¬ (12 < (v4_10 + 1)) from by have e0 := iv0_10; rw [Int32.lt_iff_toInt_lt] at e0; have e1 := c_11; rw [Int32.le_iff_toInt_le] at e1; have z0 : (0 : Int32).toInt = 0 := (by decide +kernel); have z1 : (1 : Int32).toInt = 1 := (by decide +kernel); have z2 : (12 : Int32).toInt = 12 := (by decide +kernel); have ss := fb_addI (x := v4_10) (y := 1) (by omega) (by omega); rw [Int32.lt_iff_toInt_lt]; omega) (by exact ms_2 ((fun (a_0 : Int32) (k_0 : ¬ (12 ≤ a_0)) => (show 1 ≤ (12 : Int32).toInt - (a_0).toInt ∧ (12 : Int32).toInt - ((a_0) + (1 : Int32)).toInt + 1 ≤ (12 : Int32).toInt - (a_0).toInt from by have z0 : (1 : Int32).toInt = 1 := (by decide +kernel); have z1 : (12 : Int32).toInt = 12 := (by decide +kernel); have r0 := fb_rng (a_0); have e0 := k_0; rw [Int32.le_iff_toInt_le, z1] at e0; obtain ⟨n_0, hn_0, s0⟩ := nd_add (x := (a_0)) (y := (1 : Int32)) (by (try rw [z0]); omega) (by (try rw [z0]); omega); rw [z0] at s0; rw [hn_0]; (try rw [z1]); omega)) v4_10 c_11) hm_10) (lv_sub hl [1, 2, 3, 4, 0] rfl)
              exact cut_10 4294967296 (0 : Int32) _ _ _ _ _ hP hD hS hO_0 Ext.rf (by decide +kernel) (by decide +kernel) (by exact ms_0 _ _) (lv_sub hl [1, 2, 3, 4, 0] rfl)
