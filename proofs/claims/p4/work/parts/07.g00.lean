def f_Md_today_g (v : Nat → Int32) (g : Nat → Nat → Int32)  : Int32 := ((v 1) / 720)
set_option maxHeartbeats 4000000 in
set_option maxRecDepth 100000 in
theorem c_Md_today_g (l : Launch) (dC : Nat → ClassId) (dI : Nat → Nat → Nat) (a : Nat → Nat) (k : Nat → ClassId) (v : Nat → Int32) (w : Nat → Int64) (g : Nat → Nat → Int32) (gl : Nat → Int64)   (as_0 : ¬ ((v 1) < 0)) (as_1 : ¬ (359999 < (v 1))) (as_2 : ¬ ((v 2) < 0)) (as_3 : ¬ (12 < (v 2))) (as_4 : ¬ ((v 21) < 0)) (as_5 : ¬ (20 < (v 21))) (as_6 : ¬ ((v 28) < 0)) (as_7 : ¬ (400 < (v 28))) (as_8 : ¬ ((v 29) < 0)) (as_9 : ¬ (20 < (v 29))) (as_10 : ¬ ((v 47) < 0)) (as_11 : ¬ (600 < (v 47))) (as_12 : ¬ ((v 60) < 0)) (as_13 : ¬ (30 < (v 60))) : Met l y_Md_today (.code y_Md_today b_Md_today 1 (some .int) :: TB) ({ frames := 0, cells := 0, slots := 0, locals := 0 }) (va_Pc [.ref (a 0)] (PR dC dI (MG a k v w g gl) (MT k))) (vp_Si (fun r => r = f_Md_today_g v g)) 0 0 (fun _ => False) := by
  refine Met.ofW (cc := b_Md_today) (maxL := 1) (ret := (some .int)) (by decide) rfl ?_
  intro p e s m args below meth c s₁ B hml hv
  obtain ⟨rfl, hP, hK, hN⟩ := hv
  have hx := B.exec
  have hb := B.bytes
  have hr := B.returns
  have hts := atoms_spec (ws := (.code y_Md_today b_Md_today 1 (some .int) :: TB)) B.pre
  have htb := fun w (h : w ∈ TB) => hts w (List.mem_cons_of_mem _ h)
  have hown : s.vm.findClass R_Md = some m.cls := findClass_of_methodNamed B.named
  have hlocks := B.notSynchronized
  have hl := lv_entry ([.ref (a 0)]) (n := 1) (Nat.le_of_ble_eq_true rfl)
  rw [lg_entry_eq]
  generalize (lg_sl ([.ref (a 0)]) ++ List.replicate (1 - (lg_sl ([.ref (a 0)])).length) Slot.unset).toArray = ls at hl ⊢
  have hl : lv_has ls 1 [(0, .ref (a 0))] := hl
  refine lv_aload_n hx hb d_Md_today_0 rfl (lv_at hl 0 rfl) ?_
  refine va_get (D := (dC, dI)) (ci := 7) (v := .int (v 1)) (C := R_Md) (T := F_Md) (N := 64) hx hb htb i_Md hown hK hP 0 rfl rfl 1 (by decide) (htb (.fieldLink R_Md 7 "WaterMenModel" "time" "I") tw_0) (fun _ h9 => h9) rfl d_Md_today_1 ?_
  refine lv_sipush (v := 720) hx hb d_Md_today_4 (by decide +kernel) ?_
  refine lv_idiv hx hb d_Md_today_7 (by decide) ?_
  exact W.iret (v := ((v 1) / 720)) hx hb hr (fun t ht hW => ⟨((v 1) / 720), rfl, rfl, ht⟩) t_nil d_Md_today_8
def f_Md_hourNow_g (v : Nat → Int32) (g : Nat → Nat → Int32)  : Int32 := (((v 1) - (v 1) / 720 * 720) / 60)
set_option maxHeartbeats 4000000 in
set_option maxRecDepth 100000 in
theorem c_Md_hourNow_g (l : Launch) (dC : Nat → ClassId) (dI : Nat → Nat → Nat) (a : Nat → Nat) (k : Nat → ClassId) (v : Nat → Int32) (w : Nat → Int64) (g : Nat → Nat → Int32) (gl : Nat → Int64)   (as_0 : ¬ ((v 1) < 0)) (as_1 : ¬ (359999 < (v 1))) (as_2 : ¬ ((v 2) < 0)) (as_3 : ¬ (12 < (v 2))) (as_4 : ¬ ((v 21) < 0)) (as_5 : ¬ (20 < (v 21))) (as_6 : ¬ ((v 28) < 0)) (as_7 : ¬ (400 < (v 28))) (as_8 : ¬ ((v 29) < 0)) (as_9 : ¬ (20 < (v 29))) (as_10 : ¬ ((v 47) < 0)) (as_11 : ¬ (600 < (v 47))) (as_12 : ¬ ((v 60) < 0)) (as_13 : ¬ (30 < (v 60))) : Met l y_Md_hourNow (.code y_Md_hourNow b_Md_hourNow 1 (some .int) :: TB) ({ frames := 0, cells := 0, slots := 0, locals := 0 }) (va_Pc [.ref (a 0)] (PR dC dI (MG a k v w g gl) (MT k))) (vp_Si (fun r => r = f_Md_hourNow_g v g)) 0 0 (fun _ => False) := by
  refine Met.ofW (cc := b_Md_hourNow) (maxL := 1) (ret := (some .int)) (by decide) rfl ?_
  intro p e s m args below meth c s₁ B hml hv
  obtain ⟨rfl, hP, hK, hN⟩ := hv
  have hx := B.exec
  have hb := B.bytes
  have hr := B.returns
  have hts := atoms_spec (ws := (.code y_Md_hourNow b_Md_hourNow 1 (some .int) :: TB)) B.pre
  have htb := fun w (h : w ∈ TB) => hts w (List.mem_cons_of_mem _ h)
  have hown : s.vm.findClass R_Md = some m.cls := findClass_of_methodNamed B.named
  have hlocks := B.notSynchronized
  have hl := lv_entry ([.ref (a 0)]) (n := 1) (Nat.le_of_ble_eq_true rfl)
  rw [lg_entry_eq]
  generalize (lg_sl ([.ref (a 0)]) ++ List.replicate (1 - (lg_sl ([.ref (a 0)])).length) Slot.unset).toArray = ls at hl ⊢
  have hl : lv_has ls 1 [(0, .ref (a 0))] := hl
  refine lv_aload_n hx hb d_Md_hourNow_0 rfl (lv_at hl 0 rfl) ?_
  refine va_get (D := (dC, dI)) (ci := 7) (v := .int (v 1)) (C := R_Md) (T := F_Md) (N := 64) hx hb htb i_Md hown hK hP 0 rfl rfl 1 (by decide) (htb (.fieldLink R_Md 7 "WaterMenModel" "time" "I") tw_0) (fun _ h9 => h9) rfl d_Md_hourNow_1 ?_
  refine lv_sipush (v := 720) hx hb d_Md_hourNow_4 (by decide +kernel) ?_
  refine lv_irem hx hb d_Md_hourNow_7 (by decide) ?_
  refine lv_bipush (v := 60) hx hb d_Md_hourNow_8 (by decide +kernel) ?_
  refine lv_idiv hx hb d_Md_hourNow_10 (by decide) ?_
  exact W.iret (v := (((v 1) - (v 1) / 720 * 720) / 60)) hx hb hr (fun t ht hW => ⟨(((v 1) - (v 1) / 720 * 720) / 60), rfl, rfl, ht⟩) t_nil d_Md_hourNow_11
def f_Md_in  (p_0 : Int32) (p_1 : Int32) (p_2 : Int32) : Int32 := if p_0 < p_1 then (0) else (if p_2 < p_0 then (0) else (1))
set_option maxHeartbeats 4000000 in
set_option maxRecDepth 100000 in
theorem c_Md_in (l : Launch)  (p_0 : Int32) (p_1 : Int32) (p_2 : Int32)  : Met l y_Md_in (.code y_Md_in b_Md_in 3 (some .boolean) :: TB) ({ frames := 0, cells := 0, slots := 0, locals := 0 }) (va_Pc [.int p_0, .int p_1, .int p_2] (fun _ => True)) (vp_Si (fun r => r = f_Md_in p_0 p_1 p_2)) 0 0 (fun _ => False) := by
  refine Met.ofW (cc := b_Md_in) (maxL := 3) (ret := (some .boolean)) (by decide) rfl ?_
  intro p e s m args below meth c s₁ B hml hv
  obtain ⟨rfl, -⟩ := hv
  have hx := B.exec
  have hb := B.bytes
  have hr := B.returns
  have hts := atoms_spec (ws := (.code y_Md_in b_Md_in 3 (some .boolean) :: TB)) B.pre
  have htb := fun w (h : w ∈ TB) => hts w (List.mem_cons_of_mem _ h)
  have hown : s.vm.findClass R_Md = some m.cls := findClass_of_methodNamed B.named
  have hlocks := B.notSynchronized
  have hl := lv_entry ([.int p_0, .int p_1, .int p_2]) (n := 3) (Nat.le_of_ble_eq_true rfl)
  rw [lg_entry_eq]
  generalize (lg_sl ([.int p_0, .int p_1, .int p_2]) ++ List.replicate (3 - (lg_sl ([.int p_0, .int p_1, .int p_2])).length) Slot.unset).toArray = ls at hl ⊢
  have hl : lv_has ls 3 [(0, .int p_0), (1, .int p_1), (2, .int p_2)] := hl
  refine lv_iload_n hx hb d_Md_in_0 rfl (lv_at hl 0 rfl) ?_
  refine lv_iload_n hx hb d_Md_in_1 rfl (lv_at hl 1 rfl) ?_
  refine lv_icmp_lt (tgt := 14) hx hb d_Md_in_2 (by decide) (fun c_1 => ?_) (fun c_1 => ?_)
  · refine lv_iconst (v := 0) hx hb d_Md_in_14 (by decide +kernel) ?_
    exact W.zret (v := 0) hx hb hr (by decide +kernel) (fun t ht hW => ⟨0, rfl, (by unfold f_Md_in; rw [if_pos c_1]), ht⟩) t_nil d_Md_in_15
  · refine lv_iload_n hx hb d_Md_in_5 rfl (lv_at hl 0 rfl) ?_
    refine lv_iload_n hx hb d_Md_in_6 rfl (lv_at hl 2 rfl) ?_
    refine lv_icmp_gt (tgt := 14) hx hb d_Md_in_7 (by decide) (fun c_2 => ?_) (fun c_2 => ?_)
    · refine lv_iconst (v := 0) hx hb d_Md_in_14 (by decide +kernel) ?_
      exact W.zret (v := 0) hx hb hr (by decide +kernel) (fun t ht hW => ⟨0, rfl, (by unfold f_Md_in; rw [if_neg c_1, if_pos c_2]), ht⟩) t_nil d_Md_in_15
    · refine lv_iconst (v := 1) hx hb d_Md_in_10 (by decide +kernel) ?_
      refine lv_goto (tgt := 15) hx hb d_Md_in_11 (by decide) ?_
      exact W.zret (v := 1) hx hb hr (by decide +kernel) (fun t ht hW => ⟨1, rfl, (by unfold f_Md_in; rw [if_neg c_1, if_neg c_2]), ht⟩) t_nil d_Md_in_15
def f_Md_isStairs_g (v : Nat → Int32) (g : Nat → Nat → Int32) (p_0 : Int32) : Int32 := if p_0 < 0 then (0) else (if ((v 2) - 1) < p_0 then (0) else (1))
set_option maxHeartbeats 4000000 in
set_option maxRecDepth 100000 in
theorem c_Md_isStairs_g (l : Launch) (dC : Nat → ClassId) (dI : Nat → Nat → Nat) (a : Nat → Nat) (k : Nat → ClassId) (v : Nat → Int32) (w : Nat → Int64) (g : Nat → Nat → Int32) (gl : Nat → Int64)  (p_0 : Int32) (as_0 : ¬ ((v 1) < 0)) (as_1 : ¬ (359999 < (v 1))) (as_2 : ¬ ((v 2) < 0)) (as_3 : ¬ (12 < (v 2))) (as_4 : ¬ ((v 21) < 0)) (as_5 : ¬ (20 < (v 21))) (as_6 : ¬ ((v 28) < 0)) (as_7 : ¬ (400 < (v 28))) (as_8 : ¬ ((v 29) < 0)) (as_9 : ¬ (20 < (v 29))) (as_10 : ¬ ((v 47) < 0)) (as_11 : ¬ (600 < (v 47))) (as_12 : ¬ ((v 60) < 0)) (as_13 : ¬ (30 < (v 60))) : Met l y_Md_isStairs (.code y_Md_isStairs b_Md_isStairs 2 (some .boolean) :: TB) ({ frames := 1, cells := 0, slots := 0, locals := 22 }) (va_Pc [.ref (a 0), .int p_0] (PR dC dI (MG a k v w g gl) (MT k))) (vp_Si (fun r => r = f_Md_isStairs_g v g p_0)) 0 0 (fun _ => False) := by
  refine Met.ofW (cc := b_Md_isStairs) (maxL := 2) (ret := (some .boolean)) (by decide) rfl ?_
  intro p e s m args below meth c s₁ B hml hv
  obtain ⟨rfl, hP, hK, hN⟩ := hv
  have hx := B.exec
  have hb := B.bytes
  have hr := B.returns
  have hts := atoms_spec (ws := (.code y_Md_isStairs b_Md_isStairs 2 (some .boolean) :: TB)) B.pre
  have htb := fun w (h : w ∈ TB) => hts w (List.mem_cons_of_mem _ h)
  have hown : s.vm.findClass R_Md = some m.cls := findClass_of_methodNamed B.named
  have hlocks := B.notSynchronized
  have hl := lv_entry ([.ref (a 0), .int p_0]) (n := 2) (Nat.le_of_ble_eq_true rfl)
  rw [lg_entry_eq]
  generalize (lg_sl ([.ref (a 0), .int p_0]) ++ List.replicate (2 - (lg_sl ([.ref (a 0), .int p_0])).length) Slot.unset).toArray = ls at hl ⊢
  have hl : lv_has ls 2 [(0, .ref (a 0)), (1, .int p_0)] := hl
  refine lv_iload_n hx hb d_Md_isStairs_0 rfl (lv_at hl 1 rfl) ?_
  refine lv_iconst (v := 0) hx hb d_Md_isStairs_1 (by decide +kernel) ?_
  refine lv_aload_n hx hb d_Md_isStairs_2 rfl (lv_at hl 0 rfl) ?_
  refine va_get (D := (dC, dI)) (ci := 7) (v := .int (v 2)) (C := R_Md) (T := F_Md) (N := 64) hx hb htb i_Md hown hK hP 0 rfl rfl 2 (by decide) (htb (.fieldLink R_Md 14 "WaterMenModel" "stairs" "I") tw_1) (fun _ h9 => h9) rfl d_Md_isStairs_3 ?_
  refine lv_iconst (v := 1) hx hb d_Md_isStairs_6 (by decide +kernel) ?_
  refine lv_isub hx hb d_Md_isStairs_7 ?_
  refine vp_callSi (va_Run.run (va_runS (As := [.int p_0, .int 0, .int ((v 2) - 1)]) (rest := []) ⟨hx, hb, hml, hown, htb⟩ (c_Md_in l p_0 0 ((v 2) - 1)) (cwS 3 htb (gd_S tw_4 tw_5 tw_3 tw_2) rfl rfl rfl (by decide +kernel) ⟨Nat.le_of_ble_eq_true rfl, Nat.le_of_ble_eq_true rfl⟩) ⟨fun _ _ _ _ h => h, fun U _ _ => ⟨rfl, trivial⟩⟩ rfl rfl hl.1 rfl (lv_room (Nat.le_of_ble_eq_true rfl)) d_Md_isStairs_8 ⟨Nat.le_of_ble_eq_true rfl, Nat.le_of_ble_eq_true rfl⟩)) (fun r er => ?_)
  subst er
  by_cases c_1 : p_0 < 0
  · refine hb_ti 0 (by unfold f_Md_in; rw [if_pos c_1]; first | done | rfl) ?_
    exact W.zret (v := 0) hx hb hr (by decide +kernel) (fun t ht hW => ⟨0, rfl, (by unfold f_Md_isStairs_g; rw [if_pos c_1]), ht⟩) t_nil d_Md_isStairs_11
  · by_cases c_2 : ((v 2) - 1) < p_0
    · refine hb_ti 0 (by unfold f_Md_in; rw [if_neg c_1, if_pos c_2]; first | done | rfl) ?_
      exact W.zret (v := 0) hx hb hr (by decide +kernel) (fun t ht hW => ⟨0, rfl, (by unfold f_Md_isStairs_g; rw [if_neg c_1, if_pos c_2]), ht⟩) t_nil d_Md_isStairs_11
    · refine hb_ti 1 (by unfold f_Md_in; rw [if_neg c_1, if_neg c_2]; first | done | rfl) ?_
      exact W.zret (v := 1) hx hb hr (by decide +kernel) (fun t ht hW => ⟨1, rfl, (by unfold f_Md_isStairs_g; rw [if_neg c_1, if_neg c_2]), ht⟩) t_nil d_Md_isStairs_11
def f_Md_levelOf_g (v : Nat → Int32) (g : Nat → Nat → Int32) (p_0 : Int32) (p_1 : Int32) : Int32 := if 500 ≤ p_0 then ((g 2) (((p_1 + p_0) - (p_1 + p_0) / 12 * 12)).toNatClampNeg) else (if (g 3) (p_0).toNatClampNeg = 0 then ((g 2) (((p_1 + p_0) - (p_1 + p_0) / 12 * 12)).toNatClampNeg) else ((g 4) (((12 * p_0) + p_1)).toNatClampNeg))
set_option maxHeartbeats 4000000 in
set_option maxRecDepth 100000 in
theorem c_Md_levelOf_g (l : Launch) (dC : Nat → ClassId) (dI : Nat → Nat → Nat) (a : Nat → Nat) (k : Nat → ClassId) (v : Nat → Int32) (w : Nat → Int64) (g : Nat → Nat → Int32) (gl : Nat → Int64)  (p_0 : Int32) (p_1 : Int32) (as_0 : ¬ ((v 1) < 0)) (as_1 : ¬ (359999 < (v 1))) (as_2 : ¬ ((v 2) < 0)) (as_3 : ¬ (12 < (v 2))) (as_4 : ¬ ((v 21) < 0)) (as_5 : ¬ (20 < (v 21))) (as_6 : ¬ ((v 28) < 0)) (as_7 : ¬ (400 < (v 28))) (as_8 : ¬ ((v 29) < 0)) (as_9 : ¬ (20 < (v 29))) (as_10 : ¬ ((v 47) < 0)) (as_11 : ¬ (600 < (v 47))) (as_12 : ¬ ((v 60) < 0)) (as_13 : ¬ (30 < (v 60))) (as_14 : ¬ (p_0 < 0)) (as_15 : ¬ (500 < p_0)) (as_16 : ¬ (p_1 < 0)) (as_17 : ¬ (12 ≤ p_1)) : Met l y_Md_levelOf (.code y_Md_levelOf b_Md_levelOf 3 (some .int) :: TB) ({ frames := 0, cells := 0, slots := 0, locals := 0 }) (va_Pc [.ref (a 0), .int p_0, .int p_1] (PR dC dI (MG a k v w g gl) (MT k))) (vp_Si (fun r => r = f_Md_levelOf_g v g p_0 p_1)) 0 0 (fun _ => False) := by
  refine Met.ofW (cc := b_Md_levelOf) (maxL := 3) (ret := (some .int)) (by decide) rfl ?_
  intro p e s m args below meth c s₁ B hml hv
  obtain ⟨rfl, hP, hK, hN⟩ := hv
  have hx := B.exec
  have hb := B.bytes
  have hr := B.returns
  have hts := atoms_spec (ws := (.code y_Md_levelOf b_Md_levelOf 3 (some .int) :: TB)) B.pre
  have htb := fun w (h : w ∈ TB) => hts w (List.mem_cons_of_mem _ h)
  have hown : s.vm.findClass R_Md = some m.cls := findClass_of_methodNamed B.named
  have hlocks := B.notSynchronized
  have hl := lv_entry ([.ref (a 0), .int p_0, .int p_1]) (n := 3) (Nat.le_of_ble_eq_true rfl)
  rw [lg_entry_eq]
  generalize (lg_sl ([.ref (a 0), .int p_0, .int p_1]) ++ List.replicate (3 - (lg_sl ([.ref (a 0), .int p_0, .int p_1])).length) Slot.unset).toArray = ls at hl ⊢
  have hl : lv_has ls 3 [(0, .ref (a 0)), (1, .int p_0), (2, .int p_1)] := hl
  refine lv_iload_n hx hb d_Md_levelOf_0 rfl (lv_at hl 1 rfl) ?_
  refine lv_sipush (v := 500) hx hb d_Md_levelOf_1 (by decide +kernel) ?_
  refine lv_icmp_ge (tgt := 30) hx hb d_Md_levelOf_4 (by decide) (fun c_1 => ?_) (fun c_1 => ?_)
  · refine lv_aload_n hx hb d_Md_levelOf_30 rfl (lv_at hl 0 rfl) ?_
    refine va_get (D := (dC, dI)) (ci := 7) (v := .ref (a 2)) (C := R_Md) (T := F_Md) (N := 64) hx hb htb i_Md hown hK hP 0 rfl rfl 5 (by decide) (htb (.fieldLink R_Md 25 "WaterMenModel" "table" "[I") tw_6) (fun _ h9 => h9) rfl d_Md_levelOf_31 ?_
    refine lv_iload_n hx hb d_Md_levelOf_34 rfl (lv_at hl 2 rfl) ?_
    refine lv_iload_n hx hb d_Md_levelOf_35 rfl (lv_at hl 1 rfl) ?_
    refine lv_iadd hx hb d_Md_levelOf_36 ?_
    refine lv_bipush (v := 12) hx hb d_Md_levelOf_37 (by decide +kernel) ?_
    refine lv_irem hx hb d_Md_levelOf_39 (by decide) ?_
    refine va_iald hx hb hK hP 2 1 rfl rfl (hb_rem12 as_16 (show ¬ (1000 < p_1) from by have e0 := as_16; rw [Int32.lt_iff_toInt_lt] at e0; have e1 := as_17; rw [Int32.le_iff_toInt_le] at e1; have z0 : (0 : Int32).toInt = 0 := (by decide +kernel); have z1 : (12 : Int32).toInt = 12 := (by decide +kernel); have z2 : (1000 : Int32).toInt = 1000 := (by decide +kernel); rw [Int32.lt_iff_toInt_lt]; omega) as_14 (show ¬ (1000 < p_0) from by have e0 := c_1; rw [Int32.le_iff_toInt_le] at e0; have e1 := as_15; rw [Int32.lt_iff_toInt_lt] at e1; have z0 : (500 : Int32).toInt = 500 := (by decide +kernel); have z1 : (1000 : Int32).toInt = 1000 := (by decide +kernel); rw [Int32.lt_iff_toInt_lt]; omega)) d_Md_levelOf_40 ?_
    exact W.iret (v := (g 2) (((p_1 + p_0) - (p_1 + p_0) / 12 * 12)).toNatClampNeg) hx hb hr (fun t ht hW => ⟨(g 2) (((p_1 + p_0) - (p_1 + p_0) / 12 * 12)).toNatClampNeg, rfl, (by unfold f_Md_levelOf_g; rw [if_pos c_1]), ht⟩) t_nil d_Md_levelOf_41
  · refine lv_aload_n hx hb d_Md_levelOf_7 rfl (lv_at hl 0 rfl) ?_
    refine va_get (D := (dC, dI)) (ci := 7) (v := .ref (a 3)) (C := R_Md) (T := F_Md) (N := 64) hx hb htb i_Md hown hK hP 0 rfl rfl 6 (by decide) (htb (.fieldLink R_Md 17 "WaterMenModel" "hasRow" "[Z") tw_7) (fun _ h9 => h9) rfl d_Md_levelOf_8 ?_
    refine lv_iload_n hx hb d_Md_levelOf_11 rfl (lv_at hl 1 rfl) ?_
    refine va_zald hx hb hK hP 3 2 rfl rfl (hb_in as_14 c_1 (by decide +kernel)) d_Md_levelOf_12 ?_
    refine lv_if_eq (tgt := 30) hx hb d_Md_levelOf_13 (by decide) (fun c_2 => ?_) (fun c_2 => ?_)
    · refine lv_aload_n hx hb d_Md_levelOf_30 rfl (lv_at hl 0 rfl) ?_
      refine va_get (D := (dC, dI)) (ci := 7) (v := .ref (a 2)) (C := R_Md) (T := F_Md) (N := 64) hx hb htb i_Md hown hK hP 0 rfl rfl 5 (by decide) (htb (.fieldLink R_Md 25 "WaterMenModel" "table" "[I") tw_6) (fun _ h9 => h9) rfl d_Md_levelOf_31 ?_
      refine lv_iload_n hx hb d_Md_levelOf_34 rfl (lv_at hl 2 rfl) ?_
      refine lv_iload_n hx hb d_Md_levelOf_35 rfl (lv_at hl 1 rfl) ?_
      refine lv_iadd hx hb d_Md_levelOf_36 ?_
      refine lv_bipush (v := 12) hx hb d_Md_levelOf_37 (by decide +kernel) ?_
      refine lv_irem hx hb d_Md_levelOf_39 (by decide) ?_
      refine va_iald hx hb hK hP 2 1 rfl rfl (hb_rem12 as_16 (show ¬ (1000 < p_1) from by have e0 := as_16; rw [Int32.lt_iff_toInt_lt] at e0; have e1 := as_17; rw [Int32.le_iff_toInt_le] at e1; have z0 : (0 : Int32).toInt = 0 := (by decide +kernel); have z1 : (12 : Int32).toInt = 12 := (by decide +kernel); have z2 : (1000 : Int32).toInt = 1000 := (by decide +kernel); rw [Int32.lt_iff_toInt_lt]; omega) as_14 (show ¬ (1000 < p_0) from by have e0 := as_14; rw [Int32.lt_iff_toInt_lt] at e0; have e1 := c_1; rw [Int32.le_iff_toInt_le] at e1; have z0 : (0 : Int32).toInt = 0 := (by decide +kernel); have z1 : (500 : Int32).toInt = 500 := (by decide +kernel); have z2 : (1000 : Int32).toInt = 1000 := (by decide +kernel); rw [Int32.lt_iff_toInt_lt]; omega)) d_Md_levelOf_40 ?_
      exact W.iret (v := (g 2) (((p_1 + p_0) - (p_1 + p_0) / 12 * 12)).toNatClampNeg) hx hb hr (fun t ht hW => ⟨(g 2) (((p_1 + p_0) - (p_1 + p_0) / 12 * 12)).toNatClampNeg, rfl, (by unfold f_Md_levelOf_g; rw [if_neg c_1, if_pos c_2]), ht⟩) t_nil d_Md_levelOf_41
    · refine lv_aload_n hx hb d_Md_levelOf_16 rfl (lv_at hl 0 rfl) ?_
      refine va_get (D := (dC, dI)) (ci := 7) (v := .ref (a 4)) (C := R_Md) (T := F_Md) (N := 64) hx hb htb i_Md hown hK hP 0 rfl rfl 7 (by decide) (htb (.fieldLink R_Md 21 "WaterMenModel" "rows" "[I") tw_8) (fun _ h9 => h9) rfl d_Md_levelOf_17 ?_
      refine lv_bipush (v := 12) hx hb d_Md_levelOf_20 (by decide +kernel) ?_
      refine lv_iload_n hx hb d_Md_levelOf_22 rfl (lv_at hl 1 rfl) ?_
      refine lv_imul hx hb d_Md_levelOf_23 ?_
      refine lv_iload_n hx hb d_Md_levelOf_24 rfl (lv_at hl 2 rfl) ?_
      refine lv_iadd hx hb d_Md_levelOf_25 ?_
      refine va_iald hx hb hK hP 4 3 rfl rfl (hb_i6000 as_14 (show ¬ (499 < p_0) from by have e0 := as_14; rw [Int32.lt_iff_toInt_lt] at e0; have e1 := c_1; rw [Int32.le_iff_toInt_le] at e1; have z0 : (0 : Int32).toInt = 0 := (by decide +kernel); have z1 : (499 : Int32).toInt = 499 := (by decide +kernel); have z2 : (500 : Int32).toInt = 500 := (by decide +kernel); rw [Int32.lt_iff_toInt_lt]; omega) as_16 (show ¬ (11 < p_1) from by have e0 := as_16; rw [Int32.lt_iff_toInt_lt] at e0; have e1 := as_17; rw [Int32.le_iff_toInt_le] at e1; have z0 : (0 : Int32).toInt = 0 := (by decide +kernel); have z1 : (11 : Int32).toInt = 11 := (by decide +kernel); have z2 : (12 : Int32).toInt = 12 := (by decide +kernel); rw [Int32.lt_iff_toInt_lt]; omega)) d_Md_levelOf_26 ?_
      refine lv_goto (tgt := 41) hx hb d_Md_levelOf_27 (by decide) ?_
      exact W.iret (v := (g 4) (((12 * p_0) + p_1)).toNatClampNeg) hx hb hr (fun t ht hW => ⟨(g 4) (((12 * p_0) + p_1)).toNatClampNeg, rfl, (by unfold f_Md_levelOf_g; rw [if_neg c_1, if_neg c_2]), ht⟩) t_nil d_Md_levelOf_41
def f_Md_flowOf_g (v : Nat → Int32) (g : Nat → Nat → Int32) (p_0 : Int32) (p_1 : Int32) : Int32 := if p_1 = 11 then (if 500 ≤ (p_0 + 1) then (if (g 3) (p_0).toNatClampNeg = 0 then (((g 2) (((0 + (p_0 + 1)) - (0 + (p_0 + 1)) / 12 * 12)).toNatClampNeg - (g 2) (((p_1 + p_0) - (p_1 + p_0) / 12 * 12)).toNatClampNeg)) else (((g 2) (((0 + (p_0 + 1)) - (0 + (p_0 + 1)) / 12 * 12)).toNatClampNeg - (g 4) (((12 * p_0) + p_1)).toNatClampNeg))) else (if (g 3) ((p_0 + 1)).toNatClampNeg = 0 then (if (g 3) (p_0).toNatClampNeg = 0 then (((g 2) (((0 + (p_0 + 1)) - (0 + (p_0 + 1)) / 12 * 12)).toNatClampNeg - (g 2) (((p_1 + p_0) - (p_1 + p_0) / 12 * 12)).toNatClampNeg)) else (((g 2) (((0 + (p_0 + 1)) - (0 + (p_0 + 1)) / 12 * 12)).toNatClampNeg - (g 4) (((12 * p_0) + p_1)).toNatClampNeg))) else (if (g 3) (p_0).toNatClampNeg = 0 then (((g 4) (((12 * (p_0 + 1)) + 0)).toNatClampNeg - (g 2) (((p_1 + p_0) - (p_1 + p_0) / 12 * 12)).toNatClampNeg)) else (((g 4) (((12 * (p_0 + 1)) + 0)).toNatClampNeg - (g 4) (((12 * p_0) + p_1)).toNatClampNeg))))) else (if (g 3) (p_0).toNatClampNeg = 0 then (((g 2) ((((p_1 + 1) + p_0) - ((p_1 + 1) + p_0) / 12 * 12)).toNatClampNeg - (g 2) (((p_1 + p_0) - (p_1 + p_0) / 12 * 12)).toNatClampNeg)) else (((g 4) (((12 * p_0) + (p_1 + 1))).toNatClampNeg - (g 4) (((12 * p_0) + p_1)).toNatClampNeg)))
set_option maxHeartbeats 4000000 in
set_option maxRecDepth 100000 in
theorem c_Md_flowOf_g (l : Launch) (dC : Nat → ClassId) (dI : Nat → Nat → Nat) (a : Nat → Nat) (k : Nat → ClassId) (v : Nat → Int32) (w : Nat → Int64) (g : Nat → Nat → Int32) (gl : Nat → Int64)  (p_0 : Int32) (p_1 : Int32) (as_0 : ¬ ((v 1) < 0)) (as_1 : ¬ (359999 < (v 1))) (as_2 : ¬ ((v 2) < 0)) (as_3 : ¬ (12 < (v 2))) (as_4 : ¬ ((v 21) < 0)) (as_5 : ¬ (20 < (v 21))) (as_6 : ¬ ((v 28) < 0)) (as_7 : ¬ (400 < (v 28))) (as_8 : ¬ ((v 29) < 0)) (as_9 : ¬ (20 < (v 29))) (as_10 : ¬ ((v 47) < 0)) (as_11 : ¬ (600 < (v 47))) (as_12 : ¬ ((v 60) < 0)) (as_13 : ¬ (30 < (v 60))) (as_14 : ¬ (p_0 < 0)) (as_15 : ¬ (500 ≤ p_0)) (as_16 : ¬ (p_1 < 0)) (as_17 : ¬ (12 ≤ p_1)) : Met l y_Md_flowOf (.code y_Md_flowOf b_Md_flowOf 3 (some .int) :: TB) ({ frames := 1, cells := 0, slots := 0, locals := 22 }) (va_Pc [.ref (a 0), .int p_0, .int p_1] (PR dC dI (MG a k v w g gl) (MT k))) (vp_Si (fun r => r = f_Md_flowOf_g v g p_0 p_1)) 0 0 (fun _ => False) := by
  refine Met.ofW (cc := b_Md_flowOf) (maxL := 3) (ret := (some .int)) (by decide) rfl ?_
  intro p e s m args below meth c s₁ B hml hv
  obtain ⟨rfl, hP, hK, hN⟩ := hv
  have hx := B.exec
  have hb := B.bytes
  have hr := B.returns
  have hts := atoms_spec (ws := (.code y_Md_flowOf b_Md_flowOf 3 (some .int) :: TB)) B.pre
  have htb := fun w (h : w ∈ TB) => hts w (List.mem_cons_of_mem _ h)
  have hown : s.vm.findClass R_Md = some m.cls := findClass_of_methodNamed B.named
  have hlocks := B.notSynchronized
  have hl := lv_entry ([.ref (a 0), .int p_0, .int p_1]) (n := 3) (Nat.le_of_ble_eq_true rfl)
  rw [lg_entry_eq]
  generalize (lg_sl ([.ref (a 0), .int p_0, .int p_1]) ++ List.replicate (3 - (lg_sl ([.ref (a 0), .int p_0, .int p_1])).length) Slot.unset).toArray = ls at hl ⊢
  have hl : lv_has ls 3 [(0, .ref (a 0)), (1, .int p_0), (2, .int p_1)] := hl
  refine lv_iload_n hx hb d_Md_flowOf_0 rfl (lv_at hl 2 rfl) ?_
  refine lv_bipush (v := 11) hx hb d_Md_flowOf_1 (by decide +kernel) ?_
  refine lv_icmp_ne (tgt := 17) hx hb d_Md_flowOf_3 (by decide) (fun c_1 => ?_) (fun c_1 => ?_)
  · refine lv_aload_n hx hb d_Md_flowOf_17 rfl (lv_at hl 0 rfl) ?_
    refine lv_iload_n hx hb d_Md_flowOf_18 rfl (lv_at hl 1 rfl) ?_
    refine lv_iload_n hx hb d_Md_flowOf_19 rfl (lv_at hl 2 rfl) ?_
    refine lv_iconst (v := 1) hx hb d_Md_flowOf_20 (by decide +kernel) ?_
    refine lv_iadd hx hb d_Md_flowOf_21 ?_
    refine vp_callSi (va_Run.run (va_runV (As := [.int p_0, .int (p_1 + 1)]) (rest := []) ⟨hx, hb, hml, hown, htb⟩ (c_Md_levelOf_g l dC dI a k v w g gl p_0 (p_1 + 1) as_0 as_1 as_2 as_3 as_4 as_5 as_6 as_7 as_8 as_9 as_10 as_11 as_12 as_13 as_14 (show ¬ (500 < p_0) from by have e0 := as_14; rw [Int32.lt_iff_toInt_lt] at e0; have e1 := as_15; rw [Int32.le_iff_toInt_le] at e1; have z0 : (0 : Int32).toInt = 0 := (by decide +kernel); have z1 : (500 : Int32).toInt = 500 := (by decide +kernel); rw [Int32.lt_iff_toInt_lt]; omega) (show ¬ ((p_1 + 1) < 0) from by have e0 := as_16; rw [Int32.lt_iff_toInt_lt] at e0; have e1 := as_17; rw [Int32.le_iff_toInt_le] at e1; have e2 := c_1; rw [← Int32.toInt_inj] at e2; have z0 : (0 : Int32).toInt = 0 := (by decide +kernel); have z1 : (1 : Int32).toInt = 1 := (by decide +kernel); have z2 : (11 : Int32).toInt = 11 := (by decide +kernel); have z3 : (12 : Int32).toInt = 12 := (by decide +kernel); have ss := fb_addI (x := p_1) (y := 1) (by omega) (by omega); rw [Int32.lt_iff_toInt_lt]; omega) (show ¬ (12 ≤ (p_1 + 1)) from by have e0 := as_16; rw [Int32.lt_iff_toInt_lt] at e0; have e1 := as_17; rw [Int32.le_iff_toInt_le] at e1; have e2 := c_1; rw [← Int32.toInt_inj] at e2; have z0 : (0 : Int32).toInt = 0 := (by decide +kernel); have z1 : (1 : Int32).toInt = 1 := (by decide +kernel); have z2 : (11 : Int32).toInt = 11 := (by decide +kernel); have z3 : (12 : Int32).toInt = 12 := (by decide +kernel); have ss := fb_addI (x := p_1) (y := 1) (by omega) (by omega); rw [Int32.le_iff_toInt_le]; omega)) (cwV 2 htb (gd_V tw_10 tw_11 tw_12 tw_3 tw_9) rfl rfl rfl (by decide +kernel) ⟨Nat.le_of_ble_eq_true rfl, Nat.le_of_ble_eq_true rfl⟩) ⟨pr_blind, va_recv hK hP (ci := 7) (q0 := 0) rfl rfl, pr_pre hP hK hN⟩ rfl rfl hl.1 rfl (lv_room (Nat.le_of_ble_eq_true rfl)) d_Md_flowOf_22 ⟨Nat.le_of_ble_eq_true rfl, Nat.le_of_ble_eq_true rfl⟩)) (fun r er => ?_)
    subst er
    by_cases c_2 : (g 3) (p_0).toNatClampNeg = 0
    · refine hb_ti ((g 2) ((((p_1 + 1) + p_0) - ((p_1 + 1) + p_0) / 12 * 12)).toNatClampNeg) (by unfold f_Md_levelOf_g; rw [if_neg as_15, if_pos c_2]; first | done | rfl) ?_
      refine lv_aload_n hx hb d_Md_flowOf_25 rfl (lv_at hl 0 rfl) ?_
      refine lv_iload_n hx hb d_Md_flowOf_26 rfl (lv_at hl 1 rfl) ?_
      refine lv_iload_n hx hb d_Md_flowOf_27 rfl (lv_at hl 2 rfl) ?_
      refine vp_callSi (va_Run.run (va_runV (As := [.int p_0, .int p_1]) (rest := [.int ((g 2) ((((p_1 + 1) + p_0) - ((p_1 + 1) + p_0) / 12 * 12)).toNatClampNeg)]) ⟨hx, hb, hml, hown, htb⟩ (c_Md_levelOf_g l dC dI a k v w g gl p_0 p_1 as_0 as_1 as_2 as_3 as_4 as_5 as_6 as_7 as_8 as_9 as_10 as_11 as_12 as_13 as_14 (show ¬ (500 < p_0) from by have e0 := as_14; rw [Int32.lt_iff_toInt_lt] at e0; have e1 := as_15; rw [Int32.le_iff_toInt_le] at e1; have z0 : (0 : Int32).toInt = 0 := (by decide +kernel); have z1 : (500 : Int32).toInt = 500 := (by decide +kernel); rw [Int32.lt_iff_toInt_lt]; omega) as_16 as_17) (cwV 2 htb (gd_V tw_10 tw_11 tw_12 tw_3 tw_9) rfl rfl rfl (by decide +kernel) ⟨Nat.le_of_ble_eq_true rfl, Nat.le_of_ble_eq_true rfl⟩) ⟨pr_blind, va_recv hK hP (ci := 7) (q0 := 0) rfl rfl, pr_pre hP hK hN⟩ rfl rfl hl.1 rfl (lv_room (Nat.le_of_ble_eq_true rfl)) d_Md_flowOf_28 ⟨Nat.le_of_ble_eq_true rfl, Nat.le_of_ble_eq_true rfl⟩)) (fun r er => ?_)
      subst er
      refine hb_ti ((g 2) (((p_1 + p_0) - (p_1 + p_0) / 12 * 12)).toNatClampNeg) (by unfold f_Md_levelOf_g; rw [if_neg as_15, if_pos c_2]; first | done | rfl) ?_
      refine lv_isub hx hb d_Md_flowOf_31 ?_
      exact W.iret (v := ((g 2) ((((p_1 + 1) + p_0) - ((p_1 + 1) + p_0) / 12 * 12)).toNatClampNeg - (g 2) (((p_1 + p_0) - (p_1 + p_0) / 12 * 12)).toNatClampNeg)) hx hb hr (fun t ht hW => ⟨((g 2) ((((p_1 + 1) + p_0) - ((p_1 + 1) + p_0) / 12 * 12)).toNatClampNeg - (g 2) (((p_1 + p_0) - (p_1 + p_0) / 12 * 12)).toNatClampNeg), rfl, (by unfold f_Md_flowOf_g; rw [if_neg c_1, if_pos c_2]), ht⟩) t_nil d_Md_flowOf_32
    · refine hb_ti ((g 4) (((12 * p_0) + (p_1 + 1))).toNatClampNeg) (by unfold f_Md_levelOf_g; rw [if_neg as_15, if_neg c_2]; first | done | rfl) ?_
      refine lv_aload_n hx hb d_Md_flowOf_25 rfl (lv_at hl 0 rfl) ?_
      refine lv_iload_n hx hb d_Md_flowOf_26 rfl (lv_at hl 1 rfl) ?_
      refine lv_iload_n hx hb d_Md_flowOf_27 rfl (lv_at hl 2 rfl) ?_
      refine vp_callSi (va_Run.run (va_runV (As := [.int p_0, .int p_1]) (rest := [.int ((g 4) (((12 * p_0) + (p_1 + 1))).toNatClampNeg)]) ⟨hx, hb, hml, hown, htb⟩ (c_Md_levelOf_g l dC dI a k v w g gl p_0 p_1 as_0 as_1 as_2 as_3 as_4 as_5 as_6 as_7 as_8 as_9 as_10 as_11 as_12 as_13 as_14 (show ¬ (500 < p_0) from by have e0 := as_14; rw [Int32.lt_iff_toInt_lt] at e0; have e1 := as_15; rw [Int32.le_iff_toInt_le] at e1; have z0 : (0 : Int32).toInt = 0 := (by decide +kernel); have z1 : (500 : Int32).toInt = 500 := (by decide +kernel); rw [Int32.lt_iff_toInt_lt]; omega) as_16 as_17) (cwV 2 htb (gd_V tw_10 tw_11 tw_12 tw_3 tw_9) rfl rfl rfl (by decide +kernel) ⟨Nat.le_of_ble_eq_true rfl, Nat.le_of_ble_eq_true rfl⟩) ⟨pr_blind, va_recv hK hP (ci := 7) (q0 := 0) rfl rfl, pr_pre hP hK hN⟩ rfl rfl hl.1 rfl (lv_room (Nat.le_of_ble_eq_true rfl)) d_Md_flowOf_28 ⟨Nat.le_of_ble_eq_true rfl, Nat.le_of_ble_eq_true rfl⟩)) (fun r er => ?_)
      subst er
      refine hb_ti ((g 4) (((12 * p_0) + p_1)).toNatClampNeg) (by unfold f_Md_levelOf_g; rw [if_neg as_15, if_neg c_2]; first | done | rfl) ?_
      refine lv_isub hx hb d_Md_flowOf_31 ?_
      exact W.iret (v := ((g 4) (((12 * p_0) + (p_1 + 1))).toNatClampNeg - (g 4) (((12 * p_0) + p_1)).toNatClampNeg)) hx hb hr (fun t ht hW => ⟨((g 4) (((12 * p_0) + (p_1 + 1))).toNatClampNeg - (g 4) (((12 * p_0) + p_1)).toNatClampNeg), rfl, (by unfold f_Md_flowOf_g; rw [if_neg c_1, if_neg c_2]), ht⟩) t_nil d_Md_flowOf_32
  · refine lv_aload_n hx hb d_Md_flowOf_6 rfl (lv_at hl 0 rfl) ?_
    refine lv_iload_n hx hb d_Md_flowOf_7 rfl (lv_at hl 1 rfl) ?_
    refine lv_iconst (v := 1) hx hb d_Md_flowOf_8 (by decide +kernel) ?_
    refine lv_iadd hx hb d_Md_flowOf_9 ?_
    refine lv_iconst (v := 0) hx hb d_Md_flowOf_10 (by decide +kernel) ?_
    refine vp_callSi (va_Run.run (va_runV (As := [.int (p_0 + 1), .int 0]) (rest := []) ⟨hx, hb, hml, hown, htb⟩ (c_Md_levelOf_g l dC dI a k v w g gl (p_0 + 1) 0 as_0 as_1 as_2 as_3 as_4 as_5 as_6 as_7 as_8 as_9 as_10 as_11 as_12 as_13 (show ¬ ((p_0 + 1) < 0) from by have e0 := as_14; rw [Int32.lt_iff_toInt_lt] at e0; have e1 := as_15; rw [Int32.le_iff_toInt_le] at e1; have z0 : (0 : Int32).toInt = 0 := (by decide +kernel); have z1 : (1 : Int32).toInt = 1 := (by decide +kernel); have z2 : (500 : Int32).toInt = 500 := (by decide +kernel); have ss := fb_addI (x := p_0) (y := 1) (by omega) (by omega); rw [Int32.lt_iff_toInt_lt]; omega) (show ¬ (500 < (p_0 + 1)) from by have e0 := as_14; rw [Int32.lt_iff_toInt_lt] at e0; have e1 := as_15; rw [Int32.le_iff_toInt_le] at e1; have z0 : (0 : Int32).toInt = 0 := (by decide +kernel); have z1 : (1 : Int32).toInt = 1 := (by decide +kernel); have z2 : (500 : Int32).toInt = 500 := (by decide +kernel); have ss := fb_addI (x := p_0) (y := 1) (by omega) (by omega); rw [Int32.lt_iff_toInt_lt]; omega) (by decide +kernel) (by decide +kernel)) (cwV 2 htb (gd_V tw_10 tw_11 tw_12 tw_3 tw_9) rfl rfl rfl (by decide +kernel) ⟨Nat.le_of_ble_eq_true rfl, Nat.le_of_ble_eq_true rfl⟩) ⟨pr_blind, va_recv hK hP (ci := 7) (q0 := 0) rfl rfl, pr_pre hP hK hN⟩ rfl rfl hl.1 rfl (lv_room (Nat.le_of_ble_eq_true rfl)) d_Md_flowOf_11 ⟨Nat.le_of_ble_eq_true rfl, Nat.le_of_ble_eq_true rfl⟩)) (fun r er => ?_)
    subst er
    by_cases c_3 : 500 ≤ (p_0 + 1)
    · refine hb_ti ((g 2) (((0 + (p_0 + 1)) - (0 + (p_0 + 1)) / 12 * 12)).toNatClampNeg) (by unfold f_Md_levelOf_g; rw [if_pos c_3]; first | done | rfl) ?_
      refine lv_goto (tgt := 25) hx hb d_Md_flowOf_14 (by decide) ?_
      refine lv_aload_n hx hb d_Md_flowOf_25 rfl (lv_at hl 0 rfl) ?_
      refine lv_iload_n hx hb d_Md_flowOf_26 rfl (lv_at hl 1 rfl) ?_
      refine lv_iload_n hx hb d_Md_flowOf_27 rfl (lv_at hl 2 rfl) ?_
      refine vp_callSi (va_Run.run (va_runV (As := [.int p_0, .int p_1]) (rest := [.int ((g 2) (((0 + (p_0 + 1)) - (0 + (p_0 + 1)) / 12 * 12)).toNatClampNeg)]) ⟨hx, hb, hml, hown, htb⟩ (c_Md_levelOf_g l dC dI a k v w g gl p_0 p_1 as_0 as_1 as_2 as_3 as_4 as_5 as_6 as_7 as_8 as_9 as_10 as_11 as_12 as_13 as_14 (show ¬ (500 < p_0) from by have e0 := as_14; rw [Int32.lt_iff_toInt_lt] at e0; have e1 := as_15; rw [Int32.le_iff_toInt_le] at e1; have z0 : (0 : Int32).toInt = 0 := (by decide +kernel); have z1 : (500 : Int32).toInt = 500 := (by decide +kernel); rw [Int32.lt_iff_toInt_lt]; omega) as_16 as_17) (cwV 2 htb (gd_V tw_10 tw_11 tw_12 tw_3 tw_9) rfl rfl rfl (by decide +kernel) ⟨Nat.le_of_ble_eq_true rfl, Nat.le_of_ble_eq_true rfl⟩) ⟨pr_blind, va_recv hK hP (ci := 7) (q0 := 0) rfl rfl, pr_pre hP hK hN⟩ rfl rfl hl.1 rfl (lv_room (Nat.le_of_ble_eq_true rfl)) d_Md_flowOf_28 ⟨Nat.le_of_ble_eq_true rfl, Nat.le_of_ble_eq_true rfl⟩)) (fun r er => ?_)
      subst er
      by_cases c_4 : (g 3) (p_0).toNatClampNeg = 0
      · refine hb_ti ((g 2) (((p_1 + p_0) - (p_1 + p_0) / 12 * 12)).toNatClampNeg) (by unfold f_Md_levelOf_g; rw [if_neg as_15, if_pos c_4]; first | done | rfl) ?_
        refine lv_isub hx hb d_Md_flowOf_31 ?_
        exact W.iret (v := ((g 2) (((0 + (p_0 + 1)) - (0 + (p_0 + 1)) / 12 * 12)).toNatClampNeg - (g 2) (((p_1 + p_0) - (p_1 + p_0) / 12 * 12)).toNatClampNeg)) hx hb hr (fun t ht hW => ⟨((g 2) (((0 + (p_0 + 1)) - (0 + (p_0 + 1)) / 12 * 12)).toNatClampNeg - (g 2) (((p_1 + p_0) - (p_1 + p_0) / 12 * 12)).toNatClampNeg), rfl, (by unfold f_Md_flowOf_g; rw [if_pos c_1, if_pos c_3, if_pos c_4]), ht⟩) t_nil d_Md_flowOf_32
      · refine hb_ti ((g 4) (((12 * p_0) + p_1)).toNatClampNeg) (by unfold f_Md_levelOf_g; rw [if_neg as_15, if_neg c_4]; first | done | rfl) ?_
        refine lv_isub hx hb d_Md_flowOf_31 ?_
        exact W.iret (v := ((g 2) (((0 + (p_0 + 1)) - (0 + (p_0 + 1)) / 12 * 12)).toNatClampNeg - (g 4) (((12 * p_0) + p_1)).toNatClampNeg)) hx hb hr (fun t ht hW => ⟨((g 2) (((0 + (p_0 + 1)) - (0 + (p_0 + 1)) / 12 * 12)).toNatClampNeg - (g 4) (((12 * p_0) + p_1)).toNatClampNeg), rfl, (by unfold f_Md_flowOf_g; rw [if_pos c_1, if_pos c_3, if_neg c_4]), ht⟩) t_nil d_Md_flowOf_32
    · by_cases c_5 : (g 3) ((p_0 + 1)).toNatClampNeg = 0
      · refine hb_ti ((g 2) (((0 + (p_0 + 1)) - (0 + (p_0 + 1)) / 12 * 12)).toNatClampNeg) (by unfold f_Md_levelOf_g; rw [if_neg c_3, if_pos c_5]; first | done | rfl) ?_
        refine lv_goto (tgt := 25) hx hb d_Md_flowOf_14 (by decide) ?_
        refine lv_aload_n hx hb d_Md_flowOf_25 rfl (lv_at hl 0 rfl) ?_
        refine lv_iload_n hx hb d_Md_flowOf_26 rfl (lv_at hl 1 rfl) ?_
        refine lv_iload_n hx hb d_Md_flowOf_27 rfl (lv_at hl 2 rfl) ?_
        refine vp_callSi (va_Run.run (va_runV (As := [.int p_0, .int p_1]) (rest := [.int ((g 2) (((0 + (p_0 + 1)) - (0 + (p_0 + 1)) / 12 * 12)).toNatClampNeg)]) ⟨hx, hb, hml, hown, htb⟩ (c_Md_levelOf_g l dC dI a k v w g gl p_0 p_1 as_0 as_1 as_2 as_3 as_4 as_5 as_6 as_7 as_8 as_9 as_10 as_11 as_12 as_13 as_14 (show ¬ (500 < p_0) from by have e0 := as_14; rw [Int32.lt_iff_toInt_lt] at e0; have e1 := as_15; rw [Int32.le_iff_toInt_le] at e1; have z0 : (0 : Int32).toInt = 0 := (by decide +kernel); have z1 : (500 : Int32).toInt = 500 := (by decide +kernel); rw [Int32.lt_iff_toInt_lt]; omega) as_16 as_17) (cwV 2 htb (gd_V tw_10 tw_11 tw_12 tw_3 tw_9) rfl rfl rfl (by decide +kernel) ⟨Nat.le_of_ble_eq_true rfl, Nat.le_of_ble_eq_true rfl⟩) ⟨pr_blind, va_recv hK hP (ci := 7) (q0 := 0) rfl rfl, pr_pre hP hK hN⟩ rfl rfl hl.1 rfl (lv_room (Nat.le_of_ble_eq_true rfl)) d_Md_flowOf_28 ⟨Nat.le_of_ble_eq_true rfl, Nat.le_of_ble_eq_true rfl⟩)) (fun r er => ?_)
        subst er
        by_cases c_6 : (g 3) (p_0).toNatClampNeg = 0
        · refine hb_ti ((g 2) (((p_1 + p_0) - (p_1 + p_0) / 12 * 12)).toNatClampNeg) (by unfold f_Md_levelOf_g; rw [if_neg as_15, if_pos c_6]; first | done | rfl) ?_
          refine lv_isub hx hb d_Md_flowOf_31 ?_
          exact W.iret (v := ((g 2) (((0 + (p_0 + 1)) - (0 + (p_0 + 1)) / 12 * 12)).toNatClampNeg - (g 2) (((p_1 + p_0) - (p_1 + p_0) / 12 * 12)).toNatClampNeg)) hx hb hr (fun t ht hW => ⟨((g 2) (((0 + (p_0 + 1)) - (0 + (p_0 + 1)) / 12 * 12)).toNatClampNeg - (g 2) (((p_1 + p_0) - (p_1 + p_0) / 12 * 12)).toNatClampNeg), rfl, (by unfold f_Md_flowOf_g; rw [if_pos c_1, if_neg c_3, if_pos c_5, if_pos c_6]), ht⟩) t_nil d_Md_flowOf_32
        · refine hb_ti ((g 4) (((12 * p_0) + p_1)).toNatClampNeg) (by unfold f_Md_levelOf_g; rw [if_neg as_15, if_neg c_6]; first | done | rfl) ?_
          refine lv_isub hx hb d_Md_flowOf_31 ?_
          exact W.iret (v := ((g 2) (((0 + (p_0 + 1)) - (0 + (p_0 + 1)) / 12 * 12)).toNatClampNeg - (g 4) (((12 * p_0) + p_1)).toNatClampNeg)) hx hb hr (fun t ht hW => ⟨((g 2) (((0 + (p_0 + 1)) - (0 + (p_0 + 1)) / 12 * 12)).toNatClampNeg - (g 4) (((12 * p_0) + p_1)).toNatClampNeg), rfl, (by unfold f_Md_flowOf_g; rw [if_pos c_1, if_neg c_3, if_pos c_5, if_neg c_6]), ht⟩) t_nil d_Md_flowOf_32
      · refine hb_ti ((g 4) (((12 * (p_0 + 1)) + 0)).toNatClampNeg) (by unfold f_Md_levelOf_g; rw [if_neg c_3, if_neg c_5]; first | done | rfl) ?_
        refine lv_goto (tgt := 25) hx hb d_Md_flowOf_14 (by decide) ?_
        refine lv_aload_n hx hb d_Md_flowOf_25 rfl (lv_at hl 0 rfl) ?_
        refine lv_iload_n hx hb d_Md_flowOf_26 rfl (lv_at hl 1 rfl) ?_
        refine lv_iload_n hx hb d_Md_flowOf_27 rfl (lv_at hl 2 rfl) ?_
        refine vp_callSi (va_Run.run (va_runV (As := [.int p_0, .int p_1]) (rest := [.int ((g 4) (((12 * (p_0 + 1)) + 0)).toNatClampNeg)]) ⟨hx, hb, hml, hown, htb⟩ (c_Md_levelOf_g l dC dI a k v w g gl p_0 p_1 as_0 as_1 as_2 as_3 as_4 as_5 as_6 as_7 as_8 as_9 as_10 as_11 as_12 as_13 as_14 (show ¬ (500 < p_0) from by have e0 := as_14; rw [Int32.lt_iff_toInt_lt] at e0; have e1 := as_15; rw [Int32.le_iff_toInt_le] at e1; have z0 : (0 : Int32).toInt = 0 := (by decide +kernel); have z1 : (500 : Int32).toInt = 500 := (by decide +kernel); rw [Int32.lt_iff_toInt_lt]; omega) as_16 as_17) (cwV 2 htb (gd_V tw_10 tw_11 tw_12 tw_3 tw_9) rfl rfl rfl (by decide +kernel) ⟨Nat.le_of_ble_eq_true rfl, Nat.le_of_ble_eq_true rfl⟩) ⟨pr_blind, va_recv hK hP (ci := 7) (q0 := 0) rfl rfl, pr_pre hP hK hN⟩ rfl rfl hl.1 rfl (lv_room (Nat.le_of_ble_eq_true rfl)) d_Md_flowOf_28 ⟨Nat.le_of_ble_eq_true rfl, Nat.le_of_ble_eq_true rfl⟩)) (fun r er => ?_)
        subst er
        by_cases c_7 : (g 3) (p_0).toNatClampNeg = 0
        · refine hb_ti ((g 2) (((p_1 + p_0) - (p_1 + p_0) / 12 * 12)).toNatClampNeg) (by unfold f_Md_levelOf_g; rw [if_neg as_15, if_pos c_7]; first | done | rfl) ?_
          refine lv_isub hx hb d_Md_flowOf_31 ?_
          exact W.iret (v := ((g 4) (((12 * (p_0 + 1)) + 0)).toNatClampNeg - (g 2) (((p_1 + p_0) - (p_1 + p_0) / 12 * 12)).toNatClampNeg)) hx hb hr (fun t ht hW => ⟨((g 4) (((12 * (p_0 + 1)) + 0)).toNatClampNeg - (g 2) (((p_1 + p_0) - (p_1 + p_0) / 12 * 12)).toNatClampNeg), rfl, (by unfold f_Md_flowOf_g; rw [if_pos c_1, if_neg c_3, if_neg c_5, if_pos c_7]), ht⟩) t_nil d_Md_flowOf_32
        · refine hb_ti ((g 4) (((12 * p_0) + p_1)).toNatClampNeg) (by unfold f_Md_levelOf_g; rw [if_neg as_15, if_neg c_7]; first | done | rfl) ?_
          refine lv_isub hx hb d_Md_flowOf_31 ?_
          exact W.iret (v := ((g 4) (((12 * (p_0 + 1)) + 0)).toNatClampNeg - (g 4) (((12 * p_0) + p_1)).toNatClampNeg)) hx hb hr (fun t ht hW => ⟨((g 4) (((12 * (p_0 + 1)) + 0)).toNatClampNeg - (g 4) (((12 * p_0) + p_1)).toNatClampNeg), rfl, (by unfold f_Md_flowOf_g; rw [if_pos c_1, if_neg c_3, if_neg c_5, if_neg c_7]), ht⟩) t_nil d_Md_flowOf_32
def T_Md_stairs_g (v : Nat → Int32) (w : Nat → Int64) (g : Nat → Nat → Int32) (gl : Nat → Int64) (p_0 : Int32) : Int32 × MSt := if p_0 < 0 then (((-1), (v, w, g, gl))) else (if 60 < p_0 then (((-1), (v, w, g, gl))) else (if (v 2) ≤ 0 then (((((v 2) + 1) - 1), ((upd v 2 ((v 2) + 1)), w, (va_up g 1 (upd (g 1) ((v 2) : Int32).toNatClampNeg p_0)), gl))) else (if (g 1) (((v 2) - 1)).toNatClampNeg < p_0 then (if (v 2) = 12 then (((-3), (v, w, g, gl))) else (((((v 2) + 1) - 1), ((upd v 2 ((v 2) + 1)), w, (va_up g 1 (upd (g 1) ((v 2) : Int32).toNatClampNeg p_0)), gl)))) else (((-1), (v, w, g, gl))))))
set_option maxHeartbeats 4000000 in
set_option maxRecDepth 100000 in
theorem c_Md_stairs_g (l : Launch) (dC : Nat → ClassId) (dI : Nat → Nat → Nat) (a : Nat → Nat) (k : Nat → ClassId) (v : Nat → Int32) (w : Nat → Int64) (g : Nat → Nat → Int32) (gl : Nat → Int64) (sz : Nat) (p_0 : Int32) (as_0 : ¬ ((v 1) < 0)) (as_1 : ¬ (359999 < (v 1))) (as_2 : ¬ ((v 2) < 0)) (as_3 : ¬ (12 < (v 2))) (as_4 : ¬ ((v 21) < 0)) (as_5 : ¬ (20 < (v 21))) (as_6 : ¬ ((v 28) < 0)) (as_7 : ¬ (400 < (v 28))) (as_8 : ¬ ((v 29) < 0)) (as_9 : ¬ (20 < (v 29))) (as_10 : ¬ ((v 47) < 0)) (as_11 : ¬ (600 < (v 47))) (as_12 : ¬ ((v 60) < 0)) (as_13 : ¬ (30 < (v 60))) : Met l y_Md_stairs (.code y_Md_stairs b_Md_stairs 2 (some .int) :: TB) ({ frames := 1, cells := 0, slots := 0, locals := 22 }) (va_Pc [.ref (a 0), .int p_0] (PC dC dI (MG a k v w g gl) (MT k) sz)) (va_Qi (fun r (u : MSt) => (r, u) = T_Md_stairs_g v w g gl p_0) (fun u t => va_P (dC, dI) vwCl (MG a k u.1 u.2.1 u.2.2.1 u.2.2.2) t.heap ∧ va_K (dC, dI) vwCl (MT k) t ∧ va_D (va_A (MG a k v w g gl) sz) (MG a k u.1 u.2.1 u.2.2.1 u.2.2.2)) (va_A (MG a k v w g gl) sz)) 0 0 (va_A (MG a k v w g gl) sz) := by
  refine Met.ofW (cc := b_Md_stairs) (maxL := 2) (ret := (some .int)) (by decide) rfl ?_
  intro p e s m args below meth c s₁ B hml hv
  obtain ⟨rfl, hsz, hP, hK, hD0, hN⟩ := hv
  have hx := B.exec
  have hb := B.bytes
  have hr := B.returns
  have hts := atoms_spec (ws := (.code y_Md_stairs b_Md_stairs 2 (some .int) :: TB)) B.pre
  have htb := fun w (h : w ∈ TB) => hts w (List.mem_cons_of_mem _ h)
  have hown : s.vm.findClass R_Md = some m.cls := findClass_of_methodNamed B.named
  have hlocks := B.notSynchronized
  have hl := lv_entry ([.ref (a 0), .int p_0]) (n := 2) (Nat.le_of_ble_eq_true rfl)
  rw [lg_entry_eq]
  generalize (lg_sl ([.ref (a 0), .int p_0]) ++ List.replicate (2 - (lg_sl ([.ref (a 0), .int p_0])).length) Slot.unset).toArray = ls at hl ⊢
  have hl : lv_has ls 2 [(0, .ref (a 0)), (1, .int p_0)] := hl
  subst hsz
  have hD := hD0.self (sz := s.heap.size)
  obtain ⟨A, hAe⟩ : ∃ A, va_A (MG a k v w g gl) s.heap.size = A := ⟨_, rfl⟩
  rw [hAe] at hD
  have hA : ∀ q : Nat, s.heap.size ≤ q → A q := fun q h => by rw [← hAe]; exact Or.inr h
  have hS : va_S A s.heap s.heap [] := va_S.rf
  refine lv_iload_n hx hb d_Md_stairs_0 rfl (lv_at hl 1 rfl) ?_
  refine lv_iconst (v := 0) hx hb d_Md_stairs_1 (by decide +kernel) ?_
  refine lv_bipush (v := 60) hx hb d_Md_stairs_2 (by decide +kernel) ?_
  refine vp_callSi (va_Run.run (va_runS (As := [.int p_0, .int 0, .int 60]) (rest := []) ⟨hx, hb, hml, hown, htb⟩ (c_Md_in l p_0 0 60) (cwS 3 htb (gd_S tw_4 tw_5 tw_3 tw_2) rfl rfl rfl (by decide +kernel) ⟨Nat.le_of_ble_eq_true rfl, Nat.le_of_ble_eq_true rfl⟩) ⟨fun _ _ _ _ h => h, fun U _ _ => ⟨rfl, trivial⟩⟩ rfl rfl hl.1 rfl (lv_room (Nat.le_of_ble_eq_true rfl)) d_Md_stairs_4 ⟨Nat.le_of_ble_eq_true rfl, Nat.le_of_ble_eq_true rfl⟩)) (fun r er => ?_)
  subst er
  by_cases c_1 : p_0 < 0
  · refine hb_ti 0 (by unfold f_Md_in; rw [if_pos c_1]; first | done | rfl) ?_
    refine lv_if_eq (tgt := 32) hx hb d_Md_stairs_7 (by decide) (fun _ => ?_) (fun h => absurd (by decide +kernel) h)
    refine lv_iconst (v := (-1)) hx hb d_Md_stairs_32 (by decide +kernel) ?_
    exact W.iret (v := (-1)) hx hb hr (fun t ht hW => ⟨⟨(-1), (v, w, g, gl), rfl, (by unfold T_Md_stairs_g; rw [if_pos c_1]), by rw [ht]; exact hP, va_K.moved hW.alike hK, by rw [hAe]; exact hD⟩, by rw [hAe]; exact hS.F ht⟩) (by rw [hAe]; exact hS.2.2) d_Md_stairs_33
  · by_cases c_2 : 60 < p_0
    · refine hb_ti 0 (by unfold f_Md_in; rw [if_neg c_1, if_pos c_2]; first | done | rfl) ?_
      refine lv_if_eq (tgt := 32) hx hb d_Md_stairs_7 (by decide) (fun _ => ?_) (fun h => absurd (by decide +kernel) h)
      refine lv_iconst (v := (-1)) hx hb d_Md_stairs_32 (by decide +kernel) ?_
      exact W.iret (v := (-1)) hx hb hr (fun t ht hW => ⟨⟨(-1), (v, w, g, gl), rfl, (by unfold T_Md_stairs_g; rw [if_neg c_1, if_pos c_2]), by rw [ht]; exact hP, va_K.moved hW.alike hK, by rw [hAe]; exact hD⟩, by rw [hAe]; exact hS.F ht⟩) (by rw [hAe]; exact hS.2.2) d_Md_stairs_33
    · refine hb_ti 1 (by unfold f_Md_in; rw [if_neg c_1, if_neg c_2]; first | done | rfl) ?_
      refine lv_if_eq (tgt := 32) hx hb d_Md_stairs_7 (by decide) (fun h => absurd h (by decide +kernel)) (fun _ => ?_)
      refine lv_aload_n hx hb d_Md_stairs_10 rfl (lv_at hl 0 rfl) ?_
      refine va_get (D := (dC, dI)) (ci := 7) (v := .int (v 2)) (C := R_Md) (T := F_Md) (N := 64) hx hb htb i_Md hown hK hP 0 rfl rfl 2 (by decide) (htb (.fieldLink R_Md 14 "WaterMenModel" "stairs" "I") tw_1) (fun _ h9 => h9) rfl d_Md_stairs_11 ?_
      refine lv_if_le (tgt := 34) hx hb d_Md_stairs_14 (by decide) (fun c_3 => ?_) (fun c_3 => ?_)
      · refine lv_aload_n hx hb d_Md_stairs_34 rfl (lv_at hl 0 rfl) ?_
        refine va_get (D := (dC, dI)) (ci := 7) (v := .int (v 2)) (C := R_Md) (T := F_Md) (N := 64) hx hb htb i_Md hown hK hP 0 rfl rfl 2 (by decide) (htb (.fieldLink R_Md 14 "WaterMenModel" "stairs" "I") tw_1) (fun _ h9 => h9) rfl d_Md_stairs_35 ?_
        refine lv_bipush (v := 12) hx hb d_Md_stairs_38 (by decide +kernel) ?_
        refine lv_icmp_ne (tgt := 46) hx hb d_Md_stairs_40 (by decide) (fun _ => ?_) (fun h => absurd h (show ¬ ((v 2) = 12) from by have e0 := as_2; rw [Int32.lt_iff_toInt_lt] at e0; have e1 := c_3; rw [Int32.le_iff_toInt_le] at e1; have z0 : (0 : Int32).toInt = 0 := (by decide +kernel); have z1 : (2 : Int32).toInt = 2 := (by decide +kernel); have z2 : (12 : Int32).toInt = 12 := (by decide +kernel); rw [← Int32.toInt_inj]; omega))
        refine lv_aload_n hx hb d_Md_stairs_46 rfl (lv_at hl 0 rfl) ?_
        refine va_get (D := (dC, dI)) (ci := 7) (v := .ref (a 1)) (C := R_Md) (T := F_Md) (N := 64) hx hb htb i_Md hown hK hP 0 rfl rfl 3 (by decide) (htb (.fieldLink R_Md 32 "WaterMenModel" "miles" "[I") tw_13) (fun _ h9 => h9) rfl d_Md_stairs_47 ?_
        refine lv_aload_n hx hb d_Md_stairs_50 rfl (lv_at hl 0 rfl) ?_
        refine va_get (D := (dC, dI)) (ci := 7) (v := .int (v 2)) (C := R_Md) (T := F_Md) (N := 64) hx hb htb i_Md hown hK hP 0 rfl rfl 2 (by decide) (htb (.fieldLink R_Md 14 "WaterMenModel" "stairs" "I") tw_1) (fun _ h9 => h9) rfl d_Md_stairs_51 ?_
        refine lv_iload_n hx hb d_Md_stairs_54 rfl (lv_at hl 1 rfl) ?_
        refine va_iast hx hb hK hP hD hS 1 0 rfl rfl (by have z0 : (0 : Int32).toInt = 0 := (by decide +kernel); have z1 : (12 : Int32).toInt = 12 := (by decide +kernel); have r0 := fb_rng (v 2); have e0 := as_2; rw [Int32.lt_iff_toInt_lt] at e0; have e1 := as_3; rw [Int32.lt_iff_toInt_lt] at e1; have e2 := c_3; rw [Int32.le_iff_toInt_le] at e2; rw [vp_in_iff]; omega) d_Md_stairs_55 (fun H locs hP hD hS => ?_)
        have hP : va_P (dC, dI) vwCl (MG a k v w (va_up g 1 (upd (g 1) ((v 2) : Int32).toNatClampNeg p_0)) gl) H := hP
        have hD : va_D A (MG a k v w (va_up g 1 (upd (g 1) ((v 2) : Int32).toNatClampNeg p_0)) gl) := hD
        refine lv_aload_n hx hb d_Md_stairs_56 rfl (lv_at hl 0 rfl) ?_
        refine lv_dup hx hb d_Md_stairs_57 rfl ?_
        refine va_get (D := (dC, dI)) (ci := 7) (v := .int (v 2)) (C := R_Md) (T := F_Md) (N := 64) hx hb htb i_Md hown hK hP 0 rfl rfl 2 (by decide) (htb (.fieldLink R_Md 14 "WaterMenModel" "stairs" "I") tw_1) (fun _ h9 => h9) rfl d_Md_stairs_58 ?_
        refine lv_iconst (v := 1) hx hb d_Md_stairs_61 (by decide +kernel) ?_
        refine lv_iadd hx hb d_Md_stairs_62 ?_
        refine va_put (D := (dC, dI)) (ci := 7) (v := .int ((v 2) + 1)) (ty := .int) (C := R_Md) (T := F_Md) (N := 64) hx hb htb i_Md t_Md t_Md_ok n_Md hown hK hP hD hS 0 rfl rfl 2 (by decide) (htb (.fieldLink R_Md 14 "WaterMenModel" "stairs" "I") tw_1) (fun _ h9 => h9) rfl (by decide +kernel) rfl rfl (Nat.le_of_ble_eq_true rfl) d_Md_stairs_63 (fun H locs hP hD hS => ?_)
        have hP : va_P (dC, dI) vwCl (MG a k (upd v 2 ((v 2) + 1)) w (va_up g 1 (upd (g 1) ((v 2) : Int32).toNatClampNeg p_0)) gl) H := hP
        have hD : va_D A (MG a k (upd v 2 ((v 2) + 1)) w (va_up g 1 (upd (g 1) ((v 2) : Int32).toNatClampNeg p_0)) gl) := hD
        refine lv_aload_n hx hb d_Md_stairs_66 rfl (lv_at hl 0 rfl) ?_
        refine va_get (D := (dC, dI)) (ci := 7) (v := .int ((v 2) + 1)) (C := R_Md) (T := F_Md) (N := 64) hx hb htb i_Md hown hK hP 0 rfl rfl 2 (by decide) (htb (.fieldLink R_Md 14 "WaterMenModel" "stairs" "I") tw_1) (fun _ h9 => h9) rfl d_Md_stairs_67 ?_
        refine lv_iconst (v := 1) hx hb d_Md_stairs_70 (by decide +kernel) ?_
        refine lv_isub hx hb d_Md_stairs_71 ?_
        exact W.iret (v := (((v 2) + 1) - 1)) hx hb hr (fun t ht hW => ⟨⟨(((v 2) + 1) - 1), ((upd v 2 ((v 2) + 1)), w, (va_up g 1 (upd (g 1) ((v 2) : Int32).toNatClampNeg p_0)), gl), rfl, (by unfold T_Md_stairs_g; rw [if_neg c_1, if_neg c_2, if_pos c_3]), by rw [ht]; exact hP, va_K.moved hW.alike hK, by rw [hAe]; exact hD⟩, by rw [hAe]; exact hS.F ht⟩) (by rw [hAe]; exact hS.2.2) d_Md_stairs_72
      · refine lv_iload_n hx hb d_Md_stairs_17 rfl (lv_at hl 1 rfl) ?_
        refine lv_aload_n hx hb d_Md_stairs_18 rfl (lv_at hl 0 rfl) ?_
        refine va_get (D := (dC, dI)) (ci := 7) (v := .ref (a 1)) (C := R_Md) (T := F_Md) (N := 64) hx hb htb i_Md hown hK hP 0 rfl rfl 3 (by decide) (htb (.fieldLink R_Md 32 "WaterMenModel" "miles" "[I") tw_13) (fun _ h9 => h9) rfl d_Md_stairs_19 ?_
        refine lv_aload_n hx hb d_Md_stairs_22 rfl (lv_at hl 0 rfl) ?_
        refine va_get (D := (dC, dI)) (ci := 7) (v := .int (v 2)) (C := R_Md) (T := F_Md) (N := 64) hx hb htb i_Md hown hK hP 0 rfl rfl 2 (by decide) (htb (.fieldLink R_Md 14 "WaterMenModel" "stairs" "I") tw_1) (fun _ h9 => h9) rfl d_Md_stairs_23 ?_
        refine lv_iconst (v := 1) hx hb d_Md_stairs_26 (by decide +kernel) ?_
        refine lv_isub hx hb d_Md_stairs_27 ?_
        refine va_iald hx hb hK hP 1 0 rfl rfl (by have z0 : (0 : Int32).toInt = 0 := (by decide +kernel); have z1 : (1 : Int32).toInt = 1 := (by decide +kernel); have z2 : (12 : Int32).toInt = 12 := (by decide +kernel); have r0 := fb_rng (v 2); have e0 := as_2; rw [Int32.lt_iff_toInt_lt] at e0; have e1 := as_3; rw [Int32.lt_iff_toInt_lt] at e1; have e2 := c_3; rw [Int32.le_iff_toInt_le] at e2; have s0 := fb_subI (x := (v 2)) (y := (1 : Int32)) (by omega) (by omega); rw [vp_in_iff]; omega) d_Md_stairs_28 ?_
        refine lv_icmp_gt (tgt := 34) hx hb d_Md_stairs_29 (by decide) (fun c_4 => ?_) (fun c_4 => ?_)
        · refine lv_aload_n hx hb d_Md_stairs_34 rfl (lv_at hl 0 rfl) ?_
          refine va_get (D := (dC, dI)) (ci := 7) (v := .int (v 2)) (C := R_Md) (T := F_Md) (N := 64) hx hb htb i_Md hown hK hP 0 rfl rfl 2 (by decide) (htb (.fieldLink R_Md 14 "WaterMenModel" "stairs" "I") tw_1) (fun _ h9 => h9) rfl d_Md_stairs_35 ?_
          refine lv_bipush (v := 12) hx hb d_Md_stairs_38 (by decide +kernel) ?_
          refine lv_icmp_ne (tgt := 46) hx hb d_Md_stairs_40 (by decide) (fun c_5 => ?_) (fun c_5 => ?_)
          · refine lv_aload_n hx hb d_Md_stairs_46 rfl (lv_at hl 0 rfl) ?_
            refine va_get (D := (dC, dI)) (ci := 7) (v := .ref (a 1)) (C := R_Md) (T := F_Md) (N := 64) hx hb htb i_Md hown hK hP 0 rfl rfl 3 (by decide) (htb (.fieldLink R_Md 32 "WaterMenModel" "miles" "[I") tw_13) (fun _ h9 => h9) rfl d_Md_stairs_47 ?_
            refine lv_aload_n hx hb d_Md_stairs_50 rfl (lv_at hl 0 rfl) ?_
            refine va_get (D := (dC, dI)) (ci := 7) (v := .int (v 2)) (C := R_Md) (T := F_Md) (N := 64) hx hb htb i_Md hown hK hP 0 rfl rfl 2 (by decide) (htb (.fieldLink R_Md 14 "WaterMenModel" "stairs" "I") tw_1) (fun _ h9 => h9) rfl d_Md_stairs_51 ?_
            refine lv_iload_n hx hb d_Md_stairs_54 rfl (lv_at hl 1 rfl) ?_
            refine va_iast hx hb hK hP hD hS 1 0 rfl rfl (by have z0 : (0 : Int32).toInt = 0 := (by decide +kernel); have z1 : (12 : Int32).toInt = 12 := (by decide +kernel); have r0 := fb_rng (v 2); have e0 := as_2; rw [Int32.lt_iff_toInt_lt] at e0; have e1 := as_3; rw [Int32.lt_iff_toInt_lt] at e1; have e2 := c_3; rw [Int32.le_iff_toInt_le] at e2; have e3 := c_5; rw [← Int32.toInt_inj] at e3; rw [vp_in_iff]; omega) d_Md_stairs_55 (fun H locs hP hD hS => ?_)
            have hP : va_P (dC, dI) vwCl (MG a k v w (va_up g 1 (upd (g 1) ((v 2) : Int32).toNatClampNeg p_0)) gl) H := hP
            have hD : va_D A (MG a k v w (va_up g 1 (upd (g 1) ((v 2) : Int32).toNatClampNeg p_0)) gl) := hD
            refine lv_aload_n hx hb d_Md_stairs_56 rfl (lv_at hl 0 rfl) ?_
            refine lv_dup hx hb d_Md_stairs_57 rfl ?_
            refine va_get (D := (dC, dI)) (ci := 7) (v := .int (v 2)) (C := R_Md) (T := F_Md) (N := 64) hx hb htb i_Md hown hK hP 0 rfl rfl 2 (by decide) (htb (.fieldLink R_Md 14 "WaterMenModel" "stairs" "I") tw_1) (fun _ h9 => h9) rfl d_Md_stairs_58 ?_
            refine lv_iconst (v := 1) hx hb d_Md_stairs_61 (by decide +kernel) ?_
            refine lv_iadd hx hb d_Md_stairs_62 ?_
            refine va_put (D := (dC, dI)) (ci := 7) (v := .int ((v 2) + 1)) (ty := .int) (C := R_Md) (T := F_Md) (N := 64) hx hb htb i_Md t_Md t_Md_ok n_Md hown hK hP hD hS 0 rfl rfl 2 (by decide) (htb (.fieldLink R_Md 14 "WaterMenModel" "stairs" "I") tw_1) (fun _ h9 => h9) rfl (by decide +kernel) rfl rfl (Nat.le_of_ble_eq_true rfl) d_Md_stairs_63 (fun H locs hP hD hS => ?_)
            have hP : va_P (dC, dI) vwCl (MG a k (upd v 2 ((v 2) + 1)) w (va_up g 1 (upd (g 1) ((v 2) : Int32).toNatClampNeg p_0)) gl) H := hP
            have hD : va_D A (MG a k (upd v 2 ((v 2) + 1)) w (va_up g 1 (upd (g 1) ((v 2) : Int32).toNatClampNeg p_0)) gl) := hD
            refine lv_aload_n hx hb d_Md_stairs_66 rfl (lv_at hl 0 rfl) ?_
            refine va_get (D := (dC, dI)) (ci := 7) (v := .int ((v 2) + 1)) (C := R_Md) (T := F_Md) (N := 64) hx hb htb i_Md hown hK hP 0 rfl rfl 2 (by decide) (htb (.fieldLink R_Md 14 "WaterMenModel" "stairs" "I") tw_1) (fun _ h9 => h9) rfl d_Md_stairs_67 ?_
            refine lv_iconst (v := 1) hx hb d_Md_stairs_70 (by decide +kernel) ?_
            refine lv_isub hx hb d_Md_stairs_71 ?_
            exact W.iret (v := (((v 2) + 1) - 1)) hx hb hr (fun t ht hW => ⟨⟨(((v 2) + 1) - 1), ((upd v 2 ((v 2) + 1)), w, (va_up g 1 (upd (g 1) ((v 2) : Int32).toNatClampNeg p_0)), gl), rfl, (by unfold T_Md_stairs_g; rw [if_neg c_1, if_neg c_2, if_neg c_3, if_pos c_4, if_neg c_5]), by rw [ht]; exact hP, va_K.moved hW.alike hK, by rw [hAe]; exact hD⟩, by rw [hAe]; exact hS.F ht⟩) (by rw [hAe]; exact hS.2.2) d_Md_stairs_72
          · refine lv_bipush (v := (-3)) hx hb d_Md_stairs_43 (by decide +kernel) ?_
            exact W.iret (v := (-3)) hx hb hr (fun t ht hW => ⟨⟨(-3), (v, w, g, gl), rfl, (by unfold T_Md_stairs_g; rw [if_neg c_1, if_neg c_2, if_neg c_3, if_pos c_4, if_pos c_5]), by rw [ht]; exact hP, va_K.moved hW.alike hK, by rw [hAe]; exact hD⟩, by rw [hAe]; exact hS.F ht⟩) (by rw [hAe]; exact hS.2.2) d_Md_stairs_45
        · refine lv_iconst (v := (-1)) hx hb d_Md_stairs_32 (by decide +kernel) ?_
          exact W.iret (v := (-1)) hx hb hr (fun t ht hW => ⟨⟨(-1), (v, w, g, gl), rfl, (by unfold T_Md_stairs_g; rw [if_neg c_1, if_neg c_2, if_neg c_3, if_neg c_4]), by rw [ht]; exact hP, va_K.moved hW.alike hK, by rw [hAe]; exact hD⟩, by rw [hAe]; exact hS.F ht⟩) (by rw [hAe]; exact hS.2.2) d_Md_stairs_33
def T_Md_bridge_g (v : Nat → Int32) (w : Nat → Int64) (g : Nat → Nat → Int32) (gl : Nat → Int64) (p_0 : Int32) : Int32 × MSt := if p_0 = (-1) then ((1, ((upd v 4 p_0), w, g, gl))) else (if p_0 < 0 then (((-1), (v, w, g, gl))) else (if ((v 2) - 2) < p_0 then (((-1), (v, w, g, gl))) else ((1, ((upd v 4 p_0), w, g, gl)))))
set_option maxHeartbeats 4000000 in
set_option maxRecDepth 100000 in
theorem c_Md_bridge_g (l : Launch) (dC : Nat → ClassId) (dI : Nat → Nat → Nat) (a : Nat → Nat) (k : Nat → ClassId) (v : Nat → Int32) (w : Nat → Int64) (g : Nat → Nat → Int32) (gl : Nat → Int64) (sz : Nat) (p_0 : Int32) (as_0 : ¬ ((v 1) < 0)) (as_1 : ¬ (359999 < (v 1))) (as_2 : ¬ ((v 2) < 0)) (as_3 : ¬ (12 < (v 2))) (as_4 : ¬ ((v 21) < 0)) (as_5 : ¬ (20 < (v 21))) (as_6 : ¬ ((v 28) < 0)) (as_7 : ¬ (400 < (v 28))) (as_8 : ¬ ((v 29) < 0)) (as_9 : ¬ (20 < (v 29))) (as_10 : ¬ ((v 47) < 0)) (as_11 : ¬ (600 < (v 47))) (as_12 : ¬ ((v 60) < 0)) (as_13 : ¬ (30 < (v 60))) : Met l y_Md_bridge (.code y_Md_bridge b_Md_bridge 2 (some .int) :: TB) ({ frames := 1, cells := 0, slots := 0, locals := 22 }) (va_Pc [.ref (a 0), .int p_0] (PC dC dI (MG a k v w g gl) (MT k) sz)) (va_Qi (fun r (u : MSt) => (r, u) = T_Md_bridge_g v w g gl p_0) (fun u t => va_P (dC, dI) vwCl (MG a k u.1 u.2.1 u.2.2.1 u.2.2.2) t.heap ∧ va_K (dC, dI) vwCl (MT k) t ∧ va_D (va_A (MG a k v w g gl) sz) (MG a k u.1 u.2.1 u.2.2.1 u.2.2.2)) (va_A (MG a k v w g gl) sz)) 0 0 (va_A (MG a k v w g gl) sz) := by
  refine Met.ofW (cc := b_Md_bridge) (maxL := 2) (ret := (some .int)) (by decide) rfl ?_
  intro p e s m args below meth c s₁ B hml hv
  obtain ⟨rfl, hsz, hP, hK, hD0, hN⟩ := hv
  have hx := B.exec
  have hb := B.bytes
  have hr := B.returns
  have hts := atoms_spec (ws := (.code y_Md_bridge b_Md_bridge 2 (some .int) :: TB)) B.pre
  have htb := fun w (h : w ∈ TB) => hts w (List.mem_cons_of_mem _ h)
  have hown : s.vm.findClass R_Md = some m.cls := findClass_of_methodNamed B.named
  have hlocks := B.notSynchronized
  have hl := lv_entry ([.ref (a 0), .int p_0]) (n := 2) (Nat.le_of_ble_eq_true rfl)
  rw [lg_entry_eq]
  generalize (lg_sl ([.ref (a 0), .int p_0]) ++ List.replicate (2 - (lg_sl ([.ref (a 0), .int p_0])).length) Slot.unset).toArray = ls at hl ⊢
  have hl : lv_has ls 2 [(0, .ref (a 0)), (1, .int p_0)] := hl
  subst hsz
  have hD := hD0.self (sz := s.heap.size)
  obtain ⟨A, hAe⟩ : ∃ A, va_A (MG a k v w g gl) s.heap.size = A := ⟨_, rfl⟩
  rw [hAe] at hD
  have hA : ∀ q : Nat, s.heap.size ≤ q → A q := fun q h => by rw [← hAe]; exact Or.inr h
  have hS : va_S A s.heap s.heap [] := va_S.rf
  refine lv_iload_n hx hb d_Md_bridge_0 rfl (lv_at hl 1 rfl) ?_
  refine lv_iconst (v := (-1)) hx hb d_Md_bridge_1 (by decide +kernel) ?_
  refine lv_icmp_eq (tgt := 21) hx hb d_Md_bridge_2 (by decide) (fun c_1 => ?_) (fun c_1 => ?_)
  · refine lv_aload_n hx hb d_Md_bridge_21 rfl (lv_at hl 0 rfl) ?_
    refine lv_iload_n hx hb d_Md_bridge_22 rfl (lv_at hl 1 rfl) ?_
    refine va_put (D := (dC, dI)) (ci := 7) (v := .int p_0) (ty := .int) (C := R_Md) (T := F_Md) (N := 64) hx hb htb i_Md t_Md t_Md_ok n_Md hown hK hP hD hS 0 rfl rfl 4 (by decide) (htb (.fieldLink R_Md 35 "WaterMenModel" "bridge" "I") tw_14) (fun _ h9 => h9) rfl (by decide +kernel) rfl rfl (Nat.le_of_ble_eq_true rfl) d_Md_bridge_23 (fun H locs hP hD hS => ?_)
    have hP : va_P (dC, dI) vwCl (MG a k (upd v 4 p_0) w g gl) H := hP
    have hD : va_D A (MG a k (upd v 4 p_0) w g gl) := hD
    refine lv_iconst (v := 1) hx hb d_Md_bridge_26 (by decide +kernel) ?_
    exact W.iret (v := 1) hx hb hr (fun t ht hW => ⟨⟨1, ((upd v 4 p_0), w, g, gl), rfl, (by unfold T_Md_bridge_g; rw [if_pos c_1]), by rw [ht]; exact hP, va_K.moved hW.alike hK, by rw [hAe]; exact hD⟩, by rw [hAe]; exact hS.F ht⟩) (by rw [hAe]; exact hS.2.2) d_Md_bridge_27
  · refine lv_iload_n hx hb d_Md_bridge_5 rfl (lv_at hl 1 rfl) ?_
    refine lv_iconst (v := 0) hx hb d_Md_bridge_6 (by decide +kernel) ?_
    refine lv_aload_n hx hb d_Md_bridge_7 rfl (lv_at hl 0 rfl) ?_
    refine va_get (D := (dC, dI)) (ci := 7) (v := .int (v 2)) (C := R_Md) (T := F_Md) (N := 64) hx hb htb i_Md hown hK hP 0 rfl rfl 2 (by decide) (htb (.fieldLink R_Md 14 "WaterMenModel" "stairs" "I") tw_1) (fun _ h9 => h9) rfl d_Md_bridge_8 ?_
    refine lv_iconst (v := 2) hx hb d_Md_bridge_11 (by decide +kernel) ?_
    refine lv_isub hx hb d_Md_bridge_12 ?_
    refine vp_callSi (va_Run.run (va_runS (As := [.int p_0, .int 0, .int ((v 2) - 2)]) (rest := []) ⟨hx, hb, hml, hown, htb⟩ (c_Md_in l p_0 0 ((v 2) - 2)) (cwS 3 htb (gd_S tw_4 tw_5 tw_3 tw_2) rfl rfl rfl (by decide +kernel) ⟨Nat.le_of_ble_eq_true rfl, Nat.le_of_ble_eq_true rfl⟩) ⟨fun _ _ _ _ h => h, fun U _ _ => ⟨rfl, trivial⟩⟩ rfl rfl hl.1 rfl (lv_room (Nat.le_of_ble_eq_true rfl)) d_Md_bridge_13 ⟨Nat.le_of_ble_eq_true rfl, Nat.le_of_ble_eq_true rfl⟩)) (fun r er => ?_)
    subst er
    by_cases c_2 : p_0 < 0
    · refine hb_ti 0 (by unfold f_Md_in; rw [if_pos c_2]; first | done | rfl) ?_
      refine lv_if_ne (tgt := 21) hx hb d_Md_bridge_16 (by decide) (fun h => absurd (by decide +kernel) h) (fun _ => ?_)
      refine lv_iconst (v := (-1)) hx hb d_Md_bridge_19 (by decide +kernel) ?_
      exact W.iret (v := (-1)) hx hb hr (fun t ht hW => ⟨⟨(-1), (v, w, g, gl), rfl, (by unfold T_Md_bridge_g; rw [if_neg c_1, if_pos c_2]), by rw [ht]; exact hP, va_K.moved hW.alike hK, by rw [hAe]; exact hD⟩, by rw [hAe]; exact hS.F ht⟩) (by rw [hAe]; exact hS.2.2) d_Md_bridge_20
    · by_cases c_3 : ((v 2) - 2) < p_0
      · refine hb_ti 0 (by unfold f_Md_in; rw [if_neg c_2, if_pos c_3]; first | done | rfl) ?_
        refine lv_if_ne (tgt := 21) hx hb d_Md_bridge_16 (by decide) (fun h => absurd (by decide +kernel) h) (fun _ => ?_)
        refine lv_iconst (v := (-1)) hx hb d_Md_bridge_19 (by decide +kernel) ?_
        exact W.iret (v := (-1)) hx hb hr (fun t ht hW => ⟨⟨(-1), (v, w, g, gl), rfl, (by unfold T_Md_bridge_g; rw [if_neg c_1, if_neg c_2, if_pos c_3]), by rw [ht]; exact hP, va_K.moved hW.alike hK, by rw [hAe]; exact hD⟩, by rw [hAe]; exact hS.F ht⟩) (by rw [hAe]; exact hS.2.2) d_Md_bridge_20
      · refine hb_ti 1 (by unfold f_Md_in; rw [if_neg c_2, if_neg c_3]; first | done | rfl) ?_
        refine lv_if_ne (tgt := 21) hx hb d_Md_bridge_16 (by decide) (fun _ => ?_) (fun h => absurd h (by decide +kernel))
        refine lv_aload_n hx hb d_Md_bridge_21 rfl (lv_at hl 0 rfl) ?_
        refine lv_iload_n hx hb d_Md_bridge_22 rfl (lv_at hl 1 rfl) ?_
        refine va_put (D := (dC, dI)) (ci := 7) (v := .int p_0) (ty := .int) (C := R_Md) (T := F_Md) (N := 64) hx hb htb i_Md t_Md t_Md_ok n_Md hown hK hP hD hS 0 rfl rfl 4 (by decide) (htb (.fieldLink R_Md 35 "WaterMenModel" "bridge" "I") tw_14) (fun _ h9 => h9) rfl (by decide +kernel) rfl rfl (Nat.le_of_ble_eq_true rfl) d_Md_bridge_23 (fun H locs hP hD hS => ?_)
        have hP : va_P (dC, dI) vwCl (MG a k (upd v 4 p_0) w g gl) H := hP
        have hD : va_D A (MG a k (upd v 4 p_0) w g gl) := hD
        refine lv_iconst (v := 1) hx hb d_Md_bridge_26 (by decide +kernel) ?_
        exact W.iret (v := 1) hx hb hr (fun t ht hW => ⟨⟨1, ((upd v 4 p_0), w, g, gl), rfl, (by unfold T_Md_bridge_g; rw [if_neg c_1, if_neg c_2, if_neg c_3]), by rw [ht]; exact hP, va_K.moved hW.alike hK, by rw [hAe]; exact hD⟩, by rw [hAe]; exact hS.F ht⟩) (by rw [hAe]; exact hS.2.2) d_Md_bridge_27
def T_Md_table_g (v : Nat → Int32) (w : Nat → Int64) (g : Nat → Nat → Int32) (gl : Nat → Int64) (p_0 : Int32) (p_1 : Int32) : Int32 × MSt := if p_0 < 0 then (((-1000), (v, w, g, gl))) else (if 11 < p_0 then (((-1000), (v, w, g, gl))) else (if p_1 < (-90) then (((-1000), (v, w, g, gl))) else (if 90 < p_1 then (((-1000), (v, w, g, gl))) else (((g 2) (p_0).toNatClampNeg, (v, w, (va_up g 2 (upd (g 2) (p_0 : Int32).toNatClampNeg p_1)), gl))))))
set_option maxHeartbeats 4000000 in
set_option maxRecDepth 100000 in
theorem c_Md_table_g (l : Launch) (dC : Nat → ClassId) (dI : Nat → Nat → Nat) (a : Nat → Nat) (k : Nat → ClassId) (v : Nat → Int32) (w : Nat → Int64) (g : Nat → Nat → Int32) (gl : Nat → Int64) (sz : Nat) (p_0 : Int32) (p_1 : Int32) (as_0 : ¬ ((v 1) < 0)) (as_1 : ¬ (359999 < (v 1))) (as_2 : ¬ ((v 2) < 0)) (as_3 : ¬ (12 < (v 2))) (as_4 : ¬ ((v 21) < 0)) (as_5 : ¬ (20 < (v 21))) (as_6 : ¬ ((v 28) < 0)) (as_7 : ¬ (400 < (v 28))) (as_8 : ¬ ((v 29) < 0)) (as_9 : ¬ (20 < (v 29))) (as_10 : ¬ ((v 47) < 0)) (as_11 : ¬ (600 < (v 47))) (as_12 : ¬ ((v 60) < 0)) (as_13 : ¬ (30 < (v 60))) : Met l y_Md_table (.code y_Md_table b_Md_table 4 (some .int) :: TB) ({ frames := 1, cells := 0, slots := 0, locals := 22 }) (va_Pc [.ref (a 0), .int p_0, .int p_1] (PC dC dI (MG a k v w g gl) (MT k) sz)) (va_Qi (fun r (u : MSt) => (r, u) = T_Md_table_g v w g gl p_0 p_1) (fun u t => va_P (dC, dI) vwCl (MG a k u.1 u.2.1 u.2.2.1 u.2.2.2) t.heap ∧ va_K (dC, dI) vwCl (MT k) t ∧ va_D (va_A (MG a k v w g gl) sz) (MG a k u.1 u.2.1 u.2.2.1 u.2.2.2)) (va_A (MG a k v w g gl) sz)) 0 0 (va_A (MG a k v w g gl) sz) := by
  refine Met.ofW (cc := b_Md_table) (maxL := 4) (ret := (some .int)) (by decide) rfl ?_
  intro p e s m args below meth c s₁ B hml hv
  obtain ⟨rfl, hsz, hP, hK, hD0, hN⟩ := hv
  have hx := B.exec
  have hb := B.bytes
  have hr := B.returns
  have hts := atoms_spec (ws := (.code y_Md_table b_Md_table 4 (some .int) :: TB)) B.pre
  have htb := fun w (h : w ∈ TB) => hts w (List.mem_cons_of_mem _ h)
  have hown : s.vm.findClass R_Md = some m.cls := findClass_of_methodNamed B.named
  have hlocks := B.notSynchronized
  have hl := lv_entry ([.ref (a 0), .int p_0, .int p_1]) (n := 4) (Nat.le_of_ble_eq_true rfl)
  rw [lg_entry_eq]
  generalize (lg_sl ([.ref (a 0), .int p_0, .int p_1]) ++ List.replicate (4 - (lg_sl ([.ref (a 0), .int p_0, .int p_1])).length) Slot.unset).toArray = ls at hl ⊢
  have hl : lv_has ls 4 [(0, .ref (a 0)), (1, .int p_0), (2, .int p_1)] := hl
  subst hsz
  have hD := hD0.self (sz := s.heap.size)
  obtain ⟨A, hAe⟩ : ∃ A, va_A (MG a k v w g gl) s.heap.size = A := ⟨_, rfl⟩
  rw [hAe] at hD
  have hA : ∀ q : Nat, s.heap.size ≤ q → A q := fun q h => by rw [← hAe]; exact Or.inr h
  have hS : va_S A s.heap s.heap [] := va_S.rf
  refine lv_iload_n hx hb d_Md_table_0 rfl (lv_at hl 1 rfl) ?_
  refine lv_iconst (v := 0) hx hb d_Md_table_1 (by decide +kernel) ?_
  refine lv_bipush (v := 11) hx hb d_Md_table_2 (by decide +kernel) ?_
  refine vp_callSi (va_Run.run (va_runS (As := [.int p_0, .int 0, .int 11]) (rest := []) ⟨hx, hb, hml, hown, htb⟩ (c_Md_in l p_0 0 11) (cwS 3 htb (gd_S tw_4 tw_5 tw_3 tw_2) rfl rfl rfl (by decide +kernel) ⟨Nat.le_of_ble_eq_true rfl, Nat.le_of_ble_eq_true rfl⟩) ⟨fun _ _ _ _ h => h, fun U _ _ => ⟨rfl, trivial⟩⟩ rfl rfl hl.1 rfl (lv_room (Nat.le_of_ble_eq_true rfl)) d_Md_table_4 ⟨Nat.le_of_ble_eq_true rfl, Nat.le_of_ble_eq_true rfl⟩)) (fun r er => ?_)
  subst er
  by_cases c_1 : p_0 < 0
  · refine hb_ti 0 (by unfold f_Md_in; rw [if_pos c_1]; first | done | rfl) ?_
    refine lv_if_eq (tgt := 21) hx hb d_Md_table_7 (by decide) (fun _ => ?_) (fun h => absurd (by decide +kernel) h)
    refine lv_sipush (v := (-1000)) hx hb d_Md_table_21 (by decide +kernel) ?_
    exact W.iret (v := (-1000)) hx hb hr (fun t ht hW => ⟨⟨(-1000), (v, w, g, gl), rfl, (by unfold T_Md_table_g; rw [if_pos c_1]), by rw [ht]; exact hP, va_K.moved hW.alike hK, by rw [hAe]; exact hD⟩, by rw [hAe]; exact hS.F ht⟩) (by rw [hAe]; exact hS.2.2) d_Md_table_24
  · by_cases c_2 : 11 < p_0
    · refine hb_ti 0 (by unfold f_Md_in; rw [if_neg c_1, if_pos c_2]; first | done | rfl) ?_
      refine lv_if_eq (tgt := 21) hx hb d_Md_table_7 (by decide) (fun _ => ?_) (fun h => absurd (by decide +kernel) h)
      refine lv_sipush (v := (-1000)) hx hb d_Md_table_21 (by decide +kernel) ?_
      exact W.iret (v := (-1000)) hx hb hr (fun t ht hW => ⟨⟨(-1000), (v, w, g, gl), rfl, (by unfold T_Md_table_g; rw [if_neg c_1, if_pos c_2]), by rw [ht]; exact hP, va_K.moved hW.alike hK, by rw [hAe]; exact hD⟩, by rw [hAe]; exact hS.F ht⟩) (by rw [hAe]; exact hS.2.2) d_Md_table_24
    · refine hb_ti 1 (by unfold f_Md_in; rw [if_neg c_1, if_neg c_2]; first | done | rfl) ?_
      refine lv_if_eq (tgt := 21) hx hb d_Md_table_7 (by decide) (fun h => absurd h (by decide +kernel)) (fun _ => ?_)
      refine lv_iload_n hx hb d_Md_table_10 rfl (lv_at hl 2 rfl) ?_
      refine lv_bipush (v := (-90)) hx hb d_Md_table_11 (by decide +kernel) ?_
      refine lv_bipush (v := 90) hx hb d_Md_table_13 (by decide +kernel) ?_
      refine vp_callSi (va_Run.run (va_runS (As := [.int p_1, .int (-90), .int 90]) (rest := []) ⟨hx, hb, hml, hown, htb⟩ (c_Md_in l p_1 (-90) 90) (cwS 3 htb (gd_S tw_4 tw_5 tw_3 tw_2) rfl rfl rfl (by decide +kernel) ⟨Nat.le_of_ble_eq_true rfl, Nat.le_of_ble_eq_true rfl⟩) ⟨fun _ _ _ _ h => h, fun U _ _ => ⟨rfl, trivial⟩⟩ rfl rfl hl.1 rfl (lv_room (Nat.le_of_ble_eq_true rfl)) d_Md_table_15 ⟨Nat.le_of_ble_eq_true rfl, Nat.le_of_ble_eq_true rfl⟩)) (fun r er => ?_)
      subst er
      by_cases c_3 : p_1 < (-90)
      · refine hb_ti 0 (by unfold f_Md_in; rw [if_pos c_3]; first | done | rfl) ?_
        refine lv_if_ne (tgt := 25) hx hb d_Md_table_18 (by decide) (fun h => absurd (by decide +kernel) h) (fun _ => ?_)
        refine lv_sipush (v := (-1000)) hx hb d_Md_table_21 (by decide +kernel) ?_
        exact W.iret (v := (-1000)) hx hb hr (fun t ht hW => ⟨⟨(-1000), (v, w, g, gl), rfl, (by unfold T_Md_table_g; rw [if_neg c_1, if_neg c_2, if_pos c_3]), by rw [ht]; exact hP, va_K.moved hW.alike hK, by rw [hAe]; exact hD⟩, by rw [hAe]; exact hS.F ht⟩) (by rw [hAe]; exact hS.2.2) d_Md_table_24
      · by_cases c_4 : 90 < p_1
        · refine hb_ti 0 (by unfold f_Md_in; rw [if_neg c_3, if_pos c_4]; first | done | rfl) ?_
          refine lv_if_ne (tgt := 25) hx hb d_Md_table_18 (by decide) (fun h => absurd (by decide +kernel) h) (fun _ => ?_)
          refine lv_sipush (v := (-1000)) hx hb d_Md_table_21 (by decide +kernel) ?_
          exact W.iret (v := (-1000)) hx hb hr (fun t ht hW => ⟨⟨(-1000), (v, w, g, gl), rfl, (by unfold T_Md_table_g; rw [if_neg c_1, if_neg c_2, if_neg c_3, if_pos c_4]), by rw [ht]; exact hP, va_K.moved hW.alike hK, by rw [hAe]; exact hD⟩, by rw [hAe]; exact hS.F ht⟩) (by rw [hAe]; exact hS.2.2) d_Md_table_24
        · refine hb_ti 1 (by unfold f_Md_in; rw [if_neg c_3, if_neg c_4]; first | done | rfl) ?_
          refine lv_if_ne (tgt := 25) hx hb d_Md_table_18 (by decide) (fun _ => ?_) (fun h => absurd h (by decide +kernel))
          refine lv_aload_n hx hb d_Md_table_25 rfl (lv_at hl 0 rfl) ?_
          refine va_get (D := (dC, dI)) (ci := 7) (v := .ref (a 2)) (C := R_Md) (T := F_Md) (N := 64) hx hb htb i_Md hown hK hP 0 rfl rfl 5 (by decide) (htb (.fieldLink R_Md 25 "WaterMenModel" "table" "[I") tw_6) (fun _ h9 => h9) rfl d_Md_table_26 ?_
          refine lv_iload_n hx hb d_Md_table_29 rfl (lv_at hl 1 rfl) ?_
          refine va_iald hx hb hK hP 2 1 rfl rfl (hb_inl c_1 c_2 (by decide +kernel)) d_Md_table_30 ?_
          refine lv_istore_n (lv' := [(3, .int ((g 2) (p_0).toNatClampNeg)), (0, .ref (a 0)), (1, .int p_0), (2, .int p_1)]) hx hb d_Md_table_31 rfl hl (by decide) rfl (fun ls hl => ?_)
          refine lv_aload_n hx hb d_Md_table_32 rfl (lv_at hl 1 rfl) ?_
          refine va_get (D := (dC, dI)) (ci := 7) (v := .ref (a 2)) (C := R_Md) (T := F_Md) (N := 64) hx hb htb i_Md hown hK hP 0 rfl rfl 5 (by decide) (htb (.fieldLink R_Md 25 "WaterMenModel" "table" "[I") tw_6) (fun _ h9 => h9) rfl d_Md_table_33 ?_
          refine lv_iload_n hx hb d_Md_table_36 rfl (lv_at hl 2 rfl) ?_
          refine lv_iload_n hx hb d_Md_table_37 rfl (lv_at hl 3 rfl) ?_
          refine va_iast hx hb hK hP hD hS 2 1 rfl rfl (hb_inl c_1 c_2 (by decide +kernel)) d_Md_table_38 (fun H locs hP hD hS => ?_)
          have hP : va_P (dC, dI) vwCl (MG a k v w (va_up g 2 (upd (g 2) (p_0 : Int32).toNatClampNeg p_1)) gl) H := hP
          have hD : va_D A (MG a k v w (va_up g 2 (upd (g 2) (p_0 : Int32).toNatClampNeg p_1)) gl) := hD
          refine lv_iload_n hx hb d_Md_table_39 rfl (lv_at hl 0 rfl) ?_
          exact W.iret (v := (g 2) (p_0).toNatClampNeg) hx hb hr (fun t ht hW => ⟨⟨(g 2) (p_0).toNatClampNeg, (v, w, (va_up g 2 (upd (g 2) (p_0 : Int32).toNatClampNeg p_1)), gl), rfl, (by unfold T_Md_table_g; rw [if_neg c_1, if_neg c_2, if_neg c_3, if_neg c_4]), by rw [ht]; exact hP, va_K.moved hW.alike hK, by rw [hAe]; exact hD⟩, by rw [hAe]; exact hS.F ht⟩) (by rw [hAe]; exact hS.2.2) d_Md_table_40
def f_Md_isDay  (p_0 : Int32) : Int32 := if p_0 < 0 then (0) else (if 499 < p_0 then (0) else (1))
set_option maxHeartbeats 4000000 in
set_option maxRecDepth 100000 in
theorem c_Md_isDay (l : Launch)  (p_0 : Int32)  : Met l y_Md_isDay (.code y_Md_isDay b_Md_isDay 1 (some .boolean) :: TB) ({ frames := 1, cells := 0, slots := 0, locals := 22 }) (va_Pc [.int p_0] (fun _ => True)) (vp_Si (fun r => r = f_Md_isDay p_0)) 0 0 (fun _ => False) := by
  refine Met.ofW (cc := b_Md_isDay) (maxL := 1) (ret := (some .boolean)) (by decide) rfl ?_
  intro p e s m args below meth c s₁ B hml hv
  obtain ⟨rfl, -⟩ := hv
  have hx := B.exec
  have hb := B.bytes
  have hr := B.returns
  have hts := atoms_spec (ws := (.code y_Md_isDay b_Md_isDay 1 (some .boolean) :: TB)) B.pre
  have htb := fun w (h : w ∈ TB) => hts w (List.mem_cons_of_mem _ h)
  have hown : s.vm.findClass R_Md = some m.cls := findClass_of_methodNamed B.named
  have hlocks := B.notSynchronized
  have hl := lv_entry ([.int p_0]) (n := 1) (Nat.le_of_ble_eq_true rfl)
  rw [lg_entry_eq]
  generalize (lg_sl ([.int p_0]) ++ List.replicate (1 - (lg_sl ([.int p_0])).length) Slot.unset).toArray = ls at hl ⊢
  have hl : lv_has ls 1 [(0, .int p_0)] := hl
  refine lv_iload_n hx hb d_Md_isDay_0 rfl (lv_at hl 0 rfl) ?_
  refine lv_iconst (v := 0) hx hb d_Md_isDay_1 (by decide +kernel) ?_
  refine lv_sipush (v := 499) hx hb d_Md_isDay_2 (by decide +kernel) ?_
  refine vp_callSi (va_Run.run (va_runS (As := [.int p_0, .int 0, .int 499]) (rest := []) ⟨hx, hb, hml, hown, htb⟩ (c_Md_in l p_0 0 499) (cwS 3 htb (gd_S tw_4 tw_5 tw_3 tw_2) rfl rfl rfl (by decide +kernel) ⟨Nat.le_of_ble_eq_true rfl, Nat.le_of_ble_eq_true rfl⟩) ⟨fun _ _ _ _ h => h, fun U _ _ => ⟨rfl, trivial⟩⟩ rfl rfl hl.1 rfl (lv_room (Nat.le_of_ble_eq_true rfl)) d_Md_isDay_5 ⟨Nat.le_of_ble_eq_true rfl, Nat.le_of_ble_eq_true rfl⟩)) (fun r er => ?_)
  subst er
  by_cases c_1 : p_0 < 0
  · refine hb_ti 0 (by unfold f_Md_in; rw [if_pos c_1]) ?_
    exact W.zret (v := 0) hx hb hr (by decide +kernel) (fun t ht hW => ⟨0, rfl, (by unfold f_Md_isDay; rw [if_pos c_1]), ht⟩) t_nil d_Md_isDay_8
  · by_cases c_2 : 499 < p_0
    · refine hb_ti 0 (by unfold f_Md_in; rw [if_neg c_1, if_pos c_2]) ?_
      exact W.zret (v := 0) hx hb hr (by decide +kernel) (fun t ht hW => ⟨0, rfl, (by unfold f_Md_isDay; rw [if_neg c_1, if_pos c_2]), ht⟩) t_nil d_Md_isDay_8
    · refine hb_ti 1 (by unfold f_Md_in; rw [if_neg c_1, if_neg c_2]) ?_
      exact W.zret (v := 1) hx hb hr (by decide +kernel) (fun t ht hW => ⟨1, rfl, (by unfold f_Md_isDay; rw [if_neg c_1, if_neg c_2]), ht⟩) t_nil d_Md_isDay_8
def f_Md_flow_g (v : Nat → Int32) (g : Nat → Nat → Int32) (p_0 : Int32) (p_1 : Int32) : Int32 := if p_0 < 0 then ((-1000)) else (if 499 < p_0 then ((-1000)) else (if p_1 < 0 then ((-1000)) else (if 11 < p_1 then ((-1000)) else (if p_1 = 11 then (if 500 ≤ (p_0 + 1) then (if (g 3) (p_0).toNatClampNeg = 0 then (((g 2) (((0 + (p_0 + 1)) - (0 + (p_0 + 1)) / 12 * 12)).toNatClampNeg - (g 2) (((p_1 + p_0) - (p_1 + p_0) / 12 * 12)).toNatClampNeg)) else (((g 2) (((0 + (p_0 + 1)) - (0 + (p_0 + 1)) / 12 * 12)).toNatClampNeg - (g 4) (((12 * p_0) + p_1)).toNatClampNeg))) else (if (g 3) ((p_0 + 1)).toNatClampNeg = 0 then (if (g 3) (p_0).toNatClampNeg = 0 then (((g 2) (((0 + (p_0 + 1)) - (0 + (p_0 + 1)) / 12 * 12)).toNatClampNeg - (g 2) (((p_1 + p_0) - (p_1 + p_0) / 12 * 12)).toNatClampNeg)) else (((g 2) (((0 + (p_0 + 1)) - (0 + (p_0 + 1)) / 12 * 12)).toNatClampNeg - (g 4) (((12 * p_0) + p_1)).toNatClampNeg))) else (if (g 3) (p_0).toNatClampNeg = 0 then (((g 4) (((12 * (p_0 + 1)) + 0)).toNatClampNeg - (g 2) (((p_1 + p_0) - (p_1 + p_0) / 12 * 12)).toNatClampNeg)) else (((g 4) (((12 * (p_0 + 1)) + 0)).toNatClampNeg - (g 4) (((12 * p_0) + p_1)).toNatClampNeg))))) else (if (g 3) (p_0).toNatClampNeg = 0 then (((g 2) ((((p_1 + 1) + p_0) - ((p_1 + 1) + p_0) / 12 * 12)).toNatClampNeg - (g 2) (((p_1 + p_0) - (p_1 + p_0) / 12 * 12)).toNatClampNeg)) else (((g 4) (((12 * p_0) + (p_1 + 1))).toNatClampNeg - (g 4) (((12 * p_0) + p_1)).toNatClampNeg)))))))
set_option maxHeartbeats 4000000 in
set_option maxRecDepth 100000 in
theorem c_Md_flow_g (l : Launch) (dC : Nat → ClassId) (dI : Nat → Nat → Nat) (a : Nat → Nat) (k : Nat → ClassId) (v : Nat → Int32) (w : Nat → Int64) (g : Nat → Nat → Int32) (gl : Nat → Int64)  (p_0 : Int32) (p_1 : Int32) (as_0 : ¬ ((v 1) < 0)) (as_1 : ¬ (359999 < (v 1))) (as_2 : ¬ ((v 2) < 0)) (as_3 : ¬ (12 < (v 2))) (as_4 : ¬ ((v 21) < 0)) (as_5 : ¬ (20 < (v 21))) (as_6 : ¬ ((v 28) < 0)) (as_7 : ¬ (400 < (v 28))) (as_8 : ¬ ((v 29) < 0)) (as_9 : ¬ (20 < (v 29))) (as_10 : ¬ ((v 47) < 0)) (as_11 : ¬ (600 < (v 47))) (as_12 : ¬ ((v 60) < 0)) (as_13 : ¬ (30 < (v 60))) : Met l y_Md_flow (.code y_Md_flow b_Md_flow 3 (some .int) :: TB) ({ frames := 2, cells := 0, slots := 0, locals := 44 }) (va_Pc [.ref (a 0), .int p_0, .int p_1] (PR dC dI (MG a k v w g gl) (MT k))) (vp_Si (fun r => r = f_Md_flow_g v g p_0 p_1)) 0 0 (fun _ => False) := by
  refine Met.ofW (cc := b_Md_flow) (maxL := 3) (ret := (some .int)) (by decide) rfl ?_
  intro p e s m args below meth c s₁ B hml hv
  obtain ⟨rfl, hP, hK, hN⟩ := hv
  have hx := B.exec
  have hb := B.bytes
  have hr := B.returns
  have hts := atoms_spec (ws := (.code y_Md_flow b_Md_flow 3 (some .int) :: TB)) B.pre
  have htb := fun w (h : w ∈ TB) => hts w (List.mem_cons_of_mem _ h)
  have hown : s.vm.findClass R_Md = some m.cls := findClass_of_methodNamed B.named
  have hlocks := B.notSynchronized
  have hl := lv_entry ([.ref (a 0), .int p_0, .int p_1]) (n := 3) (Nat.le_of_ble_eq_true rfl)
  rw [lg_entry_eq]
  generalize (lg_sl ([.ref (a 0), .int p_0, .int p_1]) ++ List.replicate (3 - (lg_sl ([.ref (a 0), .int p_0, .int p_1])).length) Slot.unset).toArray = ls at hl ⊢
  have hl : lv_has ls 3 [(0, .ref (a 0)), (1, .int p_0), (2, .int p_1)] := hl
  refine lv_iload_n hx hb d_Md_flow_0 rfl (lv_at hl 1 rfl) ?_
  refine vp_callSi (va_Run.run (va_runS (As := [.int p_0]) (rest := []) ⟨hx, hb, hml, hown, htb⟩ (c_Md_isDay l p_0) (cwS 1 htb (gd_S tw_16 tw_17 tw_3 tw_15) rfl rfl rfl (by decide +kernel) ⟨Nat.le_of_ble_eq_true rfl, Nat.le_of_ble_eq_true rfl⟩) ⟨fun _ _ _ _ h => h, fun U _ _ => ⟨rfl, trivial⟩⟩ rfl rfl hl.1 rfl (lv_room (Nat.le_of_ble_eq_true rfl)) d_Md_flow_1 ⟨Nat.le_of_ble_eq_true rfl, Nat.le_of_ble_eq_true rfl⟩)) (fun r er => ?_)
  subst er
  by_cases c_1 : p_0 < 0
  · refine hb_ti 0 (by unfold f_Md_isDay; rw [if_pos c_1]; first | done | rfl) ?_
    refine lv_if_eq (tgt := 26) hx hb d_Md_flow_4 (by decide) (fun _ => ?_) (fun h => absurd (by decide +kernel) h)
    refine lv_sipush (v := (-1000)) hx hb d_Md_flow_26 (by decide +kernel) ?_
    exact W.iret (v := (-1000)) hx hb hr (fun t ht hW => ⟨(-1000), rfl, (by unfold f_Md_flow_g; rw [if_pos c_1]), ht⟩) t_nil d_Md_flow_29
  · by_cases c_2 : 499 < p_0
    · refine hb_ti 0 (by unfold f_Md_isDay; rw [if_neg c_1, if_pos c_2]; first | done | rfl) ?_
      refine lv_if_eq (tgt := 26) hx hb d_Md_flow_4 (by decide) (fun _ => ?_) (fun h => absurd (by decide +kernel) h)
      refine lv_sipush (v := (-1000)) hx hb d_Md_flow_26 (by decide +kernel) ?_
      exact W.iret (v := (-1000)) hx hb hr (fun t ht hW => ⟨(-1000), rfl, (by unfold f_Md_flow_g; rw [if_neg c_1, if_pos c_2]), ht⟩) t_nil d_Md_flow_29
    · refine hb_ti 1 (by unfold f_Md_isDay; rw [if_neg c_1, if_neg c_2]; first | done | rfl) ?_
      refine lv_if_eq (tgt := 26) hx hb d_Md_flow_4 (by decide) (fun h => absurd h (by decide +kernel)) (fun _ => ?_)
      refine lv_iload_n hx hb d_Md_flow_7 rfl (lv_at hl 2 rfl) ?_
      refine lv_iconst (v := 0) hx hb d_Md_flow_8 (by decide +kernel) ?_
      refine lv_bipush (v := 11) hx hb d_Md_flow_9 (by decide +kernel) ?_
      refine vp_callSi (va_Run.run (va_runS (As := [.int p_1, .int 0, .int 11]) (rest := []) ⟨hx, hb, hml, hown, htb⟩ (c_Md_in l p_1 0 11) (cwS 3 htb (gd_S tw_4 tw_5 tw_3 tw_2) rfl rfl rfl (by decide +kernel) ⟨Nat.le_of_ble_eq_true rfl, Nat.le_of_ble_eq_true rfl⟩) ⟨fun _ _ _ _ h => h, fun U _ _ => ⟨rfl, trivial⟩⟩ rfl rfl hl.1 rfl (lv_room (Nat.le_of_ble_eq_true rfl)) d_Md_flow_11 ⟨Nat.le_of_ble_eq_true rfl, Nat.le_of_ble_eq_true rfl⟩)) (fun r er => ?_)
      subst er
      by_cases c_3 : p_1 < 0
      · refine hb_ti 0 (by unfold f_Md_in; rw [if_pos c_3]; first | done | rfl) ?_
        refine lv_if_eq (tgt := 26) hx hb d_Md_flow_14 (by decide) (fun _ => ?_) (fun h => absurd (by decide +kernel) h)
        refine lv_sipush (v := (-1000)) hx hb d_Md_flow_26 (by decide +kernel) ?_
        exact W.iret (v := (-1000)) hx hb hr (fun t ht hW => ⟨(-1000), rfl, (by unfold f_Md_flow_g; rw [if_neg c_1, if_neg c_2, if_pos c_3]), ht⟩) t_nil d_Md_flow_29
      · by_cases c_4 : 11 < p_1
        · refine hb_ti 0 (by unfold f_Md_in; rw [if_neg c_3, if_pos c_4]; first | done | rfl) ?_
          refine lv_if_eq (tgt := 26) hx hb d_Md_flow_14 (by decide) (fun _ => ?_) (fun h => absurd (by decide +kernel) h)
          refine lv_sipush (v := (-1000)) hx hb d_Md_flow_26 (by decide +kernel) ?_
          exact W.iret (v := (-1000)) hx hb hr (fun t ht hW => ⟨(-1000), rfl, (by unfold f_Md_flow_g; rw [if_neg c_1, if_neg c_2, if_neg c_3, if_pos c_4]), ht⟩) t_nil d_Md_flow_29
        · refine hb_ti 1 (by unfold f_Md_in; rw [if_neg c_3, if_neg c_4]; first | done | rfl) ?_
          refine lv_if_eq (tgt := 26) hx hb d_Md_flow_14 (by decide) (fun h => absurd h (by decide +kernel)) (fun _ => ?_)
          refine lv_aload_n hx hb d_Md_flow_17 rfl (lv_at hl 0 rfl) ?_
          refine lv_iload_n hx hb d_Md_flow_18 rfl (lv_at hl 1 rfl) ?_
          refine lv_iload_n hx hb d_Md_flow_19 rfl (lv_at hl 2 rfl) ?_
          refine vp_callSi (va_Run.run (va_runV (As := [.int p_0, .int p_1]) (rest := []) ⟨hx, hb, hml, hown, htb⟩ (c_Md_flowOf_g l dC dI a k v w g gl p_0 p_1 as_0 as_1 as_2 as_3 as_4 as_5 as_6 as_7 as_8 as_9 as_10 as_11 as_12 as_13 c_1 (show ¬ (500 ≤ p_0) from by have e0 := c_1; rw [Int32.lt_iff_toInt_lt] at e0; have e1 := c_2; rw [Int32.lt_iff_toInt_lt] at e1; have z0 : (0 : Int32).toInt = 0 := (by decide +kernel); have z1 : (499 : Int32).toInt = 499 := (by decide +kernel); have z2 : (500 : Int32).toInt = 500 := (by decide +kernel); rw [Int32.le_iff_toInt_le]; omega) c_3 (show ¬ (12 ≤ p_1) from by have e0 := c_3; rw [Int32.lt_iff_toInt_lt] at e0; have e1 := c_4; rw [Int32.lt_iff_toInt_lt] at e1; have z0 : (0 : Int32).toInt = 0 := (by decide +kernel); have z1 : (11 : Int32).toInt = 11 := (by decide +kernel); have z2 : (12 : Int32).toInt = 12 := (by decide +kernel); rw [Int32.le_iff_toInt_le]; omega)) (cwV 2 htb (gd_V tw_19 tw_20 tw_21 tw_3 tw_18) rfl rfl rfl (by decide +kernel) ⟨Nat.le_of_ble_eq_true rfl, Nat.le_of_ble_eq_true rfl⟩) ⟨pr_blind, va_recv hK hP (ci := 7) (q0 := 0) rfl rfl, pr_pre hP hK hN⟩ rfl rfl hl.1 rfl (lv_room (Nat.le_of_ble_eq_true rfl)) d_Md_flow_20 ⟨Nat.le_of_ble_eq_true rfl, Nat.le_of_ble_eq_true rfl⟩)) (fun r er => ?_)
          subst er
          by_cases c_5 : p_1 = 11
          · by_cases c_6 : 500 ≤ (p_0 + 1)
            · by_cases c_7 : (g 3) (p_0).toNatClampNeg = 0
              · refine hb_ti ((g 2) (((0 + (p_0 + 1)) - (0 + (p_0 + 1)) / 12 * 12)).toNatClampNeg - (g 2) (((p_1 + p_0) - (p_1 + p_0) / 12 * 12)).toNatClampNeg) (by unfold f_Md_flowOf_g; rw [if_pos c_5, if_pos c_6, if_pos c_7]; first | done | rfl) ?_
                refine lv_goto (tgt := 29) hx hb d_Md_flow_23 (by decide) ?_
                exact W.iret (v := ((g 2) (((0 + (p_0 + 1)) - (0 + (p_0 + 1)) / 12 * 12)).toNatClampNeg - (g 2) (((p_1 + p_0) - (p_1 + p_0) / 12 * 12)).toNatClampNeg)) hx hb hr (fun t ht hW => ⟨((g 2) (((0 + (p_0 + 1)) - (0 + (p_0 + 1)) / 12 * 12)).toNatClampNeg - (g 2) (((p_1 + p_0) - (p_1 + p_0) / 12 * 12)).toNatClampNeg), rfl, (by unfold f_Md_flow_g; rw [if_neg c_1, if_neg c_2, if_neg c_3, if_neg c_4, if_pos c_5, if_pos c_6, if_pos c_7]), ht⟩) t_nil d_Md_flow_29
              · refine hb_ti ((g 2) (((0 + (p_0 + 1)) - (0 + (p_0 + 1)) / 12 * 12)).toNatClampNeg - (g 4) (((12 * p_0) + p_1)).toNatClampNeg) (by unfold f_Md_flowOf_g; rw [if_pos c_5, if_pos c_6, if_neg c_7]; first | done | rfl) ?_
                refine lv_goto (tgt := 29) hx hb d_Md_flow_23 (by decide) ?_
                exact W.iret (v := ((g 2) (((0 + (p_0 + 1)) - (0 + (p_0 + 1)) / 12 * 12)).toNatClampNeg - (g 4) (((12 * p_0) + p_1)).toNatClampNeg)) hx hb hr (fun t ht hW => ⟨((g 2) (((0 + (p_0 + 1)) - (0 + (p_0 + 1)) / 12 * 12)).toNatClampNeg - (g 4) (((12 * p_0) + p_1)).toNatClampNeg), rfl, (by unfold f_Md_flow_g; rw [if_neg c_1, if_neg c_2, if_neg c_3, if_neg c_4, if_pos c_5, if_pos c_6, if_neg c_7]), ht⟩) t_nil d_Md_flow_29
            · by_cases c_8 : (g 3) ((p_0 + 1)).toNatClampNeg = 0
              · by_cases c_9 : (g 3) (p_0).toNatClampNeg = 0
                · refine hb_ti ((g 2) (((0 + (p_0 + 1)) - (0 + (p_0 + 1)) / 12 * 12)).toNatClampNeg - (g 2) (((p_1 + p_0) - (p_1 + p_0) / 12 * 12)).toNatClampNeg) (by unfold f_Md_flowOf_g; rw [if_pos c_5, if_neg c_6, if_pos c_8, if_pos c_9]; first | done | rfl) ?_
                  refine lv_goto (tgt := 29) hx hb d_Md_flow_23 (by decide) ?_
                  exact W.iret (v := ((g 2) (((0 + (p_0 + 1)) - (0 + (p_0 + 1)) / 12 * 12)).toNatClampNeg - (g 2) (((p_1 + p_0) - (p_1 + p_0) / 12 * 12)).toNatClampNeg)) hx hb hr (fun t ht hW => ⟨((g 2) (((0 + (p_0 + 1)) - (0 + (p_0 + 1)) / 12 * 12)).toNatClampNeg - (g 2) (((p_1 + p_0) - (p_1 + p_0) / 12 * 12)).toNatClampNeg), rfl, (by unfold f_Md_flow_g; rw [if_neg c_1, if_neg c_2, if_neg c_3, if_neg c_4, if_pos c_5, if_neg c_6, if_pos c_8, if_pos c_9]), ht⟩) t_nil d_Md_flow_29
                · refine hb_ti ((g 2) (((0 + (p_0 + 1)) - (0 + (p_0 + 1)) / 12 * 12)).toNatClampNeg - (g 4) (((12 * p_0) + p_1)).toNatClampNeg) (by unfold f_Md_flowOf_g; rw [if_pos c_5, if_neg c_6, if_pos c_8, if_neg c_9]; first | done | rfl) ?_
                  refine lv_goto (tgt := 29) hx hb d_Md_flow_23 (by decide) ?_
                  exact W.iret (v := ((g 2) (((0 + (p_0 + 1)) - (0 + (p_0 + 1)) / 12 * 12)).toNatClampNeg - (g 4) (((12 * p_0) + p_1)).toNatClampNeg)) hx hb hr (fun t ht hW => ⟨((g 2) (((0 + (p_0 + 1)) - (0 + (p_0 + 1)) / 12 * 12)).toNatClampNeg - (g 4) (((12 * p_0) + p_1)).toNatClampNeg), rfl, (by unfold f_Md_flow_g; rw [if_neg c_1, if_neg c_2, if_neg c_3, if_neg c_4, if_pos c_5, if_neg c_6, if_pos c_8, if_neg c_9]), ht⟩) t_nil d_Md_flow_29
              · by_cases c_10 : (g 3) (p_0).toNatClampNeg = 0
                · refine hb_ti ((g 4) (((12 * (p_0 + 1)) + 0)).toNatClampNeg - (g 2) (((p_1 + p_0) - (p_1 + p_0) / 12 * 12)).toNatClampNeg) (by unfold f_Md_flowOf_g; rw [if_pos c_5, if_neg c_6, if_neg c_8, if_pos c_10]; first | done | rfl) ?_
                  refine lv_goto (tgt := 29) hx hb d_Md_flow_23 (by decide) ?_
                  exact W.iret (v := ((g 4) (((12 * (p_0 + 1)) + 0)).toNatClampNeg - (g 2) (((p_1 + p_0) - (p_1 + p_0) / 12 * 12)).toNatClampNeg)) hx hb hr (fun t ht hW => ⟨((g 4) (((12 * (p_0 + 1)) + 0)).toNatClampNeg - (g 2) (((p_1 + p_0) - (p_1 + p_0) / 12 * 12)).toNatClampNeg), rfl, (by unfold f_Md_flow_g; rw [if_neg c_1, if_neg c_2, if_neg c_3, if_neg c_4, if_pos c_5, if_neg c_6, if_neg c_8, if_pos c_10]), ht⟩) t_nil d_Md_flow_29
                · refine hb_ti ((g 4) (((12 * (p_0 + 1)) + 0)).toNatClampNeg - (g 4) (((12 * p_0) + p_1)).toNatClampNeg) (by unfold f_Md_flowOf_g; rw [if_pos c_5, if_neg c_6, if_neg c_8, if_neg c_10]; first | done | rfl) ?_
                  refine lv_goto (tgt := 29) hx hb d_Md_flow_23 (by decide) ?_
                  exact W.iret (v := ((g 4) (((12 * (p_0 + 1)) + 0)).toNatClampNeg - (g 4) (((12 * p_0) + p_1)).toNatClampNeg)) hx hb hr (fun t ht hW => ⟨((g 4) (((12 * (p_0 + 1)) + 0)).toNatClampNeg - (g 4) (((12 * p_0) + p_1)).toNatClampNeg), rfl, (by unfold f_Md_flow_g; rw [if_neg c_1, if_neg c_2, if_neg c_3, if_neg c_4, if_pos c_5, if_neg c_6, if_neg c_8, if_neg c_10]), ht⟩) t_nil d_Md_flow_29
          · by_cases c_11 : (g 3) (p_0).toNatClampNeg = 0
            · refine hb_ti ((g 2) ((((p_1 + 1) + p_0) - ((p_1 + 1) + p_0) / 12 * 12)).toNatClampNeg - (g 2) (((p_1 + p_0) - (p_1 + p_0) / 12 * 12)).toNatClampNeg) (by unfold f_Md_flowOf_g; rw [if_neg c_5, if_pos c_11]; first | done | rfl) ?_
              refine lv_goto (tgt := 29) hx hb d_Md_flow_23 (by decide) ?_
              exact W.iret (v := ((g 2) ((((p_1 + 1) + p_0) - ((p_1 + 1) + p_0) / 12 * 12)).toNatClampNeg - (g 2) (((p_1 + p_0) - (p_1 + p_0) / 12 * 12)).toNatClampNeg)) hx hb hr (fun t ht hW => ⟨((g 2) ((((p_1 + 1) + p_0) - ((p_1 + 1) + p_0) / 12 * 12)).toNatClampNeg - (g 2) (((p_1 + p_0) - (p_1 + p_0) / 12 * 12)).toNatClampNeg), rfl, (by unfold f_Md_flow_g; rw [if_neg c_1, if_neg c_2, if_neg c_3, if_neg c_4, if_neg c_5, if_pos c_11]), ht⟩) t_nil d_Md_flow_29
            · refine hb_ti ((g 4) (((12 * p_0) + (p_1 + 1))).toNatClampNeg - (g 4) (((12 * p_0) + p_1)).toNatClampNeg) (by unfold f_Md_flowOf_g; rw [if_neg c_5, if_neg c_11]; first | done | rfl) ?_
              refine lv_goto (tgt := 29) hx hb d_Md_flow_23 (by decide) ?_
              exact W.iret (v := ((g 4) (((12 * p_0) + (p_1 + 1))).toNatClampNeg - (g 4) (((12 * p_0) + p_1)).toNatClampNeg)) hx hb hr (fun t ht hW => ⟨((g 4) (((12 * p_0) + (p_1 + 1))).toNatClampNeg - (g 4) (((12 * p_0) + p_1)).toNatClampNeg), rfl, (by unfold f_Md_flow_g; rw [if_neg c_1, if_neg c_2, if_neg c_3, if_neg c_4, if_neg c_5, if_neg c_11]), ht⟩) t_nil d_Md_flow_29
def T_Md_frost_g (v : Nat → Int32) (w : Nat → Int64) (g : Nat → Nat → Int32) (gl : Nat → Int64) (p_0 : Int32) (p_1 : Int32) : Int32 × MSt := if p_0 < ((v 1) / 720) then (((-1), (v, w, g, gl))) else (if 499 < p_0 then (((-1), (v, w, g, gl))) else (if p_1 < 0 then (((-1), (v, w, g, gl))) else (if 1 < p_1 then (((-1), (v, w, g, gl))) else (if (g 5) (p_0).toNatClampNeg = 0 then (if p_1 = 1 then ((0, (v, w, (va_up g 5 (upd (g 5) (p_0 : Int32).toNatClampNeg (vp_nar .boolean 1))), gl))) else ((0, (v, w, (va_up g 5 (upd (g 5) (p_0 : Int32).toNatClampNeg (vp_nar .boolean 0))), gl)))) else (if p_1 = 1 then ((1, (v, w, (va_up g 5 (upd (g 5) (p_0 : Int32).toNatClampNeg (vp_nar .boolean 1))), gl))) else ((1, (v, w, (va_up g 5 (upd (g 5) (p_0 : Int32).toNatClampNeg (vp_nar .boolean 0))), gl))))))))
set_option maxHeartbeats 4000000 in
set_option maxRecDepth 100000 in
theorem c_Md_frost_g (l : Launch) (dC : Nat → ClassId) (dI : Nat → Nat → Nat) (a : Nat → Nat) (k : Nat → ClassId) (v : Nat → Int32) (w : Nat → Int64) (g : Nat → Nat → Int32) (gl : Nat → Int64) (sz : Nat) (p_0 : Int32) (p_1 : Int32) (as_0 : ¬ ((v 1) < 0)) (as_1 : ¬ (359999 < (v 1))) (as_2 : ¬ ((v 2) < 0)) (as_3 : ¬ (12 < (v 2))) (as_4 : ¬ ((v 21) < 0)) (as_5 : ¬ (20 < (v 21))) (as_6 : ¬ ((v 28) < 0)) (as_7 : ¬ (400 < (v 28))) (as_8 : ¬ ((v 29) < 0)) (as_9 : ¬ (20 < (v 29))) (as_10 : ¬ ((v 47) < 0)) (as_11 : ¬ (600 < (v 47))) (as_12 : ¬ ((v 60) < 0)) (as_13 : ¬ (30 < (v 60))) : Met l y_Md_frost (.code y_Md_frost b_Md_frost 4 (some .int) :: TB) ({ frames := 1, cells := 0, slots := 0, locals := 22 }) (va_Pc [.ref (a 0), .int p_0, .int p_1] (PC dC dI (MG a k v w g gl) (MT k) sz)) (va_Qi (fun r (u : MSt) => (r, u) = T_Md_frost_g v w g gl p_0 p_1) (fun u t => va_P (dC, dI) vwCl (MG a k u.1 u.2.1 u.2.2.1 u.2.2.2) t.heap ∧ va_K (dC, dI) vwCl (MT k) t ∧ va_D (va_A (MG a k v w g gl) sz) (MG a k u.1 u.2.1 u.2.2.1 u.2.2.2)) (va_A (MG a k v w g gl) sz)) 0 0 (va_A (MG a k v w g gl) sz) := by
  refine Met.ofW (cc := b_Md_frost) (maxL := 4) (ret := (some .int)) (by decide) rfl ?_
  intro p e s m args below meth c s₁ B hml hv
  obtain ⟨rfl, hsz, hP, hK, hD0, hN⟩ := hv
  have hx := B.exec
  have hb := B.bytes
  have hr := B.returns
  have hts := atoms_spec (ws := (.code y_Md_frost b_Md_frost 4 (some .int) :: TB)) B.pre
  have htb := fun w (h : w ∈ TB) => hts w (List.mem_cons_of_mem _ h)
  have hown : s.vm.findClass R_Md = some m.cls := findClass_of_methodNamed B.named
  have hlocks := B.notSynchronized
  have hl := lv_entry ([.ref (a 0), .int p_0, .int p_1]) (n := 4) (Nat.le_of_ble_eq_true rfl)
  rw [lg_entry_eq]
  generalize (lg_sl ([.ref (a 0), .int p_0, .int p_1]) ++ List.replicate (4 - (lg_sl ([.ref (a 0), .int p_0, .int p_1])).length) Slot.unset).toArray = ls at hl ⊢
  have hl : lv_has ls 4 [(0, .ref (a 0)), (1, .int p_0), (2, .int p_1)] := hl
  subst hsz
  have hD := hD0.self (sz := s.heap.size)
  obtain ⟨A, hAe⟩ : ∃ A, va_A (MG a k v w g gl) s.heap.size = A := ⟨_, rfl⟩
  rw [hAe] at hD
  have hA : ∀ q : Nat, s.heap.size ≤ q → A q := fun q h => by rw [← hAe]; exact Or.inr h
  have hS : va_S A s.heap s.heap [] := va_S.rf
  refine lv_iload_n hx hb d_Md_frost_0 rfl (lv_at hl 1 rfl) ?_
  refine lv_aload_n hx hb d_Md_frost_1 rfl (lv_at hl 0 rfl) ?_
  refine vp_callSi (va_Run.run (va_runV (As := []) (rest := [.int p_0]) ⟨hx, hb, hml, hown, htb⟩ (c_Md_today_g l dC dI a k v w g gl as_0 as_1 as_2 as_3 as_4 as_5 as_6 as_7 as_8 as_9 as_10 as_11 as_12 as_13) (cwV 0 htb (gd_V tw_23 tw_24 tw_25 tw_3 tw_22) rfl rfl rfl (by decide +kernel) ⟨Nat.le_of_ble_eq_true rfl, Nat.le_of_ble_eq_true rfl⟩) ⟨pr_blind, va_recv hK hP (ci := 7) (q0 := 0) rfl rfl, pr_pre hP hK hN⟩ rfl rfl hl.1 rfl (lv_room (Nat.le_of_ble_eq_true rfl)) d_Md_frost_2 ⟨Nat.le_of_ble_eq_true rfl, Nat.le_of_ble_eq_true rfl⟩)) (fun r er => ?_)
  subst er
  refine hb_ti ((v 1) / 720) rfl ?_
  refine lv_sipush (v := 499) hx hb d_Md_frost_5 (by decide +kernel) ?_
  refine vp_callSi (va_Run.run (va_runS (As := [.int p_0, .int ((v 1) / 720), .int 499]) (rest := []) ⟨hx, hb, hml, hown, htb⟩ (c_Md_in l p_0 ((v 1) / 720) 499) (cwS 3 htb (gd_S tw_4 tw_5 tw_3 tw_2) rfl rfl rfl (by decide +kernel) ⟨Nat.le_of_ble_eq_true rfl, Nat.le_of_ble_eq_true rfl⟩) ⟨fun _ _ _ _ h => h, fun U _ _ => ⟨rfl, trivial⟩⟩ rfl rfl hl.1 rfl (lv_room (Nat.le_of_ble_eq_true rfl)) d_Md_frost_8 ⟨Nat.le_of_ble_eq_true rfl, Nat.le_of_ble_eq_true rfl⟩)) (fun r er => ?_)
  subst er
  by_cases c_1 : p_0 < ((v 1) / 720)
  · refine hb_ti 0 (by unfold f_Md_in; rw [if_pos c_1]; first | done | rfl) ?_
    refine lv_if_eq (tgt := 23) hx hb d_Md_frost_11 (by decide) (fun _ => ?_) (fun h => absurd (by decide +kernel) h)
    refine lv_iconst (v := (-1)) hx hb d_Md_frost_23 (by decide +kernel) ?_
    exact W.iret (v := (-1)) hx hb hr (fun t ht hW => ⟨⟨(-1), (v, w, g, gl), rfl, (by unfold T_Md_frost_g; rw [if_pos c_1]), by rw [ht]; exact hP, va_K.moved hW.alike hK, by rw [hAe]; exact hD⟩, by rw [hAe]; exact hS.F ht⟩) (by rw [hAe]; exact hS.2.2) d_Md_frost_24
  · by_cases c_2 : 499 < p_0
    · refine hb_ti 0 (by unfold f_Md_in; rw [if_neg c_1, if_pos c_2]; first | done | rfl) ?_
      refine lv_if_eq (tgt := 23) hx hb d_Md_frost_11 (by decide) (fun _ => ?_) (fun h => absurd (by decide +kernel) h)
      refine lv_iconst (v := (-1)) hx hb d_Md_frost_23 (by decide +kernel) ?_
      exact W.iret (v := (-1)) hx hb hr (fun t ht hW => ⟨⟨(-1), (v, w, g, gl), rfl, (by unfold T_Md_frost_g; rw [if_neg c_1, if_pos c_2]), by rw [ht]; exact hP, va_K.moved hW.alike hK, by rw [hAe]; exact hD⟩, by rw [hAe]; exact hS.F ht⟩) (by rw [hAe]; exact hS.2.2) d_Md_frost_24
    · refine hb_ti 1 (by unfold f_Md_in; rw [if_neg c_1, if_neg c_2]; first | done | rfl) ?_
      refine lv_if_eq (tgt := 23) hx hb d_Md_frost_11 (by decide) (fun h => absurd h (by decide +kernel)) (fun _ => ?_)
      refine lv_iload_n hx hb d_Md_frost_14 rfl (lv_at hl 2 rfl) ?_
      refine lv_iconst (v := 0) hx hb d_Md_frost_15 (by decide +kernel) ?_
      refine lv_iconst (v := 1) hx hb d_Md_frost_16 (by decide +kernel) ?_
      refine vp_callSi (va_Run.run (va_runS (As := [.int p_1, .int 0, .int 1]) (rest := []) ⟨hx, hb, hml, hown, htb⟩ (c_Md_in l p_1 0 1) (cwS 3 htb (gd_S tw_4 tw_5 tw_3 tw_2) rfl rfl rfl (by decide +kernel) ⟨Nat.le_of_ble_eq_true rfl, Nat.le_of_ble_eq_true rfl⟩) ⟨fun _ _ _ _ h => h, fun U _ _ => ⟨rfl, trivial⟩⟩ rfl rfl hl.1 rfl (lv_room (Nat.le_of_ble_eq_true rfl)) d_Md_frost_17 ⟨Nat.le_of_ble_eq_true rfl, Nat.le_of_ble_eq_true rfl⟩)) (fun r er => ?_)
      subst er
      by_cases c_3 : p_1 < 0
      · refine hb_ti 0 (by unfold f_Md_in; rw [if_pos c_3]; first | done | rfl) ?_
        refine lv_if_ne (tgt := 25) hx hb d_Md_frost_20 (by decide) (fun h => absurd (by decide +kernel) h) (fun _ => ?_)
        refine lv_iconst (v := (-1)) hx hb d_Md_frost_23 (by decide +kernel) ?_
        exact W.iret (v := (-1)) hx hb hr (fun t ht hW => ⟨⟨(-1), (v, w, g, gl), rfl, (by unfold T_Md_frost_g; rw [if_neg c_1, if_neg c_2, if_pos c_3]), by rw [ht]; exact hP, va_K.moved hW.alike hK, by rw [hAe]; exact hD⟩, by rw [hAe]; exact hS.F ht⟩) (by rw [hAe]; exact hS.2.2) d_Md_frost_24
      · by_cases c_4 : 1 < p_1
        · refine hb_ti 0 (by unfold f_Md_in; rw [if_neg c_3, if_pos c_4]; first | done | rfl) ?_
          refine lv_if_ne (tgt := 25) hx hb d_Md_frost_20 (by decide) (fun h => absurd (by decide +kernel) h) (fun _ => ?_)
          refine lv_iconst (v := (-1)) hx hb d_Md_frost_23 (by decide +kernel) ?_
          exact W.iret (v := (-1)) hx hb hr (fun t ht hW => ⟨⟨(-1), (v, w, g, gl), rfl, (by unfold T_Md_frost_g; rw [if_neg c_1, if_neg c_2, if_neg c_3, if_pos c_4]), by rw [ht]; exact hP, va_K.moved hW.alike hK, by rw [hAe]; exact hD⟩, by rw [hAe]; exact hS.F ht⟩) (by rw [hAe]; exact hS.2.2) d_Md_frost_24
        · refine hb_ti 1 (by unfold f_Md_in; rw [if_neg c_3, if_neg c_4]; first | done | rfl) ?_
          refine lv_if_ne (tgt := 25) hx hb d_Md_frost_20 (by decide) (fun _ => ?_) (fun h => absurd h (by decide +kernel))
          refine lv_aload_n hx hb d_Md_frost_25 rfl (lv_at hl 0 rfl) ?_
          refine va_get (D := (dC, dI)) (ci := 7) (v := .ref (a 5)) (C := R_Md) (T := F_Md) (N := 64) hx hb htb i_Md hown hK hP 0 rfl rfl 8 (by decide) (htb (.fieldLink R_Md 49 "WaterMenModel" "frosts" "[Z") tw_26) (fun _ h9 => h9) rfl d_Md_frost_26 ?_
          refine lv_iload_n hx hb d_Md_frost_29 rfl (lv_at hl 1 rfl) ?_
          refine va_zald hx hb hK hP 5 4 rfl rfl (by have z0 : (0 : Int32).toInt = 0 := (by decide +kernel); have z1 : (499 : Int32).toInt = 499 := (by decide +kernel); have z2 : (720 : Int32).toInt = 720 := (by decide +kernel); have z3 : (359999 : Int32).toInt = 359999 := (by decide +kernel); have r0 := fb_rng (p_0); have r1 := fb_rng (v 1); have e0 := c_2; rw [Int32.lt_iff_toInt_lt] at e0; have e1 := as_0; rw [Int32.lt_iff_toInt_lt] at e1; have e2 := as_1; rw [Int32.lt_iff_toInt_lt] at e2; have s0 := hb_divI (x := (v 1)) (y := (720 : Int32)) (by (try rw [show (720 : Int32).toInt = 720 from (by decide +kernel)]); omega) (by (try rw [show (720 : Int32).toInt = 720 from (by decide +kernel)]); omega); rw [show (720 : Int32).toInt = 720 from (by decide +kernel)] at s0; have e3 := c_1; rw [Int32.lt_iff_toInt_lt] at e3; rw [vp_in_iff]; omega) d_Md_frost_30 ?_
          refine lv_if_eq (tgt := 38) hx hb d_Md_frost_31 (by decide) (fun c_5 => ?_) (fun c_5 => ?_)
          · refine lv_iconst (v := 0) hx hb d_Md_frost_38 (by decide +kernel) ?_
            refine lv_istore_n (lv' := [(3, .int 0), (0, .ref (a 0)), (1, .int p_0), (2, .int p_1)]) hx hb d_Md_frost_39 rfl hl (by decide) rfl (fun ls hl => ?_)
            refine lv_aload_n hx hb d_Md_frost_40 rfl (lv_at hl 1 rfl) ?_
            refine va_get (D := (dC, dI)) (ci := 7) (v := .ref (a 5)) (C := R_Md) (T := F_Md) (N := 64) hx hb htb i_Md hown hK hP 0 rfl rfl 8 (by decide) (htb (.fieldLink R_Md 49 "WaterMenModel" "frosts" "[Z") tw_26) (fun _ h9 => h9) rfl d_Md_frost_41 ?_
            refine lv_iload_n hx hb d_Md_frost_44 rfl (lv_at hl 2 rfl) ?_
            refine lv_iload_n hx hb d_Md_frost_45 rfl (lv_at hl 3 rfl) ?_
            refine lv_iconst (v := 1) hx hb d_Md_frost_46 (by decide +kernel) ?_
            refine lv_icmp_ne (tgt := 54) hx hb d_Md_frost_47 (by decide) (fun c_6 => ?_) (fun c_6 => ?_)
            · refine lv_iconst (v := 0) hx hb d_Md_frost_54 (by decide +kernel) ?_
              refine va_zast hx hb hK hP hD hS 5 4 rfl rfl (by have z0 : (0 : Int32).toInt = 0 := (by decide +kernel); have z1 : (499 : Int32).toInt = 499 := (by decide +kernel); have z2 : (720 : Int32).toInt = 720 := (by decide +kernel); have z3 : (359999 : Int32).toInt = 359999 := (by decide +kernel); have r0 := fb_rng (p_0); have r1 := fb_rng (v 1); have e0 := c_2; rw [Int32.lt_iff_toInt_lt] at e0; have e1 := as_0; rw [Int32.lt_iff_toInt_lt] at e1; have e2 := as_1; rw [Int32.lt_iff_toInt_lt] at e2; have s0 := hb_divI (x := (v 1)) (y := (720 : Int32)) (by (try rw [show (720 : Int32).toInt = 720 from (by decide +kernel)]); omega) (by (try rw [show (720 : Int32).toInt = 720 from (by decide +kernel)]); omega); rw [show (720 : Int32).toInt = 720 from (by decide +kernel)] at s0; have e3 := c_1; rw [Int32.lt_iff_toInt_lt] at e3; rw [vp_in_iff]; omega) d_Md_frost_55 (fun H locs hP hD hS => ?_)
              have hP : va_P (dC, dI) vwCl (MG a k v w (va_up g 5 (upd (g 5) (p_0 : Int32).toNatClampNeg (vp_nar .boolean 0))) gl) H := hP
              have hD : va_D A (MG a k v w (va_up g 5 (upd (g 5) (p_0 : Int32).toNatClampNeg (vp_nar .boolean 0))) gl) := hD
              refine lv_iload_n hx hb d_Md_frost_56 rfl (lv_at hl 0 rfl) ?_
              exact W.iret (v := 0) hx hb hr (fun t ht hW => ⟨⟨0, (v, w, (va_up g 5 (upd (g 5) (p_0 : Int32).toNatClampNeg (vp_nar .boolean 0))), gl), rfl, (by unfold T_Md_frost_g; rw [if_neg c_1, if_neg c_2, if_neg c_3, if_neg c_4, if_pos c_5, if_neg c_6]), by rw [ht]; exact hP, va_K.moved hW.alike hK, by rw [hAe]; exact hD⟩, by rw [hAe]; exact hS.F ht⟩) (by rw [hAe]; exact hS.2.2) d_Md_frost_57
            · refine lv_iconst (v := 1) hx hb d_Md_frost_50 (by decide +kernel) ?_
              refine lv_goto (tgt := 55) hx hb d_Md_frost_51 (by decide) ?_
              refine va_zast hx hb hK hP hD hS 5 4 rfl rfl (by have z0 : (0 : Int32).toInt = 0 := (by decide +kernel); have z1 : (499 : Int32).toInt = 499 := (by decide +kernel); have z2 : (720 : Int32).toInt = 720 := (by decide +kernel); have z3 : (359999 : Int32).toInt = 359999 := (by decide +kernel); have r0 := fb_rng (p_0); have r1 := fb_rng (v 1); have e0 := c_2; rw [Int32.lt_iff_toInt_lt] at e0; have e1 := as_0; rw [Int32.lt_iff_toInt_lt] at e1; have e2 := as_1; rw [Int32.lt_iff_toInt_lt] at e2; have s0 := hb_divI (x := (v 1)) (y := (720 : Int32)) (by (try rw [show (720 : Int32).toInt = 720 from (by decide +kernel)]); omega) (by (try rw [show (720 : Int32).toInt = 720 from (by decide +kernel)]); omega); rw [show (720 : Int32).toInt = 720 from (by decide +kernel)] at s0; have e3 := c_1; rw [Int32.lt_iff_toInt_lt] at e3; rw [vp_in_iff]; omega) d_Md_frost_55 (fun H locs hP hD hS => ?_)
              have hP : va_P (dC, dI) vwCl (MG a k v w (va_up g 5 (upd (g 5) (p_0 : Int32).toNatClampNeg (vp_nar .boolean 1))) gl) H := hP
              have hD : va_D A (MG a k v w (va_up g 5 (upd (g 5) (p_0 : Int32).toNatClampNeg (vp_nar .boolean 1))) gl) := hD
              refine lv_iload_n hx hb d_Md_frost_56 rfl (lv_at hl 0 rfl) ?_
              exact W.iret (v := 0) hx hb hr (fun t ht hW => ⟨⟨0, (v, w, (va_up g 5 (upd (g 5) (p_0 : Int32).toNatClampNeg (vp_nar .boolean 1))), gl), rfl, (by unfold T_Md_frost_g; rw [if_neg c_1, if_neg c_2, if_neg c_3, if_neg c_4, if_pos c_5, if_pos c_6]), by rw [ht]; exact hP, va_K.moved hW.alike hK, by rw [hAe]; exact hD⟩, by rw [hAe]; exact hS.F ht⟩) (by rw [hAe]; exact hS.2.2) d_Md_frost_57
          · refine lv_iconst (v := 1) hx hb d_Md_frost_34 (by decide +kernel) ?_
            refine lv_goto (tgt := 39) hx hb d_Md_frost_35 (by decide) ?_
            refine lv_istore_n (lv' := [(3, .int 1), (0, .ref (a 0)), (1, .int p_0), (2, .int p_1)]) hx hb d_Md_frost_39 rfl hl (by decide) rfl (fun ls hl => ?_)
            refine lv_aload_n hx hb d_Md_frost_40 rfl (lv_at hl 1 rfl) ?_
            refine va_get (D := (dC, dI)) (ci := 7) (v := .ref (a 5)) (C := R_Md) (T := F_Md) (N := 64) hx hb htb i_Md hown hK hP 0 rfl rfl 8 (by decide) (htb (.fieldLink R_Md 49 "WaterMenModel" "frosts" "[Z") tw_26) (fun _ h9 => h9) rfl d_Md_frost_41 ?_
            refine lv_iload_n hx hb d_Md_frost_44 rfl (lv_at hl 2 rfl) ?_
            refine lv_iload_n hx hb d_Md_frost_45 rfl (lv_at hl 3 rfl) ?_
            refine lv_iconst (v := 1) hx hb d_Md_frost_46 (by decide +kernel) ?_
            refine lv_icmp_ne (tgt := 54) hx hb d_Md_frost_47 (by decide) (fun c_7 => ?_) (fun c_7 => ?_)
            · refine lv_iconst (v := 0) hx hb d_Md_frost_54 (by decide +kernel) ?_
              refine va_zast hx hb hK hP hD hS 5 4 rfl rfl (by have z0 : (0 : Int32).toInt = 0 := (by decide +kernel); have z1 : (499 : Int32).toInt = 499 := (by decide +kernel); have z2 : (720 : Int32).toInt = 720 := (by decide +kernel); have z3 : (359999 : Int32).toInt = 359999 := (by decide +kernel); have r0 := fb_rng (p_0); have r1 := fb_rng (v 1); have e0 := c_2; rw [Int32.lt_iff_toInt_lt] at e0; have e1 := as_0; rw [Int32.lt_iff_toInt_lt] at e1; have e2 := as_1; rw [Int32.lt_iff_toInt_lt] at e2; have s0 := hb_divI (x := (v 1)) (y := (720 : Int32)) (by (try rw [show (720 : Int32).toInt = 720 from (by decide +kernel)]); omega) (by (try rw [show (720 : Int32).toInt = 720 from (by decide +kernel)]); omega); rw [show (720 : Int32).toInt = 720 from (by decide +kernel)] at s0; have e3 := c_1; rw [Int32.lt_iff_toInt_lt] at e3; rw [vp_in_iff]; omega) d_Md_frost_55 (fun H locs hP hD hS => ?_)
              have hP : va_P (dC, dI) vwCl (MG a k v w (va_up g 5 (upd (g 5) (p_0 : Int32).toNatClampNeg (vp_nar .boolean 0))) gl) H := hP
              have hD : va_D A (MG a k v w (va_up g 5 (upd (g 5) (p_0 : Int32).toNatClampNeg (vp_nar .boolean 0))) gl) := hD
              refine lv_iload_n hx hb d_Md_frost_56 rfl (lv_at hl 0 rfl) ?_
              exact W.iret (v := 1) hx hb hr (fun t ht hW => ⟨⟨1, (v, w, (va_up g 5 (upd (g 5) (p_0 : Int32).toNatClampNeg (vp_nar .boolean 0))), gl), rfl, (by unfold T_Md_frost_g; rw [if_neg c_1, if_neg c_2, if_neg c_3, if_neg c_4, if_neg c_5, if_neg c_7]), by rw [ht]; exact hP, va_K.moved hW.alike hK, by rw [hAe]; exact hD⟩, by rw [hAe]; exact hS.F ht⟩) (by rw [hAe]; exact hS.2.2) d_Md_frost_57
            · refine lv_iconst (v := 1) hx hb d_Md_frost_50 (by decide +kernel) ?_
              refine lv_goto (tgt := 55) hx hb d_Md_frost_51 (by decide) ?_
              refine va_zast hx hb hK hP hD hS 5 4 rfl rfl (by have z0 : (0 : Int32).toInt = 0 := (by decide +kernel); have z1 : (499 : Int32).toInt = 499 := (by decide +kernel); have z2 : (720 : Int32).toInt = 720 := (by decide +kernel); have z3 : (359999 : Int32).toInt = 359999 := (by decide +kernel); have r0 := fb_rng (p_0); have r1 := fb_rng (v 1); have e0 := c_2; rw [Int32.lt_iff_toInt_lt] at e0; have e1 := as_0; rw [Int32.lt_iff_toInt_lt] at e1; have e2 := as_1; rw [Int32.lt_iff_toInt_lt] at e2; have s0 := hb_divI (x := (v 1)) (y := (720 : Int32)) (by (try rw [show (720 : Int32).toInt = 720 from (by decide +kernel)]); omega) (by (try rw [show (720 : Int32).toInt = 720 from (by decide +kernel)]); omega); rw [show (720 : Int32).toInt = 720 from (by decide +kernel)] at s0; have e3 := c_1; rw [Int32.lt_iff_toInt_lt] at e3; rw [vp_in_iff]; omega) d_Md_frost_55 (fun H locs hP hD hS => ?_)
              have hP : va_P (dC, dI) vwCl (MG a k v w (va_up g 5 (upd (g 5) (p_0 : Int32).toNatClampNeg (vp_nar .boolean 1))) gl) H := hP
              have hD : va_D A (MG a k v w (va_up g 5 (upd (g 5) (p_0 : Int32).toNatClampNeg (vp_nar .boolean 1))) gl) := hD
              refine lv_iload_n hx hb d_Md_frost_56 rfl (lv_at hl 0 rfl) ?_
              exact W.iret (v := 1) hx hb hr (fun t ht hW => ⟨⟨1, (v, w, (va_up g 5 (upd (g 5) (p_0 : Int32).toNatClampNeg (vp_nar .boolean 1))), gl), rfl, (by unfold T_Md_frost_g; rw [if_neg c_1, if_neg c_2, if_neg c_3, if_neg c_4, if_neg c_5, if_pos c_7]), by rw [ht]; exact hP, va_K.moved hW.alike hK, by rw [hAe]; exact hD⟩, by rw [hAe]; exact hS.F ht⟩) (by rw [hAe]; exact hS.2.2) d_Md_frost_57
