def f_Md_pensioner (p_0 : Int32) (p_1 : Int32) : Int32 := if p_0 < 0 then ((-1)) else ((-1))
set_option maxHeartbeats 4000000 in
set_option maxRecDepth 100000 in
theorem c_Md_pensioner (l : Launch) (dC : Nat → ClassId) (dI : Nat → Nat → Nat) (a : Nat → Nat) (k : Nat → ClassId)  (p_0 : Int32) (p_1 : Int32)  : Met l y_Md_pensioner (.code y_Md_pensioner b_Md_pensioner 3 (some .int) :: TB) ({ frames := 1, cells := 0, slots := 0, locals := 22 }) (va_Pc [.ref (a 0), .int p_0, .int p_1] (PR dC dI (MW a k) (MT k))) (vp_Si (fun r => r = f_Md_pensioner p_0 p_1)) 0 0 (fun _ => False) := by
  refine Met.ofW (cc := b_Md_pensioner) (maxL := 3) (ret := (some .int)) (by decide) rfl ?_
  intro p e s m args below meth c s₁ B hml hv
  obtain ⟨rfl, hP, hK, hN⟩ := hv
  have hx := B.exec
  have hb := B.bytes
  have hr := B.returns
  have hts := atoms_spec (ws := (.code y_Md_pensioner b_Md_pensioner 3 (some .int) :: TB)) B.pre
  have htb := fun w (h : w ∈ TB) => hts w (List.mem_cons_of_mem _ h)
  have hown : s.vm.findClass R_Md = some m.cls := findClass_of_methodNamed B.named
  have hlocks := B.notSynchronized
  have hl := lv_entry ([.ref (a 0), .int p_0, .int p_1]) (n := 3) (Nat.le_of_ble_eq_true rfl)
  rw [lg_entry_eq]
  generalize (lg_sl ([.ref (a 0), .int p_0, .int p_1]) ++ List.replicate (3 - (lg_sl ([.ref (a 0), .int p_0, .int p_1])).length) Slot.unset).toArray = ls at hl ⊢
  have hl : lv_has ls 3 [(0, .ref (a 0)), (1, .int p_0), (2, .int p_1)] := hl
  refine lv_iload_n hx hb d_Md_pensioner_0 rfl (lv_at hl 1 rfl) ?_
  refine lv_iconst (v := 0) hx hb d_Md_pensioner_1 (by decide +kernel) ?_
  refine lv_aload_n hx hb d_Md_pensioner_2 rfl (lv_at hl 0 rfl) ?_
  refine va_get (D := (dC, dI)) (ci := 7) (v := .int 0) (C := R_Md) (T := F_Md) (N := 64) hx hb htb i_Md hown hK hP 0 rfl rfl 60 (by decide) (htb (.fieldLink R_Md 323 "WaterMenModel" "pensioners" "I") tw_376) (fun _ h9 => h9) rfl d_Md_pensioner_3 ?_
  refine lv_iconst (v := 1) hx hb d_Md_pensioner_6 (by decide +kernel) ?_
  refine lv_isub hx hb d_Md_pensioner_7 ?_
  refine hb_ti (-1) (by decide +kernel) ?_
  refine vp_callSi (va_Run.run (va_runS (As := [.int p_0, .int 0, .int (-1)]) (rest := []) ⟨hx, hb, hml, hown, htb⟩ (c_Md_in l p_0 0 (-1)) (cwS 3 htb (gd_S tw_297 tw_298 tw_296 tw_295) rfl rfl rfl (by decide +kernel) ⟨Nat.le_of_ble_eq_true rfl, Nat.le_of_ble_eq_true rfl⟩) ⟨fun _ _ _ _ h => h, fun U _ _ => ⟨rfl, trivial⟩⟩ rfl rfl hl.1 rfl (lv_room (Nat.le_of_ble_eq_true rfl)) d_Md_pensioner_8 ⟨Nat.le_of_ble_eq_true rfl, Nat.le_of_ble_eq_true rfl⟩)) (fun r er => ?_)
  subst er
  by_cases c_1 : p_0 < 0
  · refine hb_ti 0 (by unfold f_Md_in; rw [if_pos c_1]) ?_
    refine lv_if_ne (tgt := 16) hx hb d_Md_pensioner_11 (by decide) (fun h => absurd (by decide +kernel) h) (fun _ => ?_)
    refine lv_iconst (v := (-1)) hx hb d_Md_pensioner_14 (by decide +kernel) ?_
    exact W.iret (v := (-1)) hx hb hr (fun t ht hW => ⟨(-1), rfl, (by unfold f_Md_pensioner; rw [if_pos c_1]), ht⟩) t_nil d_Md_pensioner_15
  · refine hb_ti 0 (by unfold f_Md_in; rw [if_neg c_1, if_pos (show (-1) < p_0 from by have e0 := c_1; rw [Int32.lt_iff_toInt_lt] at e0; have z0 : ((-1) : Int32).toInt = -1 := (by decide +kernel); have z1 : (0 : Int32).toInt = 0 := (by decide +kernel); rw [Int32.lt_iff_toInt_lt]; omega)]) ?_
    refine lv_if_ne (tgt := 16) hx hb d_Md_pensioner_11 (by decide) (fun h => absurd (by decide +kernel) h) (fun _ => ?_)
    refine lv_iconst (v := (-1)) hx hb d_Md_pensioner_14 (by decide +kernel) ?_
    exact W.iret (v := (-1)) hx hb hr (fun t ht hW => ⟨(-1), rfl, (by unfold f_Md_pensioner; rw [if_neg c_1]), ht⟩) t_nil d_Md_pensioner_15
def f_Md_menAs (p_0 : Int32) : Int32 := if 0 = p_0 then (40) else (0)
set_option maxHeartbeats 4000000 in
set_option maxRecDepth 100000 in
theorem c_Md_menAs (l : Launch) (dC : Nat → ClassId) (dI : Nat → Nat → Nat) (a : Nat → Nat) (k : Nat → ClassId)  (p_0 : Int32)  : Met l y_Md_menAs (.code y_Md_menAs b_Md_menAs 4 (some .int) :: TB) ({ frames := 0, cells := 0, slots := 0, locals := 0 }) (va_Pc [.ref (a 0), .int p_0] (PR dC dI (MW a k) (MT k))) (vp_Si (fun r => r = f_Md_menAs p_0)) 0 0 (fun _ => False) := by
  refine Met.ofW (cc := b_Md_menAs) (maxL := 4) (ret := (some .int)) (by decide) rfl ?_
  intro p e s m args below meth c s₁ B hml hv
  obtain ⟨rfl, hP, hK, hN⟩ := hv
  have hx := B.exec
  have hb := B.bytes
  have hr := B.returns
  have hts := atoms_spec (ws := (.code y_Md_menAs b_Md_menAs 4 (some .int) :: TB)) B.pre
  have htb := fun w (h : w ∈ TB) => hts w (List.mem_cons_of_mem _ h)
  have hown : s.vm.findClass R_Md = some m.cls := findClass_of_methodNamed B.named
  have hlocks := B.notSynchronized
  have hl := lv_entry ([.ref (a 0), .int p_0]) (n := 4) (Nat.le_of_ble_eq_true rfl)
  rw [lg_entry_eq]
  generalize (lg_sl ([.ref (a 0), .int p_0]) ++ List.replicate (4 - (lg_sl ([.ref (a 0), .int p_0])).length) Slot.unset).toArray = ls at hl ⊢
  have hl : lv_has ls 4 [(0, .ref (a 0)), (1, .int p_0)] := hl
  refine lv_iconst (v := 0) hx hb d_Md_menAs_0 (by decide +kernel) ?_
  refine lv_istore_n (lv' := [(2, .int 0), (0, .ref (a 0)), (1, .int p_0)]) hx hb d_Md_menAs_1 rfl hl (by decide) rfl (fun ls hl => ?_)
  refine lv_iconst (v := 0) hx hb d_Md_menAs_2 (by decide +kernel) ?_
  refine lv_istore_n (lv' := [(3, .int 0), (2, .int 0), (0, .ref (a 0)), (1, .int p_0)]) hx hb d_Md_menAs_3 rfl hl (by decide) rfl (fun ls hl => ?_)
  refine lv_iload_n hx hb d_Md_menAs_4 rfl (lv_at hl 0 rfl) ?_
  refine lv_bipush (v := 40) hx hb d_Md_menAs_5 (by decide +kernel) ?_
  refine lv_icmp_ge (tgt := 34) hx hb d_Md_menAs_7 (by decide) (fun h => absurd h (by decide +kernel)) (fun _ => ?_)
  refine lv_iload_n hx hb d_Md_menAs_10 rfl (lv_at hl 1 rfl) ?_
  refine lv_aload_n hx hb d_Md_menAs_11 rfl (lv_at hl 2 rfl) ?_
  refine va_get (D := (dC, dI)) (ci := 7) (v := .ref (a 6)) (C := R_Md) (T := F_Md) (N := 64) hx hb htb i_Md hown hK hP 0 rfl rfl 9 (by decide) (htb (.fieldLink R_Md 58 "WaterMenModel" "state" "[I") tw_11) (fun _ h9 => h9) rfl d_Md_menAs_12 ?_
  refine lv_iload_n hx hb d_Md_menAs_15 rfl (lv_at hl 0 rfl) ?_
  refine va_iald hx hb hK hP 6 5 rfl rfl (by unfold vp_in; decide +kernel) d_Md_menAs_16 ?_
  refine hb_ti 0 rfl ?_
  refine lv_iload_n hx hb d_Md_menAs_17 rfl (lv_at hl 3 rfl) ?_
  refine lv_icmp_ne (tgt := 25) hx hb d_Md_menAs_18 (by decide) (fun c_1 => ?_) (fun c_1 => ?_)
  · refine lv_iconst (v := 0) hx hb d_Md_menAs_25 (by decide +kernel) ?_
    refine lv_iadd hx hb d_Md_menAs_26 ?_
    refine hb_ti 0 (by decide +kernel) ?_
    refine lv_istore_n (lv' := [(2, .int 0), (3, .int 0), (0, .ref (a 0)), (1, .int p_0)]) hx hb d_Md_menAs_27 rfl hl (by decide) rfl (fun ls hl => ?_)
    refine lv_iinc (v := 1) (lv' := [(3, .int 1), (2, .int 0), (0, .ref (a 0)), (1, .int p_0)]) hx hb d_Md_menAs_28 hl (k := 1) rfl (by decide +kernel) (by decide) rfl (fun ls hl => ?_)
    refine lv_goto (tgt := 4) hx hb d_Md_menAs_31 (by decide) ?_
    refine lv_iload_n hx hb d_Md_menAs_4 rfl (lv_at hl 0 rfl) ?_
    refine lv_bipush (v := 40) hx hb d_Md_menAs_5 (by decide +kernel) ?_
    refine lv_icmp_ge (tgt := 34) hx hb d_Md_menAs_7 (by decide) (fun h => absurd h (by decide +kernel)) (fun _ => ?_)
    refine lv_iload_n hx hb d_Md_menAs_10 rfl (lv_at hl 1 rfl) ?_
    refine lv_aload_n hx hb d_Md_menAs_11 rfl (lv_at hl 2 rfl) ?_
    refine va_get (D := (dC, dI)) (ci := 7) (v := .ref (a 6)) (C := R_Md) (T := F_Md) (N := 64) hx hb htb i_Md hown hK hP 0 rfl rfl 9 (by decide) (htb (.fieldLink R_Md 58 "WaterMenModel" "state" "[I") tw_11) (fun _ h9 => h9) rfl d_Md_menAs_12 ?_
    refine lv_iload_n hx hb d_Md_menAs_15 rfl (lv_at hl 0 rfl) ?_
    refine va_iald hx hb hK hP 6 5 rfl rfl (by unfold vp_in; decide +kernel) d_Md_menAs_16 ?_
    refine hb_ti 0 rfl ?_
    refine lv_iload_n hx hb d_Md_menAs_17 rfl (lv_at hl 3 rfl) ?_
    refine lv_icmp_ne (tgt := 25) hx hb d_Md_menAs_18 (by decide) (fun _ => ?_) (fun h => absurd h c_1)
    refine lv_iconst (v := 0) hx hb d_Md_menAs_25 (by decide +kernel) ?_
    refine lv_iadd hx hb d_Md_menAs_26 ?_
    refine hb_ti 0 (by decide +kernel) ?_
    refine lv_istore_n (lv' := [(2, .int 0), (3, .int 1), (0, .ref (a 0)), (1, .int p_0)]) hx hb d_Md_menAs_27 rfl hl (by decide) rfl (fun ls hl => ?_)
    refine lv_iinc (v := 2) (lv' := [(3, .int 2), (2, .int 0), (0, .ref (a 0)), (1, .int p_0)]) hx hb d_Md_menAs_28 hl (k := 1) rfl (by decide +kernel) (by decide) rfl (fun ls hl => ?_)
    refine lv_goto (tgt := 4) hx hb d_Md_menAs_31 (by decide) ?_
    refine lv_iload_n hx hb d_Md_menAs_4 rfl (lv_at hl 0 rfl) ?_
    refine lv_bipush (v := 40) hx hb d_Md_menAs_5 (by decide +kernel) ?_
    refine lv_icmp_ge (tgt := 34) hx hb d_Md_menAs_7 (by decide) (fun h => absurd h (by decide +kernel)) (fun _ => ?_)
    refine lv_iload_n hx hb d_Md_menAs_10 rfl (lv_at hl 1 rfl) ?_
    refine lv_aload_n hx hb d_Md_menAs_11 rfl (lv_at hl 2 rfl) ?_
    refine va_get (D := (dC, dI)) (ci := 7) (v := .ref (a 6)) (C := R_Md) (T := F_Md) (N := 64) hx hb htb i_Md hown hK hP 0 rfl rfl 9 (by decide) (htb (.fieldLink R_Md 58 "WaterMenModel" "state" "[I") tw_11) (fun _ h9 => h9) rfl d_Md_menAs_12 ?_
    refine lv_iload_n hx hb d_Md_menAs_15 rfl (lv_at hl 0 rfl) ?_
    refine va_iald hx hb hK hP 6 5 rfl rfl (by unfold vp_in; decide +kernel) d_Md_menAs_16 ?_
    refine hb_ti 0 rfl ?_
    refine lv_iload_n hx hb d_Md_menAs_17 rfl (lv_at hl 3 rfl) ?_
    refine lv_icmp_ne (tgt := 25) hx hb d_Md_menAs_18 (by decide) (fun _ => ?_) (fun h => absurd h c_1)
    refine lv_iconst (v := 0) hx hb d_Md_menAs_25 (by decide +kernel) ?_
    refine lv_iadd hx hb d_Md_menAs_26 ?_
    refine hb_ti 0 (by decide +kernel) ?_
    refine lv_istore_n (lv' := [(2, .int 0), (3, .int 2), (0, .ref (a 0)), (1, .int p_0)]) hx hb d_Md_menAs_27 rfl hl (by decide) rfl (fun ls hl => ?_)
    refine lv_iinc (v := 3) (lv' := [(3, .int 3), (2, .int 0), (0, .ref (a 0)), (1, .int p_0)]) hx hb d_Md_menAs_28 hl (k := 1) rfl (by decide +kernel) (by decide) rfl (fun ls hl => ?_)
    refine lv_goto (tgt := 4) hx hb d_Md_menAs_31 (by decide) ?_
    refine lv_iload_n hx hb d_Md_menAs_4 rfl (lv_at hl 0 rfl) ?_
    refine lv_bipush (v := 40) hx hb d_Md_menAs_5 (by decide +kernel) ?_
    refine lv_icmp_ge (tgt := 34) hx hb d_Md_menAs_7 (by decide) (fun h => absurd h (by decide +kernel)) (fun _ => ?_)
    refine lv_iload_n hx hb d_Md_menAs_10 rfl (lv_at hl 1 rfl) ?_
    refine lv_aload_n hx hb d_Md_menAs_11 rfl (lv_at hl 2 rfl) ?_
    refine va_get (D := (dC, dI)) (ci := 7) (v := .ref (a 6)) (C := R_Md) (T := F_Md) (N := 64) hx hb htb i_Md hown hK hP 0 rfl rfl 9 (by decide) (htb (.fieldLink R_Md 58 "WaterMenModel" "state" "[I") tw_11) (fun _ h9 => h9) rfl d_Md_menAs_12 ?_
    refine lv_iload_n hx hb d_Md_menAs_15 rfl (lv_at hl 0 rfl) ?_
    refine va_iald hx hb hK hP 6 5 rfl rfl (by unfold vp_in; decide +kernel) d_Md_menAs_16 ?_
    refine hb_ti 0 rfl ?_
    refine lv_iload_n hx hb d_Md_menAs_17 rfl (lv_at hl 3 rfl) ?_
    refine lv_icmp_ne (tgt := 25) hx hb d_Md_menAs_18 (by decide) (fun _ => ?_) (fun h => absurd h c_1)
    refine lv_iconst (v := 0) hx hb d_Md_menAs_25 (by decide +kernel) ?_
    refine lv_iadd hx hb d_Md_menAs_26 ?_
    refine hb_ti 0 (by decide +kernel) ?_
    refine lv_istore_n (lv' := [(2, .int 0), (3, .int 3), (0, .ref (a 0)), (1, .int p_0)]) hx hb d_Md_menAs_27 rfl hl (by decide) rfl (fun ls hl => ?_)
    refine lv_iinc (v := 4) (lv' := [(3, .int 4), (2, .int 0), (0, .ref (a 0)), (1, .int p_0)]) hx hb d_Md_menAs_28 hl (k := 1) rfl (by decide +kernel) (by decide) rfl (fun ls hl => ?_)
    refine lv_goto (tgt := 4) hx hb d_Md_menAs_31 (by decide) ?_
    refine lv_iload_n hx hb d_Md_menAs_4 rfl (lv_at hl 0 rfl) ?_
    refine lv_bipush (v := 40) hx hb d_Md_menAs_5 (by decide +kernel) ?_
    refine lv_icmp_ge (tgt := 34) hx hb d_Md_menAs_7 (by decide) (fun h => absurd h (by decide +kernel)) (fun _ => ?_)
    refine lv_iload_n hx hb d_Md_menAs_10 rfl (lv_at hl 1 rfl) ?_
    refine lv_aload_n hx hb d_Md_menAs_11 rfl (lv_at hl 2 rfl) ?_
    refine va_get (D := (dC, dI)) (ci := 7) (v := .ref (a 6)) (C := R_Md) (T := F_Md) (N := 64) hx hb htb i_Md hown hK hP 0 rfl rfl 9 (by decide) (htb (.fieldLink R_Md 58 "WaterMenModel" "state" "[I") tw_11) (fun _ h9 => h9) rfl d_Md_menAs_12 ?_
    refine lv_iload_n hx hb d_Md_menAs_15 rfl (lv_at hl 0 rfl) ?_
    refine va_iald hx hb hK hP 6 5 rfl rfl (by unfold vp_in; decide +kernel) d_Md_menAs_16 ?_
    refine hb_ti 0 rfl ?_
    refine lv_iload_n hx hb d_Md_menAs_17 rfl (lv_at hl 3 rfl) ?_
    refine lv_icmp_ne (tgt := 25) hx hb d_Md_menAs_18 (by decide) (fun _ => ?_) (fun h => absurd h c_1)
    refine lv_iconst (v := 0) hx hb d_Md_menAs_25 (by decide +kernel) ?_
    refine lv_iadd hx hb d_Md_menAs_26 ?_
    refine hb_ti 0 (by decide +kernel) ?_
    refine lv_istore_n (lv' := [(2, .int 0), (3, .int 4), (0, .ref (a 0)), (1, .int p_0)]) hx hb d_Md_menAs_27 rfl hl (by decide) rfl (fun ls hl => ?_)
    refine lv_iinc (v := 5) (lv' := [(3, .int 5), (2, .int 0), (0, .ref (a 0)), (1, .int p_0)]) hx hb d_Md_menAs_28 hl (k := 1) rfl (by decide +kernel) (by decide) rfl (fun ls hl => ?_)
    refine lv_goto (tgt := 4) hx hb d_Md_menAs_31 (by decide) ?_
    refine lv_iload_n hx hb d_Md_menAs_4 rfl (lv_at hl 0 rfl) ?_
    refine lv_bipush (v := 40) hx hb d_Md_menAs_5 (by decide +kernel) ?_
    refine lv_icmp_ge (tgt := 34) hx hb d_Md_menAs_7 (by decide) (fun h => absurd h (by decide +kernel)) (fun _ => ?_)
    refine lv_iload_n hx hb d_Md_menAs_10 rfl (lv_at hl 1 rfl) ?_
    refine lv_aload_n hx hb d_Md_menAs_11 rfl (lv_at hl 2 rfl) ?_
    refine va_get (D := (dC, dI)) (ci := 7) (v := .ref (a 6)) (C := R_Md) (T := F_Md) (N := 64) hx hb htb i_Md hown hK hP 0 rfl rfl 9 (by decide) (htb (.fieldLink R_Md 58 "WaterMenModel" "state" "[I") tw_11) (fun _ h9 => h9) rfl d_Md_menAs_12 ?_
    refine lv_iload_n hx hb d_Md_menAs_15 rfl (lv_at hl 0 rfl) ?_
    refine va_iald hx hb hK hP 6 5 rfl rfl (by unfold vp_in; decide +kernel) d_Md_menAs_16 ?_
    refine hb_ti 0 rfl ?_
    refine lv_iload_n hx hb d_Md_menAs_17 rfl (lv_at hl 3 rfl) ?_
    refine lv_icmp_ne (tgt := 25) hx hb d_Md_menAs_18 (by decide) (fun _ => ?_) (fun h => absurd h c_1)
    refine lv_iconst (v := 0) hx hb d_Md_menAs_25 (by decide +kernel) ?_
    refine lv_iadd hx hb d_Md_menAs_26 ?_
    refine hb_ti 0 (by decide +kernel) ?_
    refine lv_istore_n (lv' := [(2, .int 0), (3, .int 5), (0, .ref (a 0)), (1, .int p_0)]) hx hb d_Md_menAs_27 rfl hl (by decide) rfl (fun ls hl => ?_)
    refine lv_iinc (v := 6) (lv' := [(3, .int 6), (2, .int 0), (0, .ref (a 0)), (1, .int p_0)]) hx hb d_Md_menAs_28 hl (k := 1) rfl (by decide +kernel) (by decide) rfl (fun ls hl => ?_)
    refine lv_goto (tgt := 4) hx hb d_Md_menAs_31 (by decide) ?_
    refine lv_iload_n hx hb d_Md_menAs_4 rfl (lv_at hl 0 rfl) ?_
    refine lv_bipush (v := 40) hx hb d_Md_menAs_5 (by decide +kernel) ?_
    refine lv_icmp_ge (tgt := 34) hx hb d_Md_menAs_7 (by decide) (fun h => absurd h (by decide +kernel)) (fun _ => ?_)
    refine lv_iload_n hx hb d_Md_menAs_10 rfl (lv_at hl 1 rfl) ?_
    refine lv_aload_n hx hb d_Md_menAs_11 rfl (lv_at hl 2 rfl) ?_
    refine va_get (D := (dC, dI)) (ci := 7) (v := .ref (a 6)) (C := R_Md) (T := F_Md) (N := 64) hx hb htb i_Md hown hK hP 0 rfl rfl 9 (by decide) (htb (.fieldLink R_Md 58 "WaterMenModel" "state" "[I") tw_11) (fun _ h9 => h9) rfl d_Md_menAs_12 ?_
    refine lv_iload_n hx hb d_Md_menAs_15 rfl (lv_at hl 0 rfl) ?_
    refine va_iald hx hb hK hP 6 5 rfl rfl (by unfold vp_in; decide +kernel) d_Md_menAs_16 ?_
    refine hb_ti 0 rfl ?_
    refine lv_iload_n hx hb d_Md_menAs_17 rfl (lv_at hl 3 rfl) ?_
    refine lv_icmp_ne (tgt := 25) hx hb d_Md_menAs_18 (by decide) (fun _ => ?_) (fun h => absurd h c_1)
    refine lv_iconst (v := 0) hx hb d_Md_menAs_25 (by decide +kernel) ?_
    refine lv_iadd hx hb d_Md_menAs_26 ?_
    refine hb_ti 0 (by decide +kernel) ?_
    refine lv_istore_n (lv' := [(2, .int 0), (3, .int 6), (0, .ref (a 0)), (1, .int p_0)]) hx hb d_Md_menAs_27 rfl hl (by decide) rfl (fun ls hl => ?_)
    refine lv_iinc (v := 7) (lv' := [(3, .int 7), (2, .int 0), (0, .ref (a 0)), (1, .int p_0)]) hx hb d_Md_menAs_28 hl (k := 1) rfl (by decide +kernel) (by decide) rfl (fun ls hl => ?_)
    refine lv_goto (tgt := 4) hx hb d_Md_menAs_31 (by decide) ?_
    refine lv_iload_n hx hb d_Md_menAs_4 rfl (lv_at hl 0 rfl) ?_
    refine lv_bipush (v := 40) hx hb d_Md_menAs_5 (by decide +kernel) ?_
    refine lv_icmp_ge (tgt := 34) hx hb d_Md_menAs_7 (by decide) (fun h => absurd h (by decide +kernel)) (fun _ => ?_)
    refine lv_iload_n hx hb d_Md_menAs_10 rfl (lv_at hl 1 rfl) ?_
    refine lv_aload_n hx hb d_Md_menAs_11 rfl (lv_at hl 2 rfl) ?_
    refine va_get (D := (dC, dI)) (ci := 7) (v := .ref (a 6)) (C := R_Md) (T := F_Md) (N := 64) hx hb htb i_Md hown hK hP 0 rfl rfl 9 (by decide) (htb (.fieldLink R_Md 58 "WaterMenModel" "state" "[I") tw_11) (fun _ h9 => h9) rfl d_Md_menAs_12 ?_
    refine lv_iload_n hx hb d_Md_menAs_15 rfl (lv_at hl 0 rfl) ?_
    refine va_iald hx hb hK hP 6 5 rfl rfl (by unfold vp_in; decide +kernel) d_Md_menAs_16 ?_
    refine hb_ti 0 rfl ?_
    refine lv_iload_n hx hb d_Md_menAs_17 rfl (lv_at hl 3 rfl) ?_
    refine lv_icmp_ne (tgt := 25) hx hb d_Md_menAs_18 (by decide) (fun _ => ?_) (fun h => absurd h c_1)
    refine lv_iconst (v := 0) hx hb d_Md_menAs_25 (by decide +kernel) ?_
    refine lv_iadd hx hb d_Md_menAs_26 ?_
    refine hb_ti 0 (by decide +kernel) ?_
    refine lv_istore_n (lv' := [(2, .int 0), (3, .int 7), (0, .ref (a 0)), (1, .int p_0)]) hx hb d_Md_menAs_27 rfl hl (by decide) rfl (fun ls hl => ?_)
    refine lv_iinc (v := 8) (lv' := [(3, .int 8), (2, .int 0), (0, .ref (a 0)), (1, .int p_0)]) hx hb d_Md_menAs_28 hl (k := 1) rfl (by decide +kernel) (by decide) rfl (fun ls hl => ?_)
    refine lv_goto (tgt := 4) hx hb d_Md_menAs_31 (by decide) ?_
    refine lv_iload_n hx hb d_Md_menAs_4 rfl (lv_at hl 0 rfl) ?_
    refine lv_bipush (v := 40) hx hb d_Md_menAs_5 (by decide +kernel) ?_
    refine lv_icmp_ge (tgt := 34) hx hb d_Md_menAs_7 (by decide) (fun h => absurd h (by decide +kernel)) (fun _ => ?_)
    refine lv_iload_n hx hb d_Md_menAs_10 rfl (lv_at hl 1 rfl) ?_
    refine lv_aload_n hx hb d_Md_menAs_11 rfl (lv_at hl 2 rfl) ?_
    refine va_get (D := (dC, dI)) (ci := 7) (v := .ref (a 6)) (C := R_Md) (T := F_Md) (N := 64) hx hb htb i_Md hown hK hP 0 rfl rfl 9 (by decide) (htb (.fieldLink R_Md 58 "WaterMenModel" "state" "[I") tw_11) (fun _ h9 => h9) rfl d_Md_menAs_12 ?_
    refine lv_iload_n hx hb d_Md_menAs_15 rfl (lv_at hl 0 rfl) ?_
    refine va_iald hx hb hK hP 6 5 rfl rfl (by unfold vp_in; decide +kernel) d_Md_menAs_16 ?_
    refine hb_ti 0 rfl ?_
    refine lv_iload_n hx hb d_Md_menAs_17 rfl (lv_at hl 3 rfl) ?_
    refine lv_icmp_ne (tgt := 25) hx hb d_Md_menAs_18 (by decide) (fun _ => ?_) (fun h => absurd h c_1)
    refine lv_iconst (v := 0) hx hb d_Md_menAs_25 (by decide +kernel) ?_
    refine lv_iadd hx hb d_Md_menAs_26 ?_
    refine hb_ti 0 (by decide +kernel) ?_
    refine lv_istore_n (lv' := [(2, .int 0), (3, .int 8), (0, .ref (a 0)), (1, .int p_0)]) hx hb d_Md_menAs_27 rfl hl (by decide) rfl (fun ls hl => ?_)
    refine lv_iinc (v := 9) (lv' := [(3, .int 9), (2, .int 0), (0, .ref (a 0)), (1, .int p_0)]) hx hb d_Md_menAs_28 hl (k := 1) rfl (by decide +kernel) (by decide) rfl (fun ls hl => ?_)
    refine lv_goto (tgt := 4) hx hb d_Md_menAs_31 (by decide) ?_
    refine lv_iload_n hx hb d_Md_menAs_4 rfl (lv_at hl 0 rfl) ?_
    refine lv_bipush (v := 40) hx hb d_Md_menAs_5 (by decide +kernel) ?_
    refine lv_icmp_ge (tgt := 34) hx hb d_Md_menAs_7 (by decide) (fun h => absurd h (by decide +kernel)) (fun _ => ?_)
    refine lv_iload_n hx hb d_Md_menAs_10 rfl (lv_at hl 1 rfl) ?_
    refine lv_aload_n hx hb d_Md_menAs_11 rfl (lv_at hl 2 rfl) ?_
    refine va_get (D := (dC, dI)) (ci := 7) (v := .ref (a 6)) (C := R_Md) (T := F_Md) (N := 64) hx hb htb i_Md hown hK hP 0 rfl rfl 9 (by decide) (htb (.fieldLink R_Md 58 "WaterMenModel" "state" "[I") tw_11) (fun _ h9 => h9) rfl d_Md_menAs_12 ?_
    refine lv_iload_n hx hb d_Md_menAs_15 rfl (lv_at hl 0 rfl) ?_
    refine va_iald hx hb hK hP 6 5 rfl rfl (by unfold vp_in; decide +kernel) d_Md_menAs_16 ?_
    refine hb_ti 0 rfl ?_
    refine lv_iload_n hx hb d_Md_menAs_17 rfl (lv_at hl 3 rfl) ?_
    refine lv_icmp_ne (tgt := 25) hx hb d_Md_menAs_18 (by decide) (fun _ => ?_) (fun h => absurd h c_1)
    refine lv_iconst (v := 0) hx hb d_Md_menAs_25 (by decide +kernel) ?_
    refine lv_iadd hx hb d_Md_menAs_26 ?_
    refine hb_ti 0 (by decide +kernel) ?_
    refine lv_istore_n (lv' := [(2, .int 0), (3, .int 9), (0, .ref (a 0)), (1, .int p_0)]) hx hb d_Md_menAs_27 rfl hl (by decide) rfl (fun ls hl => ?_)
    refine lv_iinc (v := 10) (lv' := [(3, .int 10), (2, .int 0), (0, .ref (a 0)), (1, .int p_0)]) hx hb d_Md_menAs_28 hl (k := 1) rfl (by decide +kernel) (by decide) rfl (fun ls hl => ?_)
    refine lv_goto (tgt := 4) hx hb d_Md_menAs_31 (by decide) ?_
    refine lv_iload_n hx hb d_Md_menAs_4 rfl (lv_at hl 0 rfl) ?_
    refine lv_bipush (v := 40) hx hb d_Md_menAs_5 (by decide +kernel) ?_
    refine lv_icmp_ge (tgt := 34) hx hb d_Md_menAs_7 (by decide) (fun h => absurd h (by decide +kernel)) (fun _ => ?_)
    refine lv_iload_n hx hb d_Md_menAs_10 rfl (lv_at hl 1 rfl) ?_
    refine lv_aload_n hx hb d_Md_menAs_11 rfl (lv_at hl 2 rfl) ?_
    refine va_get (D := (dC, dI)) (ci := 7) (v := .ref (a 6)) (C := R_Md) (T := F_Md) (N := 64) hx hb htb i_Md hown hK hP 0 rfl rfl 9 (by decide) (htb (.fieldLink R_Md 58 "WaterMenModel" "state" "[I") tw_11) (fun _ h9 => h9) rfl d_Md_menAs_12 ?_
    refine lv_iload_n hx hb d_Md_menAs_15 rfl (lv_at hl 0 rfl) ?_
    refine va_iald hx hb hK hP 6 5 rfl rfl (by unfold vp_in; decide +kernel) d_Md_menAs_16 ?_
    refine hb_ti 0 rfl ?_
    refine lv_iload_n hx hb d_Md_menAs_17 rfl (lv_at hl 3 rfl) ?_
    refine lv_icmp_ne (tgt := 25) hx hb d_Md_menAs_18 (by decide) (fun _ => ?_) (fun h => absurd h c_1)
    refine lv_iconst (v := 0) hx hb d_Md_menAs_25 (by decide +kernel) ?_
    refine lv_iadd hx hb d_Md_menAs_26 ?_
    refine hb_ti 0 (by decide +kernel) ?_
    refine lv_istore_n (lv' := [(2, .int 0), (3, .int 10), (0, .ref (a 0)), (1, .int p_0)]) hx hb d_Md_menAs_27 rfl hl (by decide) rfl (fun ls hl => ?_)
    refine lv_iinc (v := 11) (lv' := [(3, .int 11), (2, .int 0), (0, .ref (a 0)), (1, .int p_0)]) hx hb d_Md_menAs_28 hl (k := 1) rfl (by decide +kernel) (by decide) rfl (fun ls hl => ?_)
    refine lv_goto (tgt := 4) hx hb d_Md_menAs_31 (by decide) ?_
    refine lv_iload_n hx hb d_Md_menAs_4 rfl (lv_at hl 0 rfl) ?_
    refine lv_bipush (v := 40) hx hb d_Md_menAs_5 (by decide +kernel) ?_
    refine lv_icmp_ge (tgt := 34) hx hb d_Md_menAs_7 (by decide) (fun h => absurd h (by decide +kernel)) (fun _ => ?_)
    refine lv_iload_n hx hb d_Md_menAs_10 rfl (lv_at hl 1 rfl) ?_
    refine lv_aload_n hx hb d_Md_menAs_11 rfl (lv_at hl 2 rfl) ?_
    refine va_get (D := (dC, dI)) (ci := 7) (v := .ref (a 6)) (C := R_Md) (T := F_Md) (N := 64) hx hb htb i_Md hown hK hP 0 rfl rfl 9 (by decide) (htb (.fieldLink R_Md 58 "WaterMenModel" "state" "[I") tw_11) (fun _ h9 => h9) rfl d_Md_menAs_12 ?_
    refine lv_iload_n hx hb d_Md_menAs_15 rfl (lv_at hl 0 rfl) ?_
    refine va_iald hx hb hK hP 6 5 rfl rfl (by unfold vp_in; decide +kernel) d_Md_menAs_16 ?_
    refine hb_ti 0 rfl ?_
    refine lv_iload_n hx hb d_Md_menAs_17 rfl (lv_at hl 3 rfl) ?_
    refine lv_icmp_ne (tgt := 25) hx hb d_Md_menAs_18 (by decide) (fun _ => ?_) (fun h => absurd h c_1)
    refine lv_iconst (v := 0) hx hb d_Md_menAs_25 (by decide +kernel) ?_
    refine lv_iadd hx hb d_Md_menAs_26 ?_
    refine hb_ti 0 (by decide +kernel) ?_
    refine lv_istore_n (lv' := [(2, .int 0), (3, .int 11), (0, .ref (a 0)), (1, .int p_0)]) hx hb d_Md_menAs_27 rfl hl (by decide) rfl (fun ls hl => ?_)
    refine lv_iinc (v := 12) (lv' := [(3, .int 12), (2, .int 0), (0, .ref (a 0)), (1, .int p_0)]) hx hb d_Md_menAs_28 hl (k := 1) rfl (by decide +kernel) (by decide) rfl (fun ls hl => ?_)
    refine lv_goto (tgt := 4) hx hb d_Md_menAs_31 (by decide) ?_
    refine lv_iload_n hx hb d_Md_menAs_4 rfl (lv_at hl 0 rfl) ?_
    refine lv_bipush (v := 40) hx hb d_Md_menAs_5 (by decide +kernel) ?_
    refine lv_icmp_ge (tgt := 34) hx hb d_Md_menAs_7 (by decide) (fun h => absurd h (by decide +kernel)) (fun _ => ?_)
    refine lv_iload_n hx hb d_Md_menAs_10 rfl (lv_at hl 1 rfl) ?_
    refine lv_aload_n hx hb d_Md_menAs_11 rfl (lv_at hl 2 rfl) ?_
    refine va_get (D := (dC, dI)) (ci := 7) (v := .ref (a 6)) (C := R_Md) (T := F_Md) (N := 64) hx hb htb i_Md hown hK hP 0 rfl rfl 9 (by decide) (htb (.fieldLink R_Md 58 "WaterMenModel" "state" "[I") tw_11) (fun _ h9 => h9) rfl d_Md_menAs_12 ?_
    refine lv_iload_n hx hb d_Md_menAs_15 rfl (lv_at hl 0 rfl) ?_
    refine va_iald hx hb hK hP 6 5 rfl rfl (by unfold vp_in; decide +kernel) d_Md_menAs_16 ?_
    refine hb_ti 0 rfl ?_
    refine lv_iload_n hx hb d_Md_menAs_17 rfl (lv_at hl 3 rfl) ?_
    refine lv_icmp_ne (tgt := 25) hx hb d_Md_menAs_18 (by decide) (fun _ => ?_) (fun h => absurd h c_1)
    refine lv_iconst (v := 0) hx hb d_Md_menAs_25 (by decide +kernel) ?_
    refine lv_iadd hx hb d_Md_menAs_26 ?_
    refine hb_ti 0 (by decide +kernel) ?_
    refine lv_istore_n (lv' := [(2, .int 0), (3, .int 12), (0, .ref (a 0)), (1, .int p_0)]) hx hb d_Md_menAs_27 rfl hl (by decide) rfl (fun ls hl => ?_)
    refine lv_iinc (v := 13) (lv' := [(3, .int 13), (2, .int 0), (0, .ref (a 0)), (1, .int p_0)]) hx hb d_Md_menAs_28 hl (k := 1) rfl (by decide +kernel) (by decide) rfl (fun ls hl => ?_)
    refine lv_goto (tgt := 4) hx hb d_Md_menAs_31 (by decide) ?_
    refine lv_iload_n hx hb d_Md_menAs_4 rfl (lv_at hl 0 rfl) ?_
    refine lv_bipush (v := 40) hx hb d_Md_menAs_5 (by decide +kernel) ?_
    refine lv_icmp_ge (tgt := 34) hx hb d_Md_menAs_7 (by decide) (fun h => absurd h (by decide +kernel)) (fun _ => ?_)
    refine lv_iload_n hx hb d_Md_menAs_10 rfl (lv_at hl 1 rfl) ?_
    refine lv_aload_n hx hb d_Md_menAs_11 rfl (lv_at hl 2 rfl) ?_
    refine va_get (D := (dC, dI)) (ci := 7) (v := .ref (a 6)) (C := R_Md) (T := F_Md) (N := 64) hx hb htb i_Md hown hK hP 0 rfl rfl 9 (by decide) (htb (.fieldLink R_Md 58 "WaterMenModel" "state" "[I") tw_11) (fun _ h9 => h9) rfl d_Md_menAs_12 ?_
    refine lv_iload_n hx hb d_Md_menAs_15 rfl (lv_at hl 0 rfl) ?_
    refine va_iald hx hb hK hP 6 5 rfl rfl (by unfold vp_in; decide +kernel) d_Md_menAs_16 ?_
    refine hb_ti 0 rfl ?_
    refine lv_iload_n hx hb d_Md_menAs_17 rfl (lv_at hl 3 rfl) ?_
    refine lv_icmp_ne (tgt := 25) hx hb d_Md_menAs_18 (by decide) (fun _ => ?_) (fun h => absurd h c_1)
    refine lv_iconst (v := 0) hx hb d_Md_menAs_25 (by decide +kernel) ?_
    refine lv_iadd hx hb d_Md_menAs_26 ?_
    refine hb_ti 0 (by decide +kernel) ?_
    refine lv_istore_n (lv' := [(2, .int 0), (3, .int 13), (0, .ref (a 0)), (1, .int p_0)]) hx hb d_Md_menAs_27 rfl hl (by decide) rfl (fun ls hl => ?_)
    refine lv_iinc (v := 14) (lv' := [(3, .int 14), (2, .int 0), (0, .ref (a 0)), (1, .int p_0)]) hx hb d_Md_menAs_28 hl (k := 1) rfl (by decide +kernel) (by decide) rfl (fun ls hl => ?_)
    refine lv_goto (tgt := 4) hx hb d_Md_menAs_31 (by decide) ?_
    refine lv_iload_n hx hb d_Md_menAs_4 rfl (lv_at hl 0 rfl) ?_
    refine lv_bipush (v := 40) hx hb d_Md_menAs_5 (by decide +kernel) ?_
    refine lv_icmp_ge (tgt := 34) hx hb d_Md_menAs_7 (by decide) (fun h => absurd h (by decide +kernel)) (fun _ => ?_)
    refine lv_iload_n hx hb d_Md_menAs_10 rfl (lv_at hl 1 rfl) ?_
    refine lv_aload_n hx hb d_Md_menAs_11 rfl (lv_at hl 2 rfl) ?_
    refine va_get (D := (dC, dI)) (ci := 7) (v := .ref (a 6)) (C := R_Md) (T := F_Md) (N := 64) hx hb htb i_Md hown hK hP 0 rfl rfl 9 (by decide) (htb (.fieldLink R_Md 58 "WaterMenModel" "state" "[I") tw_11) (fun _ h9 => h9) rfl d_Md_menAs_12 ?_
    refine lv_iload_n hx hb d_Md_menAs_15 rfl (lv_at hl 0 rfl) ?_
    refine va_iald hx hb hK hP 6 5 rfl rfl (by unfold vp_in; decide +kernel) d_Md_menAs_16 ?_
    refine hb_ti 0 rfl ?_
    refine lv_iload_n hx hb d_Md_menAs_17 rfl (lv_at hl 3 rfl) ?_
    refine lv_icmp_ne (tgt := 25) hx hb d_Md_menAs_18 (by decide) (fun _ => ?_) (fun h => absurd h c_1)
    refine lv_iconst (v := 0) hx hb d_Md_menAs_25 (by decide +kernel) ?_
    refine lv_iadd hx hb d_Md_menAs_26 ?_
    refine hb_ti 0 (by decide +kernel) ?_
    refine lv_istore_n (lv' := [(2, .int 0), (3, .int 14), (0, .ref (a 0)), (1, .int p_0)]) hx hb d_Md_menAs_27 rfl hl (by decide) rfl (fun ls hl => ?_)
    refine lv_iinc (v := 15) (lv' := [(3, .int 15), (2, .int 0), (0, .ref (a 0)), (1, .int p_0)]) hx hb d_Md_menAs_28 hl (k := 1) rfl (by decide +kernel) (by decide) rfl (fun ls hl => ?_)
    refine lv_goto (tgt := 4) hx hb d_Md_menAs_31 (by decide) ?_
    refine lv_iload_n hx hb d_Md_menAs_4 rfl (lv_at hl 0 rfl) ?_
    refine lv_bipush (v := 40) hx hb d_Md_menAs_5 (by decide +kernel) ?_
    refine lv_icmp_ge (tgt := 34) hx hb d_Md_menAs_7 (by decide) (fun h => absurd h (by decide +kernel)) (fun _ => ?_)
    refine lv_iload_n hx hb d_Md_menAs_10 rfl (lv_at hl 1 rfl) ?_
    refine lv_aload_n hx hb d_Md_menAs_11 rfl (lv_at hl 2 rfl) ?_
    refine va_get (D := (dC, dI)) (ci := 7) (v := .ref (a 6)) (C := R_Md) (T := F_Md) (N := 64) hx hb htb i_Md hown hK hP 0 rfl rfl 9 (by decide) (htb (.fieldLink R_Md 58 "WaterMenModel" "state" "[I") tw_11) (fun _ h9 => h9) rfl d_Md_menAs_12 ?_
    refine lv_iload_n hx hb d_Md_menAs_15 rfl (lv_at hl 0 rfl) ?_
    refine va_iald hx hb hK hP 6 5 rfl rfl (by unfold vp_in; decide +kernel) d_Md_menAs_16 ?_
    refine hb_ti 0 rfl ?_
    refine lv_iload_n hx hb d_Md_menAs_17 rfl (lv_at hl 3 rfl) ?_
    refine lv_icmp_ne (tgt := 25) hx hb d_Md_menAs_18 (by decide) (fun _ => ?_) (fun h => absurd h c_1)
    refine lv_iconst (v := 0) hx hb d_Md_menAs_25 (by decide +kernel) ?_
    refine lv_iadd hx hb d_Md_menAs_26 ?_
    refine hb_ti 0 (by decide +kernel) ?_
    refine lv_istore_n (lv' := [(2, .int 0), (3, .int 15), (0, .ref (a 0)), (1, .int p_0)]) hx hb d_Md_menAs_27 rfl hl (by decide) rfl (fun ls hl => ?_)
    refine lv_iinc (v := 16) (lv' := [(3, .int 16), (2, .int 0), (0, .ref (a 0)), (1, .int p_0)]) hx hb d_Md_menAs_28 hl (k := 1) rfl (by decide +kernel) (by decide) rfl (fun ls hl => ?_)
    refine lv_goto (tgt := 4) hx hb d_Md_menAs_31 (by decide) ?_
    refine lv_iload_n hx hb d_Md_menAs_4 rfl (lv_at hl 0 rfl) ?_
    refine lv_bipush (v := 40) hx hb d_Md_menAs_5 (by decide +kernel) ?_
    refine lv_icmp_ge (tgt := 34) hx hb d_Md_menAs_7 (by decide) (fun h => absurd h (by decide +kernel)) (fun _ => ?_)
    refine lv_iload_n hx hb d_Md_menAs_10 rfl (lv_at hl 1 rfl) ?_
    refine lv_aload_n hx hb d_Md_menAs_11 rfl (lv_at hl 2 rfl) ?_
    refine va_get (D := (dC, dI)) (ci := 7) (v := .ref (a 6)) (C := R_Md) (T := F_Md) (N := 64) hx hb htb i_Md hown hK hP 0 rfl rfl 9 (by decide) (htb (.fieldLink R_Md 58 "WaterMenModel" "state" "[I") tw_11) (fun _ h9 => h9) rfl d_Md_menAs_12 ?_
    refine lv_iload_n hx hb d_Md_menAs_15 rfl (lv_at hl 0 rfl) ?_
    refine va_iald hx hb hK hP 6 5 rfl rfl (by unfold vp_in; decide +kernel) d_Md_menAs_16 ?_
    refine hb_ti 0 rfl ?_
    refine lv_iload_n hx hb d_Md_menAs_17 rfl (lv_at hl 3 rfl) ?_
    refine lv_icmp_ne (tgt := 25) hx hb d_Md_menAs_18 (by decide) (fun _ => ?_) (fun h => absurd h c_1)
    refine lv_iconst (v := 0) hx hb d_Md_menAs_25 (by decide +kernel) ?_
    refine lv_iadd hx hb d_Md_menAs_26 ?_
    refine hb_ti 0 (by decide +kernel) ?_
    refine lv_istore_n (lv' := [(2, .int 0), (3, .int 16), (0, .ref (a 0)), (1, .int p_0)]) hx hb d_Md_menAs_27 rfl hl (by decide) rfl (fun ls hl => ?_)
    refine lv_iinc (v := 17) (lv' := [(3, .int 17), (2, .int 0), (0, .ref (a 0)), (1, .int p_0)]) hx hb d_Md_menAs_28 hl (k := 1) rfl (by decide +kernel) (by decide) rfl (fun ls hl => ?_)
    refine lv_goto (tgt := 4) hx hb d_Md_menAs_31 (by decide) ?_
    refine lv_iload_n hx hb d_Md_menAs_4 rfl (lv_at hl 0 rfl) ?_
    refine lv_bipush (v := 40) hx hb d_Md_menAs_5 (by decide +kernel) ?_
    refine lv_icmp_ge (tgt := 34) hx hb d_Md_menAs_7 (by decide) (fun h => absurd h (by decide +kernel)) (fun _ => ?_)
    refine lv_iload_n hx hb d_Md_menAs_10 rfl (lv_at hl 1 rfl) ?_
    refine lv_aload_n hx hb d_Md_menAs_11 rfl (lv_at hl 2 rfl) ?_
    refine va_get (D := (dC, dI)) (ci := 7) (v := .ref (a 6)) (C := R_Md) (T := F_Md) (N := 64) hx hb htb i_Md hown hK hP 0 rfl rfl 9 (by decide) (htb (.fieldLink R_Md 58 "WaterMenModel" "state" "[I") tw_11) (fun _ h9 => h9) rfl d_Md_menAs_12 ?_
    refine lv_iload_n hx hb d_Md_menAs_15 rfl (lv_at hl 0 rfl) ?_
    refine va_iald hx hb hK hP 6 5 rfl rfl (by unfold vp_in; decide +kernel) d_Md_menAs_16 ?_
    refine hb_ti 0 rfl ?_
    refine lv_iload_n hx hb d_Md_menAs_17 rfl (lv_at hl 3 rfl) ?_
    refine lv_icmp_ne (tgt := 25) hx hb d_Md_menAs_18 (by decide) (fun _ => ?_) (fun h => absurd h c_1)
    refine lv_iconst (v := 0) hx hb d_Md_menAs_25 (by decide +kernel) ?_
    refine lv_iadd hx hb d_Md_menAs_26 ?_
    refine hb_ti 0 (by decide +kernel) ?_
    refine lv_istore_n (lv' := [(2, .int 0), (3, .int 17), (0, .ref (a 0)), (1, .int p_0)]) hx hb d_Md_menAs_27 rfl hl (by decide) rfl (fun ls hl => ?_)
    refine lv_iinc (v := 18) (lv' := [(3, .int 18), (2, .int 0), (0, .ref (a 0)), (1, .int p_0)]) hx hb d_Md_menAs_28 hl (k := 1) rfl (by decide +kernel) (by decide) rfl (fun ls hl => ?_)
    refine lv_goto (tgt := 4) hx hb d_Md_menAs_31 (by decide) ?_
    refine lv_iload_n hx hb d_Md_menAs_4 rfl (lv_at hl 0 rfl) ?_
    refine lv_bipush (v := 40) hx hb d_Md_menAs_5 (by decide +kernel) ?_
    refine lv_icmp_ge (tgt := 34) hx hb d_Md_menAs_7 (by decide) (fun h => absurd h (by decide +kernel)) (fun _ => ?_)
    refine lv_iload_n hx hb d_Md_menAs_10 rfl (lv_at hl 1 rfl) ?_
    refine lv_aload_n hx hb d_Md_menAs_11 rfl (lv_at hl 2 rfl) ?_
    refine va_get (D := (dC, dI)) (ci := 7) (v := .ref (a 6)) (C := R_Md) (T := F_Md) (N := 64) hx hb htb i_Md hown hK hP 0 rfl rfl 9 (by decide) (htb (.fieldLink R_Md 58 "WaterMenModel" "state" "[I") tw_11) (fun _ h9 => h9) rfl d_Md_menAs_12 ?_
    refine lv_iload_n hx hb d_Md_menAs_15 rfl (lv_at hl 0 rfl) ?_
    refine va_iald hx hb hK hP 6 5 rfl rfl (by unfold vp_in; decide +kernel) d_Md_menAs_16 ?_
    refine hb_ti 0 rfl ?_
    refine lv_iload_n hx hb d_Md_menAs_17 rfl (lv_at hl 3 rfl) ?_
    refine lv_icmp_ne (tgt := 25) hx hb d_Md_menAs_18 (by decide) (fun _ => ?_) (fun h => absurd h c_1)
    refine lv_iconst (v := 0) hx hb d_Md_menAs_25 (by decide +kernel) ?_
    refine lv_iadd hx hb d_Md_menAs_26 ?_
    refine hb_ti 0 (by decide +kernel) ?_
    refine lv_istore_n (lv' := [(2, .int 0), (3, .int 18), (0, .ref (a 0)), (1, .int p_0)]) hx hb d_Md_menAs_27 rfl hl (by decide) rfl (fun ls hl => ?_)
    refine lv_iinc (v := 19) (lv' := [(3, .int 19), (2, .int 0), (0, .ref (a 0)), (1, .int p_0)]) hx hb d_Md_menAs_28 hl (k := 1) rfl (by decide +kernel) (by decide) rfl (fun ls hl => ?_)
    refine lv_goto (tgt := 4) hx hb d_Md_menAs_31 (by decide) ?_
    refine lv_iload_n hx hb d_Md_menAs_4 rfl (lv_at hl 0 rfl) ?_
    refine lv_bipush (v := 40) hx hb d_Md_menAs_5 (by decide +kernel) ?_
    refine lv_icmp_ge (tgt := 34) hx hb d_Md_menAs_7 (by decide) (fun h => absurd h (by decide +kernel)) (fun _ => ?_)
    refine lv_iload_n hx hb d_Md_menAs_10 rfl (lv_at hl 1 rfl) ?_
    refine lv_aload_n hx hb d_Md_menAs_11 rfl (lv_at hl 2 rfl) ?_
    refine va_get (D := (dC, dI)) (ci := 7) (v := .ref (a 6)) (C := R_Md) (T := F_Md) (N := 64) hx hb htb i_Md hown hK hP 0 rfl rfl 9 (by decide) (htb (.fieldLink R_Md 58 "WaterMenModel" "state" "[I") tw_11) (fun _ h9 => h9) rfl d_Md_menAs_12 ?_
    refine lv_iload_n hx hb d_Md_menAs_15 rfl (lv_at hl 0 rfl) ?_
    refine va_iald hx hb hK hP 6 5 rfl rfl (by unfold vp_in; decide +kernel) d_Md_menAs_16 ?_
    refine hb_ti 0 rfl ?_
    refine lv_iload_n hx hb d_Md_menAs_17 rfl (lv_at hl 3 rfl) ?_
    refine lv_icmp_ne (tgt := 25) hx hb d_Md_menAs_18 (by decide) (fun _ => ?_) (fun h => absurd h c_1)
    refine lv_iconst (v := 0) hx hb d_Md_menAs_25 (by decide +kernel) ?_
    refine lv_iadd hx hb d_Md_menAs_26 ?_
    refine hb_ti 0 (by decide +kernel) ?_
    refine lv_istore_n (lv' := [(2, .int 0), (3, .int 19), (0, .ref (a 0)), (1, .int p_0)]) hx hb d_Md_menAs_27 rfl hl (by decide) rfl (fun ls hl => ?_)
    refine lv_iinc (v := 20) (lv' := [(3, .int 20), (2, .int 0), (0, .ref (a 0)), (1, .int p_0)]) hx hb d_Md_menAs_28 hl (k := 1) rfl (by decide +kernel) (by decide) rfl (fun ls hl => ?_)
    refine lv_goto (tgt := 4) hx hb d_Md_menAs_31 (by decide) ?_
    refine lv_iload_n hx hb d_Md_menAs_4 rfl (lv_at hl 0 rfl) ?_
    refine lv_bipush (v := 40) hx hb d_Md_menAs_5 (by decide +kernel) ?_
    refine lv_icmp_ge (tgt := 34) hx hb d_Md_menAs_7 (by decide) (fun h => absurd h (by decide +kernel)) (fun _ => ?_)
    refine lv_iload_n hx hb d_Md_menAs_10 rfl (lv_at hl 1 rfl) ?_
    refine lv_aload_n hx hb d_Md_menAs_11 rfl (lv_at hl 2 rfl) ?_
    refine va_get (D := (dC, dI)) (ci := 7) (v := .ref (a 6)) (C := R_Md) (T := F_Md) (N := 64) hx hb htb i_Md hown hK hP 0 rfl rfl 9 (by decide) (htb (.fieldLink R_Md 58 "WaterMenModel" "state" "[I") tw_11) (fun _ h9 => h9) rfl d_Md_menAs_12 ?_
    refine lv_iload_n hx hb d_Md_menAs_15 rfl (lv_at hl 0 rfl) ?_
    refine va_iald hx hb hK hP 6 5 rfl rfl (by unfold vp_in; decide +kernel) d_Md_menAs_16 ?_
    refine hb_ti 0 rfl ?_
    refine lv_iload_n hx hb d_Md_menAs_17 rfl (lv_at hl 3 rfl) ?_
    refine lv_icmp_ne (tgt := 25) hx hb d_Md_menAs_18 (by decide) (fun _ => ?_) (fun h => absurd h c_1)
    refine lv_iconst (v := 0) hx hb d_Md_menAs_25 (by decide +kernel) ?_
    refine lv_iadd hx hb d_Md_menAs_26 ?_
    refine hb_ti 0 (by decide +kernel) ?_
    refine lv_istore_n (lv' := [(2, .int 0), (3, .int 20), (0, .ref (a 0)), (1, .int p_0)]) hx hb d_Md_menAs_27 rfl hl (by decide) rfl (fun ls hl => ?_)
    refine lv_iinc (v := 21) (lv' := [(3, .int 21), (2, .int 0), (0, .ref (a 0)), (1, .int p_0)]) hx hb d_Md_menAs_28 hl (k := 1) rfl (by decide +kernel) (by decide) rfl (fun ls hl => ?_)
    refine lv_goto (tgt := 4) hx hb d_Md_menAs_31 (by decide) ?_
    refine lv_iload_n hx hb d_Md_menAs_4 rfl (lv_at hl 0 rfl) ?_
    refine lv_bipush (v := 40) hx hb d_Md_menAs_5 (by decide +kernel) ?_
    refine lv_icmp_ge (tgt := 34) hx hb d_Md_menAs_7 (by decide) (fun h => absurd h (by decide +kernel)) (fun _ => ?_)
    refine lv_iload_n hx hb d_Md_menAs_10 rfl (lv_at hl 1 rfl) ?_
    refine lv_aload_n hx hb d_Md_menAs_11 rfl (lv_at hl 2 rfl) ?_
    refine va_get (D := (dC, dI)) (ci := 7) (v := .ref (a 6)) (C := R_Md) (T := F_Md) (N := 64) hx hb htb i_Md hown hK hP 0 rfl rfl 9 (by decide) (htb (.fieldLink R_Md 58 "WaterMenModel" "state" "[I") tw_11) (fun _ h9 => h9) rfl d_Md_menAs_12 ?_
    refine lv_iload_n hx hb d_Md_menAs_15 rfl (lv_at hl 0 rfl) ?_
    refine va_iald hx hb hK hP 6 5 rfl rfl (by unfold vp_in; decide +kernel) d_Md_menAs_16 ?_
    refine hb_ti 0 rfl ?_
    refine lv_iload_n hx hb d_Md_menAs_17 rfl (lv_at hl 3 rfl) ?_
    refine lv_icmp_ne (tgt := 25) hx hb d_Md_menAs_18 (by decide) (fun _ => ?_) (fun h => absurd h c_1)
    refine lv_iconst (v := 0) hx hb d_Md_menAs_25 (by decide +kernel) ?_
    refine lv_iadd hx hb d_Md_menAs_26 ?_
    refine hb_ti 0 (by decide +kernel) ?_
    refine lv_istore_n (lv' := [(2, .int 0), (3, .int 21), (0, .ref (a 0)), (1, .int p_0)]) hx hb d_Md_menAs_27 rfl hl (by decide) rfl (fun ls hl => ?_)
    refine lv_iinc (v := 22) (lv' := [(3, .int 22), (2, .int 0), (0, .ref (a 0)), (1, .int p_0)]) hx hb d_Md_menAs_28 hl (k := 1) rfl (by decide +kernel) (by decide) rfl (fun ls hl => ?_)
    refine lv_goto (tgt := 4) hx hb d_Md_menAs_31 (by decide) ?_
    refine lv_iload_n hx hb d_Md_menAs_4 rfl (lv_at hl 0 rfl) ?_
    refine lv_bipush (v := 40) hx hb d_Md_menAs_5 (by decide +kernel) ?_
    refine lv_icmp_ge (tgt := 34) hx hb d_Md_menAs_7 (by decide) (fun h => absurd h (by decide +kernel)) (fun _ => ?_)
    refine lv_iload_n hx hb d_Md_menAs_10 rfl (lv_at hl 1 rfl) ?_
    refine lv_aload_n hx hb d_Md_menAs_11 rfl (lv_at hl 2 rfl) ?_
    refine va_get (D := (dC, dI)) (ci := 7) (v := .ref (a 6)) (C := R_Md) (T := F_Md) (N := 64) hx hb htb i_Md hown hK hP 0 rfl rfl 9 (by decide) (htb (.fieldLink R_Md 58 "WaterMenModel" "state" "[I") tw_11) (fun _ h9 => h9) rfl d_Md_menAs_12 ?_
    refine lv_iload_n hx hb d_Md_menAs_15 rfl (lv_at hl 0 rfl) ?_
    refine va_iald hx hb hK hP 6 5 rfl rfl (by unfold vp_in; decide +kernel) d_Md_menAs_16 ?_
    refine hb_ti 0 rfl ?_
    refine lv_iload_n hx hb d_Md_menAs_17 rfl (lv_at hl 3 rfl) ?_
    refine lv_icmp_ne (tgt := 25) hx hb d_Md_menAs_18 (by decide) (fun _ => ?_) (fun h => absurd h c_1)
    refine lv_iconst (v := 0) hx hb d_Md_menAs_25 (by decide +kernel) ?_
    refine lv_iadd hx hb d_Md_menAs_26 ?_
    refine hb_ti 0 (by decide +kernel) ?_
    refine lv_istore_n (lv' := [(2, .int 0), (3, .int 22), (0, .ref (a 0)), (1, .int p_0)]) hx hb d_Md_menAs_27 rfl hl (by decide) rfl (fun ls hl => ?_)
    refine lv_iinc (v := 23) (lv' := [(3, .int 23), (2, .int 0), (0, .ref (a 0)), (1, .int p_0)]) hx hb d_Md_menAs_28 hl (k := 1) rfl (by decide +kernel) (by decide) rfl (fun ls hl => ?_)
    refine lv_goto (tgt := 4) hx hb d_Md_menAs_31 (by decide) ?_
    refine lv_iload_n hx hb d_Md_menAs_4 rfl (lv_at hl 0 rfl) ?_
    refine lv_bipush (v := 40) hx hb d_Md_menAs_5 (by decide +kernel) ?_
    refine lv_icmp_ge (tgt := 34) hx hb d_Md_menAs_7 (by decide) (fun h => absurd h (by decide +kernel)) (fun _ => ?_)
    refine lv_iload_n hx hb d_Md_menAs_10 rfl (lv_at hl 1 rfl) ?_
    refine lv_aload_n hx hb d_Md_menAs_11 rfl (lv_at hl 2 rfl) ?_
    refine va_get (D := (dC, dI)) (ci := 7) (v := .ref (a 6)) (C := R_Md) (T := F_Md) (N := 64) hx hb htb i_Md hown hK hP 0 rfl rfl 9 (by decide) (htb (.fieldLink R_Md 58 "WaterMenModel" "state" "[I") tw_11) (fun _ h9 => h9) rfl d_Md_menAs_12 ?_
    refine lv_iload_n hx hb d_Md_menAs_15 rfl (lv_at hl 0 rfl) ?_
    refine va_iald hx hb hK hP 6 5 rfl rfl (by unfold vp_in; decide +kernel) d_Md_menAs_16 ?_
    refine hb_ti 0 rfl ?_
    refine lv_iload_n hx hb d_Md_menAs_17 rfl (lv_at hl 3 rfl) ?_
    refine lv_icmp_ne (tgt := 25) hx hb d_Md_menAs_18 (by decide) (fun _ => ?_) (fun h => absurd h c_1)
    refine lv_iconst (v := 0) hx hb d_Md_menAs_25 (by decide +kernel) ?_
    refine lv_iadd hx hb d_Md_menAs_26 ?_
    refine hb_ti 0 (by decide +kernel) ?_
    refine lv_istore_n (lv' := [(2, .int 0), (3, .int 23), (0, .ref (a 0)), (1, .int p_0)]) hx hb d_Md_menAs_27 rfl hl (by decide) rfl (fun ls hl => ?_)
    refine lv_iinc (v := 24) (lv' := [(3, .int 24), (2, .int 0), (0, .ref (a 0)), (1, .int p_0)]) hx hb d_Md_menAs_28 hl (k := 1) rfl (by decide +kernel) (by decide) rfl (fun ls hl => ?_)
    refine lv_goto (tgt := 4) hx hb d_Md_menAs_31 (by decide) ?_
    refine lv_iload_n hx hb d_Md_menAs_4 rfl (lv_at hl 0 rfl) ?_
    refine lv_bipush (v := 40) hx hb d_Md_menAs_5 (by decide +kernel) ?_
    refine lv_icmp_ge (tgt := 34) hx hb d_Md_menAs_7 (by decide) (fun h => absurd h (by decide +kernel)) (fun _ => ?_)
    refine lv_iload_n hx hb d_Md_menAs_10 rfl (lv_at hl 1 rfl) ?_
    refine lv_aload_n hx hb d_Md_menAs_11 rfl (lv_at hl 2 rfl) ?_
    refine va_get (D := (dC, dI)) (ci := 7) (v := .ref (a 6)) (C := R_Md) (T := F_Md) (N := 64) hx hb htb i_Md hown hK hP 0 rfl rfl 9 (by decide) (htb (.fieldLink R_Md 58 "WaterMenModel" "state" "[I") tw_11) (fun _ h9 => h9) rfl d_Md_menAs_12 ?_
    refine lv_iload_n hx hb d_Md_menAs_15 rfl (lv_at hl 0 rfl) ?_
    refine va_iald hx hb hK hP 6 5 rfl rfl (by unfold vp_in; decide +kernel) d_Md_menAs_16 ?_
    refine hb_ti 0 rfl ?_
    refine lv_iload_n hx hb d_Md_menAs_17 rfl (lv_at hl 3 rfl) ?_
    refine lv_icmp_ne (tgt := 25) hx hb d_Md_menAs_18 (by decide) (fun _ => ?_) (fun h => absurd h c_1)
    refine lv_iconst (v := 0) hx hb d_Md_menAs_25 (by decide +kernel) ?_
    refine lv_iadd hx hb d_Md_menAs_26 ?_
    refine hb_ti 0 (by decide +kernel) ?_
    refine lv_istore_n (lv' := [(2, .int 0), (3, .int 24), (0, .ref (a 0)), (1, .int p_0)]) hx hb d_Md_menAs_27 rfl hl (by decide) rfl (fun ls hl => ?_)
    refine lv_iinc (v := 25) (lv' := [(3, .int 25), (2, .int 0), (0, .ref (a 0)), (1, .int p_0)]) hx hb d_Md_menAs_28 hl (k := 1) rfl (by decide +kernel) (by decide) rfl (fun ls hl => ?_)
    refine lv_goto (tgt := 4) hx hb d_Md_menAs_31 (by decide) ?_
    refine lv_iload_n hx hb d_Md_menAs_4 rfl (lv_at hl 0 rfl) ?_
    refine lv_bipush (v := 40) hx hb d_Md_menAs_5 (by decide +kernel) ?_
    refine lv_icmp_ge (tgt := 34) hx hb d_Md_menAs_7 (by decide) (fun h => absurd h (by decide +kernel)) (fun _ => ?_)
    refine lv_iload_n hx hb d_Md_menAs_10 rfl (lv_at hl 1 rfl) ?_
    refine lv_aload_n hx hb d_Md_menAs_11 rfl (lv_at hl 2 rfl) ?_
    refine va_get (D := (dC, dI)) (ci := 7) (v := .ref (a 6)) (C := R_Md) (T := F_Md) (N := 64) hx hb htb i_Md hown hK hP 0 rfl rfl 9 (by decide) (htb (.fieldLink R_Md 58 "WaterMenModel" "state" "[I") tw_11) (fun _ h9 => h9) rfl d_Md_menAs_12 ?_
    refine lv_iload_n hx hb d_Md_menAs_15 rfl (lv_at hl 0 rfl) ?_
    refine va_iald hx hb hK hP 6 5 rfl rfl (by unfold vp_in; decide +kernel) d_Md_menAs_16 ?_
    refine hb_ti 0 rfl ?_
    refine lv_iload_n hx hb d_Md_menAs_17 rfl (lv_at hl 3 rfl) ?_
    refine lv_icmp_ne (tgt := 25) hx hb d_Md_menAs_18 (by decide) (fun _ => ?_) (fun h => absurd h c_1)
    refine lv_iconst (v := 0) hx hb d_Md_menAs_25 (by decide +kernel) ?_
    refine lv_iadd hx hb d_Md_menAs_26 ?_
    refine hb_ti 0 (by decide +kernel) ?_
    refine lv_istore_n (lv' := [(2, .int 0), (3, .int 25), (0, .ref (a 0)), (1, .int p_0)]) hx hb d_Md_menAs_27 rfl hl (by decide) rfl (fun ls hl => ?_)
    refine lv_iinc (v := 26) (lv' := [(3, .int 26), (2, .int 0), (0, .ref (a 0)), (1, .int p_0)]) hx hb d_Md_menAs_28 hl (k := 1) rfl (by decide +kernel) (by decide) rfl (fun ls hl => ?_)
    refine lv_goto (tgt := 4) hx hb d_Md_menAs_31 (by decide) ?_
    refine lv_iload_n hx hb d_Md_menAs_4 rfl (lv_at hl 0 rfl) ?_
    refine lv_bipush (v := 40) hx hb d_Md_menAs_5 (by decide +kernel) ?_
    refine lv_icmp_ge (tgt := 34) hx hb d_Md_menAs_7 (by decide) (fun h => absurd h (by decide +kernel)) (fun _ => ?_)
    refine lv_iload_n hx hb d_Md_menAs_10 rfl (lv_at hl 1 rfl) ?_
    refine lv_aload_n hx hb d_Md_menAs_11 rfl (lv_at hl 2 rfl) ?_
    refine va_get (D := (dC, dI)) (ci := 7) (v := .ref (a 6)) (C := R_Md) (T := F_Md) (N := 64) hx hb htb i_Md hown hK hP 0 rfl rfl 9 (by decide) (htb (.fieldLink R_Md 58 "WaterMenModel" "state" "[I") tw_11) (fun _ h9 => h9) rfl d_Md_menAs_12 ?_
    refine lv_iload_n hx hb d_Md_menAs_15 rfl (lv_at hl 0 rfl) ?_
    refine va_iald hx hb hK hP 6 5 rfl rfl (by unfold vp_in; decide +kernel) d_Md_menAs_16 ?_
    refine hb_ti 0 rfl ?_
    refine lv_iload_n hx hb d_Md_menAs_17 rfl (lv_at hl 3 rfl) ?_
    refine lv_icmp_ne (tgt := 25) hx hb d_Md_menAs_18 (by decide) (fun _ => ?_) (fun h => absurd h c_1)
    refine lv_iconst (v := 0) hx hb d_Md_menAs_25 (by decide +kernel) ?_
    refine lv_iadd hx hb d_Md_menAs_26 ?_
    refine hb_ti 0 (by decide +kernel) ?_
    refine lv_istore_n (lv' := [(2, .int 0), (3, .int 26), (0, .ref (a 0)), (1, .int p_0)]) hx hb d_Md_menAs_27 rfl hl (by decide) rfl (fun ls hl => ?_)
    refine lv_iinc (v := 27) (lv' := [(3, .int 27), (2, .int 0), (0, .ref (a 0)), (1, .int p_0)]) hx hb d_Md_menAs_28 hl (k := 1) rfl (by decide +kernel) (by decide) rfl (fun ls hl => ?_)
    refine lv_goto (tgt := 4) hx hb d_Md_menAs_31 (by decide) ?_
    refine lv_iload_n hx hb d_Md_menAs_4 rfl (lv_at hl 0 rfl) ?_
    refine lv_bipush (v := 40) hx hb d_Md_menAs_5 (by decide +kernel) ?_
    refine lv_icmp_ge (tgt := 34) hx hb d_Md_menAs_7 (by decide) (fun h => absurd h (by decide +kernel)) (fun _ => ?_)
    refine lv_iload_n hx hb d_Md_menAs_10 rfl (lv_at hl 1 rfl) ?_
    refine lv_aload_n hx hb d_Md_menAs_11 rfl (lv_at hl 2 rfl) ?_
    refine va_get (D := (dC, dI)) (ci := 7) (v := .ref (a 6)) (C := R_Md) (T := F_Md) (N := 64) hx hb htb i_Md hown hK hP 0 rfl rfl 9 (by decide) (htb (.fieldLink R_Md 58 "WaterMenModel" "state" "[I") tw_11) (fun _ h9 => h9) rfl d_Md_menAs_12 ?_
    refine lv_iload_n hx hb d_Md_menAs_15 rfl (lv_at hl 0 rfl) ?_
    refine va_iald hx hb hK hP 6 5 rfl rfl (by unfold vp_in; decide +kernel) d_Md_menAs_16 ?_
    refine hb_ti 0 rfl ?_
    refine lv_iload_n hx hb d_Md_menAs_17 rfl (lv_at hl 3 rfl) ?_
    refine lv_icmp_ne (tgt := 25) hx hb d_Md_menAs_18 (by decide) (fun _ => ?_) (fun h => absurd h c_1)
    refine lv_iconst (v := 0) hx hb d_Md_menAs_25 (by decide +kernel) ?_
    refine lv_iadd hx hb d_Md_menAs_26 ?_
    refine hb_ti 0 (by decide +kernel) ?_
    refine lv_istore_n (lv' := [(2, .int 0), (3, .int 27), (0, .ref (a 0)), (1, .int p_0)]) hx hb d_Md_menAs_27 rfl hl (by decide) rfl (fun ls hl => ?_)
    refine lv_iinc (v := 28) (lv' := [(3, .int 28), (2, .int 0), (0, .ref (a 0)), (1, .int p_0)]) hx hb d_Md_menAs_28 hl (k := 1) rfl (by decide +kernel) (by decide) rfl (fun ls hl => ?_)
    refine lv_goto (tgt := 4) hx hb d_Md_menAs_31 (by decide) ?_
    refine lv_iload_n hx hb d_Md_menAs_4 rfl (lv_at hl 0 rfl) ?_
    refine lv_bipush (v := 40) hx hb d_Md_menAs_5 (by decide +kernel) ?_
    refine lv_icmp_ge (tgt := 34) hx hb d_Md_menAs_7 (by decide) (fun h => absurd h (by decide +kernel)) (fun _ => ?_)
    refine lv_iload_n hx hb d_Md_menAs_10 rfl (lv_at hl 1 rfl) ?_
    refine lv_aload_n hx hb d_Md_menAs_11 rfl (lv_at hl 2 rfl) ?_
    refine va_get (D := (dC, dI)) (ci := 7) (v := .ref (a 6)) (C := R_Md) (T := F_Md) (N := 64) hx hb htb i_Md hown hK hP 0 rfl rfl 9 (by decide) (htb (.fieldLink R_Md 58 "WaterMenModel" "state" "[I") tw_11) (fun _ h9 => h9) rfl d_Md_menAs_12 ?_
    refine lv_iload_n hx hb d_Md_menAs_15 rfl (lv_at hl 0 rfl) ?_
    refine va_iald hx hb hK hP 6 5 rfl rfl (by unfold vp_in; decide +kernel) d_Md_menAs_16 ?_
    refine hb_ti 0 rfl ?_
    refine lv_iload_n hx hb d_Md_menAs_17 rfl (lv_at hl 3 rfl) ?_
    refine lv_icmp_ne (tgt := 25) hx hb d_Md_menAs_18 (by decide) (fun _ => ?_) (fun h => absurd h c_1)
    refine lv_iconst (v := 0) hx hb d_Md_menAs_25 (by decide +kernel) ?_
    refine lv_iadd hx hb d_Md_menAs_26 ?_
    refine hb_ti 0 (by decide +kernel) ?_
    refine lv_istore_n (lv' := [(2, .int 0), (3, .int 28), (0, .ref (a 0)), (1, .int p_0)]) hx hb d_Md_menAs_27 rfl hl (by decide) rfl (fun ls hl => ?_)
    refine lv_iinc (v := 29) (lv' := [(3, .int 29), (2, .int 0), (0, .ref (a 0)), (1, .int p_0)]) hx hb d_Md_menAs_28 hl (k := 1) rfl (by decide +kernel) (by decide) rfl (fun ls hl => ?_)
    refine lv_goto (tgt := 4) hx hb d_Md_menAs_31 (by decide) ?_
    refine lv_iload_n hx hb d_Md_menAs_4 rfl (lv_at hl 0 rfl) ?_
    refine lv_bipush (v := 40) hx hb d_Md_menAs_5 (by decide +kernel) ?_
    refine lv_icmp_ge (tgt := 34) hx hb d_Md_menAs_7 (by decide) (fun h => absurd h (by decide +kernel)) (fun _ => ?_)
    refine lv_iload_n hx hb d_Md_menAs_10 rfl (lv_at hl 1 rfl) ?_
    refine lv_aload_n hx hb d_Md_menAs_11 rfl (lv_at hl 2 rfl) ?_
    refine va_get (D := (dC, dI)) (ci := 7) (v := .ref (a 6)) (C := R_Md) (T := F_Md) (N := 64) hx hb htb i_Md hown hK hP 0 rfl rfl 9 (by decide) (htb (.fieldLink R_Md 58 "WaterMenModel" "state" "[I") tw_11) (fun _ h9 => h9) rfl d_Md_menAs_12 ?_
    refine lv_iload_n hx hb d_Md_menAs_15 rfl (lv_at hl 0 rfl) ?_
    refine va_iald hx hb hK hP 6 5 rfl rfl (by unfold vp_in; decide +kernel) d_Md_menAs_16 ?_
    refine hb_ti 0 rfl ?_
    refine lv_iload_n hx hb d_Md_menAs_17 rfl (lv_at hl 3 rfl) ?_
    refine lv_icmp_ne (tgt := 25) hx hb d_Md_menAs_18 (by decide) (fun _ => ?_) (fun h => absurd h c_1)
    refine lv_iconst (v := 0) hx hb d_Md_menAs_25 (by decide +kernel) ?_
    refine lv_iadd hx hb d_Md_menAs_26 ?_
    refine hb_ti 0 (by decide +kernel) ?_
    refine lv_istore_n (lv' := [(2, .int 0), (3, .int 29), (0, .ref (a 0)), (1, .int p_0)]) hx hb d_Md_menAs_27 rfl hl (by decide) rfl (fun ls hl => ?_)
    refine lv_iinc (v := 30) (lv' := [(3, .int 30), (2, .int 0), (0, .ref (a 0)), (1, .int p_0)]) hx hb d_Md_menAs_28 hl (k := 1) rfl (by decide +kernel) (by decide) rfl (fun ls hl => ?_)
    refine lv_goto (tgt := 4) hx hb d_Md_menAs_31 (by decide) ?_
    refine lv_iload_n hx hb d_Md_menAs_4 rfl (lv_at hl 0 rfl) ?_
    refine lv_bipush (v := 40) hx hb d_Md_menAs_5 (by decide +kernel) ?_
    refine lv_icmp_ge (tgt := 34) hx hb d_Md_menAs_7 (by decide) (fun h => absurd h (by decide +kernel)) (fun _ => ?_)
    refine lv_iload_n hx hb d_Md_menAs_10 rfl (lv_at hl 1 rfl) ?_
    refine lv_aload_n hx hb d_Md_menAs_11 rfl (lv_at hl 2 rfl) ?_
    refine va_get (D := (dC, dI)) (ci := 7) (v := .ref (a 6)) (C := R_Md) (T := F_Md) (N := 64) hx hb htb i_Md hown hK hP 0 rfl rfl 9 (by decide) (htb (.fieldLink R_Md 58 "WaterMenModel" "state" "[I") tw_11) (fun _ h9 => h9) rfl d_Md_menAs_12 ?_
    refine lv_iload_n hx hb d_Md_menAs_15 rfl (lv_at hl 0 rfl) ?_
    refine va_iald hx hb hK hP 6 5 rfl rfl (by unfold vp_in; decide +kernel) d_Md_menAs_16 ?_
    refine hb_ti 0 rfl ?_
    refine lv_iload_n hx hb d_Md_menAs_17 rfl (lv_at hl 3 rfl) ?_
    refine lv_icmp_ne (tgt := 25) hx hb d_Md_menAs_18 (by decide) (fun _ => ?_) (fun h => absurd h c_1)
    refine lv_iconst (v := 0) hx hb d_Md_menAs_25 (by decide +kernel) ?_
    refine lv_iadd hx hb d_Md_menAs_26 ?_
    refine hb_ti 0 (by decide +kernel) ?_
    refine lv_istore_n (lv' := [(2, .int 0), (3, .int 30), (0, .ref (a 0)), (1, .int p_0)]) hx hb d_Md_menAs_27 rfl hl (by decide) rfl (fun ls hl => ?_)
    refine lv_iinc (v := 31) (lv' := [(3, .int 31), (2, .int 0), (0, .ref (a 0)), (1, .int p_0)]) hx hb d_Md_menAs_28 hl (k := 1) rfl (by decide +kernel) (by decide) rfl (fun ls hl => ?_)
    refine lv_goto (tgt := 4) hx hb d_Md_menAs_31 (by decide) ?_
    refine lv_iload_n hx hb d_Md_menAs_4 rfl (lv_at hl 0 rfl) ?_
    refine lv_bipush (v := 40) hx hb d_Md_menAs_5 (by decide +kernel) ?_
    refine lv_icmp_ge (tgt := 34) hx hb d_Md_menAs_7 (by decide) (fun h => absurd h (by decide +kernel)) (fun _ => ?_)
    refine lv_iload_n hx hb d_Md_menAs_10 rfl (lv_at hl 1 rfl) ?_
    refine lv_aload_n hx hb d_Md_menAs_11 rfl (lv_at hl 2 rfl) ?_
    refine va_get (D := (dC, dI)) (ci := 7) (v := .ref (a 6)) (C := R_Md) (T := F_Md) (N := 64) hx hb htb i_Md hown hK hP 0 rfl rfl 9 (by decide) (htb (.fieldLink R_Md 58 "WaterMenModel" "state" "[I") tw_11) (fun _ h9 => h9) rfl d_Md_menAs_12 ?_
    refine lv_iload_n hx hb d_Md_menAs_15 rfl (lv_at hl 0 rfl) ?_
    refine va_iald hx hb hK hP 6 5 rfl rfl (by unfold vp_in; decide +kernel) d_Md_menAs_16 ?_
    refine hb_ti 0 rfl ?_
    refine lv_iload_n hx hb d_Md_menAs_17 rfl (lv_at hl 3 rfl) ?_
    refine lv_icmp_ne (tgt := 25) hx hb d_Md_menAs_18 (by decide) (fun _ => ?_) (fun h => absurd h c_1)
    refine lv_iconst (v := 0) hx hb d_Md_menAs_25 (by decide +kernel) ?_
    refine lv_iadd hx hb d_Md_menAs_26 ?_
    refine hb_ti 0 (by decide +kernel) ?_
    refine lv_istore_n (lv' := [(2, .int 0), (3, .int 31), (0, .ref (a 0)), (1, .int p_0)]) hx hb d_Md_menAs_27 rfl hl (by decide) rfl (fun ls hl => ?_)
    refine lv_iinc (v := 32) (lv' := [(3, .int 32), (2, .int 0), (0, .ref (a 0)), (1, .int p_0)]) hx hb d_Md_menAs_28 hl (k := 1) rfl (by decide +kernel) (by decide) rfl (fun ls hl => ?_)
    refine lv_goto (tgt := 4) hx hb d_Md_menAs_31 (by decide) ?_
    refine lv_iload_n hx hb d_Md_menAs_4 rfl (lv_at hl 0 rfl) ?_
    refine lv_bipush (v := 40) hx hb d_Md_menAs_5 (by decide +kernel) ?_
    refine lv_icmp_ge (tgt := 34) hx hb d_Md_menAs_7 (by decide) (fun h => absurd h (by decide +kernel)) (fun _ => ?_)
    refine lv_iload_n hx hb d_Md_menAs_10 rfl (lv_at hl 1 rfl) ?_
    refine lv_aload_n hx hb d_Md_menAs_11 rfl (lv_at hl 2 rfl) ?_
    refine va_get (D := (dC, dI)) (ci := 7) (v := .ref (a 6)) (C := R_Md) (T := F_Md) (N := 64) hx hb htb i_Md hown hK hP 0 rfl rfl 9 (by decide) (htb (.fieldLink R_Md 58 "WaterMenModel" "state" "[I") tw_11) (fun _ h9 => h9) rfl d_Md_menAs_12 ?_
    refine lv_iload_n hx hb d_Md_menAs_15 rfl (lv_at hl 0 rfl) ?_
    refine va_iald hx hb hK hP 6 5 rfl rfl (by unfold vp_in; decide +kernel) d_Md_menAs_16 ?_
    refine hb_ti 0 rfl ?_
    refine lv_iload_n hx hb d_Md_menAs_17 rfl (lv_at hl 3 rfl) ?_
    refine lv_icmp_ne (tgt := 25) hx hb d_Md_menAs_18 (by decide) (fun _ => ?_) (fun h => absurd h c_1)
    refine lv_iconst (v := 0) hx hb d_Md_menAs_25 (by decide +kernel) ?_
    refine lv_iadd hx hb d_Md_menAs_26 ?_
    refine hb_ti 0 (by decide +kernel) ?_
    refine lv_istore_n (lv' := [(2, .int 0), (3, .int 32), (0, .ref (a 0)), (1, .int p_0)]) hx hb d_Md_menAs_27 rfl hl (by decide) rfl (fun ls hl => ?_)
    refine lv_iinc (v := 33) (lv' := [(3, .int 33), (2, .int 0), (0, .ref (a 0)), (1, .int p_0)]) hx hb d_Md_menAs_28 hl (k := 1) rfl (by decide +kernel) (by decide) rfl (fun ls hl => ?_)
    refine lv_goto (tgt := 4) hx hb d_Md_menAs_31 (by decide) ?_
    refine lv_iload_n hx hb d_Md_menAs_4 rfl (lv_at hl 0 rfl) ?_
    refine lv_bipush (v := 40) hx hb d_Md_menAs_5 (by decide +kernel) ?_
    refine lv_icmp_ge (tgt := 34) hx hb d_Md_menAs_7 (by decide) (fun h => absurd h (by decide +kernel)) (fun _ => ?_)
    refine lv_iload_n hx hb d_Md_menAs_10 rfl (lv_at hl 1 rfl) ?_
    refine lv_aload_n hx hb d_Md_menAs_11 rfl (lv_at hl 2 rfl) ?_
    refine va_get (D := (dC, dI)) (ci := 7) (v := .ref (a 6)) (C := R_Md) (T := F_Md) (N := 64) hx hb htb i_Md hown hK hP 0 rfl rfl 9 (by decide) (htb (.fieldLink R_Md 58 "WaterMenModel" "state" "[I") tw_11) (fun _ h9 => h9) rfl d_Md_menAs_12 ?_
    refine lv_iload_n hx hb d_Md_menAs_15 rfl (lv_at hl 0 rfl) ?_
    refine va_iald hx hb hK hP 6 5 rfl rfl (by unfold vp_in; decide +kernel) d_Md_menAs_16 ?_
    refine hb_ti 0 rfl ?_
    refine lv_iload_n hx hb d_Md_menAs_17 rfl (lv_at hl 3 rfl) ?_
    refine lv_icmp_ne (tgt := 25) hx hb d_Md_menAs_18 (by decide) (fun _ => ?_) (fun h => absurd h c_1)
    refine lv_iconst (v := 0) hx hb d_Md_menAs_25 (by decide +kernel) ?_
    refine lv_iadd hx hb d_Md_menAs_26 ?_
    refine hb_ti 0 (by decide +kernel) ?_
    refine lv_istore_n (lv' := [(2, .int 0), (3, .int 33), (0, .ref (a 0)), (1, .int p_0)]) hx hb d_Md_menAs_27 rfl hl (by decide) rfl (fun ls hl => ?_)
    refine lv_iinc (v := 34) (lv' := [(3, .int 34), (2, .int 0), (0, .ref (a 0)), (1, .int p_0)]) hx hb d_Md_menAs_28 hl (k := 1) rfl (by decide +kernel) (by decide) rfl (fun ls hl => ?_)
    refine lv_goto (tgt := 4) hx hb d_Md_menAs_31 (by decide) ?_
    refine lv_iload_n hx hb d_Md_menAs_4 rfl (lv_at hl 0 rfl) ?_
    refine lv_bipush (v := 40) hx hb d_Md_menAs_5 (by decide +kernel) ?_
    refine lv_icmp_ge (tgt := 34) hx hb d_Md_menAs_7 (by decide) (fun h => absurd h (by decide +kernel)) (fun _ => ?_)
    refine lv_iload_n hx hb d_Md_menAs_10 rfl (lv_at hl 1 rfl) ?_
    refine lv_aload_n hx hb d_Md_menAs_11 rfl (lv_at hl 2 rfl) ?_
    refine va_get (D := (dC, dI)) (ci := 7) (v := .ref (a 6)) (C := R_Md) (T := F_Md) (N := 64) hx hb htb i_Md hown hK hP 0 rfl rfl 9 (by decide) (htb (.fieldLink R_Md 58 "WaterMenModel" "state" "[I") tw_11) (fun _ h9 => h9) rfl d_Md_menAs_12 ?_
    refine lv_iload_n hx hb d_Md_menAs_15 rfl (lv_at hl 0 rfl) ?_
    refine va_iald hx hb hK hP 6 5 rfl rfl (by unfold vp_in; decide +kernel) d_Md_menAs_16 ?_
    refine hb_ti 0 rfl ?_
    refine lv_iload_n hx hb d_Md_menAs_17 rfl (lv_at hl 3 rfl) ?_
    refine lv_icmp_ne (tgt := 25) hx hb d_Md_menAs_18 (by decide) (fun _ => ?_) (fun h => absurd h c_1)
    refine lv_iconst (v := 0) hx hb d_Md_menAs_25 (by decide +kernel) ?_
    refine lv_iadd hx hb d_Md_menAs_26 ?_
    refine hb_ti 0 (by decide +kernel) ?_
    refine lv_istore_n (lv' := [(2, .int 0), (3, .int 34), (0, .ref (a 0)), (1, .int p_0)]) hx hb d_Md_menAs_27 rfl hl (by decide) rfl (fun ls hl => ?_)
    refine lv_iinc (v := 35) (lv' := [(3, .int 35), (2, .int 0), (0, .ref (a 0)), (1, .int p_0)]) hx hb d_Md_menAs_28 hl (k := 1) rfl (by decide +kernel) (by decide) rfl (fun ls hl => ?_)
    refine lv_goto (tgt := 4) hx hb d_Md_menAs_31 (by decide) ?_
    refine lv_iload_n hx hb d_Md_menAs_4 rfl (lv_at hl 0 rfl) ?_
    refine lv_bipush (v := 40) hx hb d_Md_menAs_5 (by decide +kernel) ?_
    refine lv_icmp_ge (tgt := 34) hx hb d_Md_menAs_7 (by decide) (fun h => absurd h (by decide +kernel)) (fun _ => ?_)
    refine lv_iload_n hx hb d_Md_menAs_10 rfl (lv_at hl 1 rfl) ?_
    refine lv_aload_n hx hb d_Md_menAs_11 rfl (lv_at hl 2 rfl) ?_
    refine va_get (D := (dC, dI)) (ci := 7) (v := .ref (a 6)) (C := R_Md) (T := F_Md) (N := 64) hx hb htb i_Md hown hK hP 0 rfl rfl 9 (by decide) (htb (.fieldLink R_Md 58 "WaterMenModel" "state" "[I") tw_11) (fun _ h9 => h9) rfl d_Md_menAs_12 ?_
    refine lv_iload_n hx hb d_Md_menAs_15 rfl (lv_at hl 0 rfl) ?_
    refine va_iald hx hb hK hP 6 5 rfl rfl (by unfold vp_in; decide +kernel) d_Md_menAs_16 ?_
    refine hb_ti 0 rfl ?_
    refine lv_iload_n hx hb d_Md_menAs_17 rfl (lv_at hl 3 rfl) ?_
    refine lv_icmp_ne (tgt := 25) hx hb d_Md_menAs_18 (by decide) (fun _ => ?_) (fun h => absurd h c_1)
    refine lv_iconst (v := 0) hx hb d_Md_menAs_25 (by decide +kernel) ?_
    refine lv_iadd hx hb d_Md_menAs_26 ?_
    refine hb_ti 0 (by decide +kernel) ?_
    refine lv_istore_n (lv' := [(2, .int 0), (3, .int 35), (0, .ref (a 0)), (1, .int p_0)]) hx hb d_Md_menAs_27 rfl hl (by decide) rfl (fun ls hl => ?_)
    refine lv_iinc (v := 36) (lv' := [(3, .int 36), (2, .int 0), (0, .ref (a 0)), (1, .int p_0)]) hx hb d_Md_menAs_28 hl (k := 1) rfl (by decide +kernel) (by decide) rfl (fun ls hl => ?_)
    refine lv_goto (tgt := 4) hx hb d_Md_menAs_31 (by decide) ?_
    refine lv_iload_n hx hb d_Md_menAs_4 rfl (lv_at hl 0 rfl) ?_
    refine lv_bipush (v := 40) hx hb d_Md_menAs_5 (by decide +kernel) ?_
    refine lv_icmp_ge (tgt := 34) hx hb d_Md_menAs_7 (by decide) (fun h => absurd h (by decide +kernel)) (fun _ => ?_)
    refine lv_iload_n hx hb d_Md_menAs_10 rfl (lv_at hl 1 rfl) ?_
    refine lv_aload_n hx hb d_Md_menAs_11 rfl (lv_at hl 2 rfl) ?_
    refine va_get (D := (dC, dI)) (ci := 7) (v := .ref (a 6)) (C := R_Md) (T := F_Md) (N := 64) hx hb htb i_Md hown hK hP 0 rfl rfl 9 (by decide) (htb (.fieldLink R_Md 58 "WaterMenModel" "state" "[I") tw_11) (fun _ h9 => h9) rfl d_Md_menAs_12 ?_
    refine lv_iload_n hx hb d_Md_menAs_15 rfl (lv_at hl 0 rfl) ?_
    refine va_iald hx hb hK hP 6 5 rfl rfl (by unfold vp_in; decide +kernel) d_Md_menAs_16 ?_
    refine hb_ti 0 rfl ?_
    refine lv_iload_n hx hb d_Md_menAs_17 rfl (lv_at hl 3 rfl) ?_
    refine lv_icmp_ne (tgt := 25) hx hb d_Md_menAs_18 (by decide) (fun _ => ?_) (fun h => absurd h c_1)
    refine lv_iconst (v := 0) hx hb d_Md_menAs_25 (by decide +kernel) ?_
    refine lv_iadd hx hb d_Md_menAs_26 ?_
    refine hb_ti 0 (by decide +kernel) ?_
    refine lv_istore_n (lv' := [(2, .int 0), (3, .int 36), (0, .ref (a 0)), (1, .int p_0)]) hx hb d_Md_menAs_27 rfl hl (by decide) rfl (fun ls hl => ?_)
    refine lv_iinc (v := 37) (lv' := [(3, .int 37), (2, .int 0), (0, .ref (a 0)), (1, .int p_0)]) hx hb d_Md_menAs_28 hl (k := 1) rfl (by decide +kernel) (by decide) rfl (fun ls hl => ?_)
    refine lv_goto (tgt := 4) hx hb d_Md_menAs_31 (by decide) ?_
    refine lv_iload_n hx hb d_Md_menAs_4 rfl (lv_at hl 0 rfl) ?_
    refine lv_bipush (v := 40) hx hb d_Md_menAs_5 (by decide +kernel) ?_
    refine lv_icmp_ge (tgt := 34) hx hb d_Md_menAs_7 (by decide) (fun h => absurd h (by decide +kernel)) (fun _ => ?_)
    refine lv_iload_n hx hb d_Md_menAs_10 rfl (lv_at hl 1 rfl) ?_
    refine lv_aload_n hx hb d_Md_menAs_11 rfl (lv_at hl 2 rfl) ?_
    refine va_get (D := (dC, dI)) (ci := 7) (v := .ref (a 6)) (C := R_Md) (T := F_Md) (N := 64) hx hb htb i_Md hown hK hP 0 rfl rfl 9 (by decide) (htb (.fieldLink R_Md 58 "WaterMenModel" "state" "[I") tw_11) (fun _ h9 => h9) rfl d_Md_menAs_12 ?_
    refine lv_iload_n hx hb d_Md_menAs_15 rfl (lv_at hl 0 rfl) ?_
    refine va_iald hx hb hK hP 6 5 rfl rfl (by unfold vp_in; decide +kernel) d_Md_menAs_16 ?_
    refine hb_ti 0 rfl ?_
    refine lv_iload_n hx hb d_Md_menAs_17 rfl (lv_at hl 3 rfl) ?_
    refine lv_icmp_ne (tgt := 25) hx hb d_Md_menAs_18 (by decide) (fun _ => ?_) (fun h => absurd h c_1)
    refine lv_iconst (v := 0) hx hb d_Md_menAs_25 (by decide +kernel) ?_
    refine lv_iadd hx hb d_Md_menAs_26 ?_
    refine hb_ti 0 (by decide +kernel) ?_
    refine lv_istore_n (lv' := [(2, .int 0), (3, .int 37), (0, .ref (a 0)), (1, .int p_0)]) hx hb d_Md_menAs_27 rfl hl (by decide) rfl (fun ls hl => ?_)
    refine lv_iinc (v := 38) (lv' := [(3, .int 38), (2, .int 0), (0, .ref (a 0)), (1, .int p_0)]) hx hb d_Md_menAs_28 hl (k := 1) rfl (by decide +kernel) (by decide) rfl (fun ls hl => ?_)
    refine lv_goto (tgt := 4) hx hb d_Md_menAs_31 (by decide) ?_
    refine lv_iload_n hx hb d_Md_menAs_4 rfl (lv_at hl 0 rfl) ?_
    refine lv_bipush (v := 40) hx hb d_Md_menAs_5 (by decide +kernel) ?_
    refine lv_icmp_ge (tgt := 34) hx hb d_Md_menAs_7 (by decide) (fun h => absurd h (by decide +kernel)) (fun _ => ?_)
    refine lv_iload_n hx hb d_Md_menAs_10 rfl (lv_at hl 1 rfl) ?_
    refine lv_aload_n hx hb d_Md_menAs_11 rfl (lv_at hl 2 rfl) ?_
    refine va_get (D := (dC, dI)) (ci := 7) (v := .ref (a 6)) (C := R_Md) (T := F_Md) (N := 64) hx hb htb i_Md hown hK hP 0 rfl rfl 9 (by decide) (htb (.fieldLink R_Md 58 "WaterMenModel" "state" "[I") tw_11) (fun _ h9 => h9) rfl d_Md_menAs_12 ?_
    refine lv_iload_n hx hb d_Md_menAs_15 rfl (lv_at hl 0 rfl) ?_
    refine va_iald hx hb hK hP 6 5 rfl rfl (by unfold vp_in; decide +kernel) d_Md_menAs_16 ?_
    refine hb_ti 0 rfl ?_
    refine lv_iload_n hx hb d_Md_menAs_17 rfl (lv_at hl 3 rfl) ?_
    refine lv_icmp_ne (tgt := 25) hx hb d_Md_menAs_18 (by decide) (fun _ => ?_) (fun h => absurd h c_1)
    refine lv_iconst (v := 0) hx hb d_Md_menAs_25 (by decide +kernel) ?_
    refine lv_iadd hx hb d_Md_menAs_26 ?_
    refine hb_ti 0 (by decide +kernel) ?_
    refine lv_istore_n (lv' := [(2, .int 0), (3, .int 38), (0, .ref (a 0)), (1, .int p_0)]) hx hb d_Md_menAs_27 rfl hl (by decide) rfl (fun ls hl => ?_)
    refine lv_iinc (v := 39) (lv' := [(3, .int 39), (2, .int 0), (0, .ref (a 0)), (1, .int p_0)]) hx hb d_Md_menAs_28 hl (k := 1) rfl (by decide +kernel) (by decide) rfl (fun ls hl => ?_)
    refine lv_goto (tgt := 4) hx hb d_Md_menAs_31 (by decide) ?_
    refine lv_iload_n hx hb d_Md_menAs_4 rfl (lv_at hl 0 rfl) ?_
    refine lv_bipush (v := 40) hx hb d_Md_menAs_5 (by decide +kernel) ?_
    refine lv_icmp_ge (tgt := 34) hx hb d_Md_menAs_7 (by decide) (fun h => absurd h (by decide +kernel)) (fun _ => ?_)
    refine lv_iload_n hx hb d_Md_menAs_10 rfl (lv_at hl 1 rfl) ?_
    refine lv_aload_n hx hb d_Md_menAs_11 rfl (lv_at hl 2 rfl) ?_
    refine va_get (D := (dC, dI)) (ci := 7) (v := .ref (a 6)) (C := R_Md) (T := F_Md) (N := 64) hx hb htb i_Md hown hK hP 0 rfl rfl 9 (by decide) (htb (.fieldLink R_Md 58 "WaterMenModel" "state" "[I") tw_11) (fun _ h9 => h9) rfl d_Md_menAs_12 ?_
    refine lv_iload_n hx hb d_Md_menAs_15 rfl (lv_at hl 0 rfl) ?_
    refine va_iald hx hb hK hP 6 5 rfl rfl (by unfold vp_in; decide +kernel) d_Md_menAs_16 ?_
    refine hb_ti 0 rfl ?_
    refine lv_iload_n hx hb d_Md_menAs_17 rfl (lv_at hl 3 rfl) ?_
    refine lv_icmp_ne (tgt := 25) hx hb d_Md_menAs_18 (by decide) (fun _ => ?_) (fun h => absurd h c_1)
    refine lv_iconst (v := 0) hx hb d_Md_menAs_25 (by decide +kernel) ?_
    refine lv_iadd hx hb d_Md_menAs_26 ?_
    refine hb_ti 0 (by decide +kernel) ?_
    refine lv_istore_n (lv' := [(2, .int 0), (3, .int 39), (0, .ref (a 0)), (1, .int p_0)]) hx hb d_Md_menAs_27 rfl hl (by decide) rfl (fun ls hl => ?_)
    refine lv_iinc (v := 40) (lv' := [(3, .int 40), (2, .int 0), (0, .ref (a 0)), (1, .int p_0)]) hx hb d_Md_menAs_28 hl (k := 1) rfl (by decide +kernel) (by decide) rfl (fun ls hl => ?_)
    refine lv_goto (tgt := 4) hx hb d_Md_menAs_31 (by decide) ?_
    refine lv_iload_n hx hb d_Md_menAs_4 rfl (lv_at hl 0 rfl) ?_
    refine lv_bipush (v := 40) hx hb d_Md_menAs_5 (by decide +kernel) ?_
    refine lv_icmp_ge (tgt := 34) hx hb d_Md_menAs_7 (by decide) (fun _ => ?_) (fun h => absurd (by decide +kernel) h)
    refine lv_iload_n hx hb d_Md_menAs_34 rfl (lv_at hl 1 rfl) ?_
    exact W.iret (v := 0) hx hb hr (fun t ht hW => ⟨0, rfl, (by unfold f_Md_menAs; rw [if_neg c_1]), ht⟩) t_nil d_Md_menAs_35
  · refine lv_iconst (v := 1) hx hb d_Md_menAs_21 (by decide +kernel) ?_
    refine lv_goto (tgt := 26) hx hb d_Md_menAs_22 (by decide) ?_
    refine lv_iadd hx hb d_Md_menAs_26 ?_
    refine hb_ti 1 (by decide +kernel) ?_
    refine lv_istore_n (lv' := [(2, .int 1), (3, .int 0), (0, .ref (a 0)), (1, .int p_0)]) hx hb d_Md_menAs_27 rfl hl (by decide) rfl (fun ls hl => ?_)
    refine lv_iinc (v := 1) (lv' := [(3, .int 1), (2, .int 1), (0, .ref (a 0)), (1, .int p_0)]) hx hb d_Md_menAs_28 hl (k := 1) rfl (by decide +kernel) (by decide) rfl (fun ls hl => ?_)
    refine lv_goto (tgt := 4) hx hb d_Md_menAs_31 (by decide) ?_
    refine lv_iload_n hx hb d_Md_menAs_4 rfl (lv_at hl 0 rfl) ?_
    refine lv_bipush (v := 40) hx hb d_Md_menAs_5 (by decide +kernel) ?_
    refine lv_icmp_ge (tgt := 34) hx hb d_Md_menAs_7 (by decide) (fun h => absurd h (by decide +kernel)) (fun _ => ?_)
    refine lv_iload_n hx hb d_Md_menAs_10 rfl (lv_at hl 1 rfl) ?_
    refine lv_aload_n hx hb d_Md_menAs_11 rfl (lv_at hl 2 rfl) ?_
    refine va_get (D := (dC, dI)) (ci := 7) (v := .ref (a 6)) (C := R_Md) (T := F_Md) (N := 64) hx hb htb i_Md hown hK hP 0 rfl rfl 9 (by decide) (htb (.fieldLink R_Md 58 "WaterMenModel" "state" "[I") tw_11) (fun _ h9 => h9) rfl d_Md_menAs_12 ?_
    refine lv_iload_n hx hb d_Md_menAs_15 rfl (lv_at hl 0 rfl) ?_
    refine va_iald hx hb hK hP 6 5 rfl rfl (by unfold vp_in; decide +kernel) d_Md_menAs_16 ?_
    refine hb_ti 0 rfl ?_
    refine lv_iload_n hx hb d_Md_menAs_17 rfl (lv_at hl 3 rfl) ?_
    refine lv_icmp_ne (tgt := 25) hx hb d_Md_menAs_18 (by decide) (fun h => absurd c_1 h) (fun _ => ?_)
    refine lv_iconst (v := 1) hx hb d_Md_menAs_21 (by decide +kernel) ?_
    refine lv_goto (tgt := 26) hx hb d_Md_menAs_22 (by decide) ?_
    refine lv_iadd hx hb d_Md_menAs_26 ?_
    refine hb_ti 2 (by decide +kernel) ?_
    refine lv_istore_n (lv' := [(2, .int 2), (3, .int 1), (0, .ref (a 0)), (1, .int p_0)]) hx hb d_Md_menAs_27 rfl hl (by decide) rfl (fun ls hl => ?_)
    refine lv_iinc (v := 2) (lv' := [(3, .int 2), (2, .int 2), (0, .ref (a 0)), (1, .int p_0)]) hx hb d_Md_menAs_28 hl (k := 1) rfl (by decide +kernel) (by decide) rfl (fun ls hl => ?_)
    refine lv_goto (tgt := 4) hx hb d_Md_menAs_31 (by decide) ?_
    refine lv_iload_n hx hb d_Md_menAs_4 rfl (lv_at hl 0 rfl) ?_
    refine lv_bipush (v := 40) hx hb d_Md_menAs_5 (by decide +kernel) ?_
    refine lv_icmp_ge (tgt := 34) hx hb d_Md_menAs_7 (by decide) (fun h => absurd h (by decide +kernel)) (fun _ => ?_)
    refine lv_iload_n hx hb d_Md_menAs_10 rfl (lv_at hl 1 rfl) ?_
    refine lv_aload_n hx hb d_Md_menAs_11 rfl (lv_at hl 2 rfl) ?_
    refine va_get (D := (dC, dI)) (ci := 7) (v := .ref (a 6)) (C := R_Md) (T := F_Md) (N := 64) hx hb htb i_Md hown hK hP 0 rfl rfl 9 (by decide) (htb (.fieldLink R_Md 58 "WaterMenModel" "state" "[I") tw_11) (fun _ h9 => h9) rfl d_Md_menAs_12 ?_
    refine lv_iload_n hx hb d_Md_menAs_15 rfl (lv_at hl 0 rfl) ?_
    refine va_iald hx hb hK hP 6 5 rfl rfl (by unfold vp_in; decide +kernel) d_Md_menAs_16 ?_
    refine hb_ti 0 rfl ?_
    refine lv_iload_n hx hb d_Md_menAs_17 rfl (lv_at hl 3 rfl) ?_
    refine lv_icmp_ne (tgt := 25) hx hb d_Md_menAs_18 (by decide) (fun h => absurd c_1 h) (fun _ => ?_)
    refine lv_iconst (v := 1) hx hb d_Md_menAs_21 (by decide +kernel) ?_
    refine lv_goto (tgt := 26) hx hb d_Md_menAs_22 (by decide) ?_
    refine lv_iadd hx hb d_Md_menAs_26 ?_
    refine hb_ti 3 (by decide +kernel) ?_
    refine lv_istore_n (lv' := [(2, .int 3), (3, .int 2), (0, .ref (a 0)), (1, .int p_0)]) hx hb d_Md_menAs_27 rfl hl (by decide) rfl (fun ls hl => ?_)
    refine lv_iinc (v := 3) (lv' := [(3, .int 3), (2, .int 3), (0, .ref (a 0)), (1, .int p_0)]) hx hb d_Md_menAs_28 hl (k := 1) rfl (by decide +kernel) (by decide) rfl (fun ls hl => ?_)
    refine lv_goto (tgt := 4) hx hb d_Md_menAs_31 (by decide) ?_
    refine lv_iload_n hx hb d_Md_menAs_4 rfl (lv_at hl 0 rfl) ?_
    refine lv_bipush (v := 40) hx hb d_Md_menAs_5 (by decide +kernel) ?_
    refine lv_icmp_ge (tgt := 34) hx hb d_Md_menAs_7 (by decide) (fun h => absurd h (by decide +kernel)) (fun _ => ?_)
    refine lv_iload_n hx hb d_Md_menAs_10 rfl (lv_at hl 1 rfl) ?_
    refine lv_aload_n hx hb d_Md_menAs_11 rfl (lv_at hl 2 rfl) ?_
    refine va_get (D := (dC, dI)) (ci := 7) (v := .ref (a 6)) (C := R_Md) (T := F_Md) (N := 64) hx hb htb i_Md hown hK hP 0 rfl rfl 9 (by decide) (htb (.fieldLink R_Md 58 "WaterMenModel" "state" "[I") tw_11) (fun _ h9 => h9) rfl d_Md_menAs_12 ?_
    refine lv_iload_n hx hb d_Md_menAs_15 rfl (lv_at hl 0 rfl) ?_
    refine va_iald hx hb hK hP 6 5 rfl rfl (by unfold vp_in; decide +kernel) d_Md_menAs_16 ?_
    refine hb_ti 0 rfl ?_
    refine lv_iload_n hx hb d_Md_menAs_17 rfl (lv_at hl 3 rfl) ?_
    refine lv_icmp_ne (tgt := 25) hx hb d_Md_menAs_18 (by decide) (fun h => absurd c_1 h) (fun _ => ?_)
    refine lv_iconst (v := 1) hx hb d_Md_menAs_21 (by decide +kernel) ?_
    refine lv_goto (tgt := 26) hx hb d_Md_menAs_22 (by decide) ?_
    refine lv_iadd hx hb d_Md_menAs_26 ?_
    refine hb_ti 4 (by decide +kernel) ?_
    refine lv_istore_n (lv' := [(2, .int 4), (3, .int 3), (0, .ref (a 0)), (1, .int p_0)]) hx hb d_Md_menAs_27 rfl hl (by decide) rfl (fun ls hl => ?_)
    refine lv_iinc (v := 4) (lv' := [(3, .int 4), (2, .int 4), (0, .ref (a 0)), (1, .int p_0)]) hx hb d_Md_menAs_28 hl (k := 1) rfl (by decide +kernel) (by decide) rfl (fun ls hl => ?_)
    refine lv_goto (tgt := 4) hx hb d_Md_menAs_31 (by decide) ?_
    refine lv_iload_n hx hb d_Md_menAs_4 rfl (lv_at hl 0 rfl) ?_
    refine lv_bipush (v := 40) hx hb d_Md_menAs_5 (by decide +kernel) ?_
    refine lv_icmp_ge (tgt := 34) hx hb d_Md_menAs_7 (by decide) (fun h => absurd h (by decide +kernel)) (fun _ => ?_)
    refine lv_iload_n hx hb d_Md_menAs_10 rfl (lv_at hl 1 rfl) ?_
    refine lv_aload_n hx hb d_Md_menAs_11 rfl (lv_at hl 2 rfl) ?_
    refine va_get (D := (dC, dI)) (ci := 7) (v := .ref (a 6)) (C := R_Md) (T := F_Md) (N := 64) hx hb htb i_Md hown hK hP 0 rfl rfl 9 (by decide) (htb (.fieldLink R_Md 58 "WaterMenModel" "state" "[I") tw_11) (fun _ h9 => h9) rfl d_Md_menAs_12 ?_
    refine lv_iload_n hx hb d_Md_menAs_15 rfl (lv_at hl 0 rfl) ?_
    refine va_iald hx hb hK hP 6 5 rfl rfl (by unfold vp_in; decide +kernel) d_Md_menAs_16 ?_
    refine hb_ti 0 rfl ?_
    refine lv_iload_n hx hb d_Md_menAs_17 rfl (lv_at hl 3 rfl) ?_
    refine lv_icmp_ne (tgt := 25) hx hb d_Md_menAs_18 (by decide) (fun h => absurd c_1 h) (fun _ => ?_)
    refine lv_iconst (v := 1) hx hb d_Md_menAs_21 (by decide +kernel) ?_
    refine lv_goto (tgt := 26) hx hb d_Md_menAs_22 (by decide) ?_
    refine lv_iadd hx hb d_Md_menAs_26 ?_
    refine hb_ti 5 (by decide +kernel) ?_
    refine lv_istore_n (lv' := [(2, .int 5), (3, .int 4), (0, .ref (a 0)), (1, .int p_0)]) hx hb d_Md_menAs_27 rfl hl (by decide) rfl (fun ls hl => ?_)
    refine lv_iinc (v := 5) (lv' := [(3, .int 5), (2, .int 5), (0, .ref (a 0)), (1, .int p_0)]) hx hb d_Md_menAs_28 hl (k := 1) rfl (by decide +kernel) (by decide) rfl (fun ls hl => ?_)
    refine lv_goto (tgt := 4) hx hb d_Md_menAs_31 (by decide) ?_
    refine lv_iload_n hx hb d_Md_menAs_4 rfl (lv_at hl 0 rfl) ?_
    refine lv_bipush (v := 40) hx hb d_Md_menAs_5 (by decide +kernel) ?_
    refine lv_icmp_ge (tgt := 34) hx hb d_Md_menAs_7 (by decide) (fun h => absurd h (by decide +kernel)) (fun _ => ?_)
    refine lv_iload_n hx hb d_Md_menAs_10 rfl (lv_at hl 1 rfl) ?_
    refine lv_aload_n hx hb d_Md_menAs_11 rfl (lv_at hl 2 rfl) ?_
    refine va_get (D := (dC, dI)) (ci := 7) (v := .ref (a 6)) (C := R_Md) (T := F_Md) (N := 64) hx hb htb i_Md hown hK hP 0 rfl rfl 9 (by decide) (htb (.fieldLink R_Md 58 "WaterMenModel" "state" "[I") tw_11) (fun _ h9 => h9) rfl d_Md_menAs_12 ?_
    refine lv_iload_n hx hb d_Md_menAs_15 rfl (lv_at hl 0 rfl) ?_
    refine va_iald hx hb hK hP 6 5 rfl rfl (by unfold vp_in; decide +kernel) d_Md_menAs_16 ?_
    refine hb_ti 0 rfl ?_
    refine lv_iload_n hx hb d_Md_menAs_17 rfl (lv_at hl 3 rfl) ?_
    refine lv_icmp_ne (tgt := 25) hx hb d_Md_menAs_18 (by decide) (fun h => absurd c_1 h) (fun _ => ?_)
    refine lv_iconst (v := 1) hx hb d_Md_menAs_21 (by decide +kernel) ?_
    refine lv_goto (tgt := 26) hx hb d_Md_menAs_22 (by decide) ?_
    refine lv_iadd hx hb d_Md_menAs_26 ?_
    refine hb_ti 6 (by decide +kernel) ?_
    refine lv_istore_n (lv' := [(2, .int 6), (3, .int 5), (0, .ref (a 0)), (1, .int p_0)]) hx hb d_Md_menAs_27 rfl hl (by decide) rfl (fun ls hl => ?_)
    refine lv_iinc (v := 6) (lv' := [(3, .int 6), (2, .int 6), (0, .ref (a 0)), (1, .int p_0)]) hx hb d_Md_menAs_28 hl (k := 1) rfl (by decide +kernel) (by decide) rfl (fun ls hl => ?_)
    refine lv_goto (tgt := 4) hx hb d_Md_menAs_31 (by decide) ?_
    refine lv_iload_n hx hb d_Md_menAs_4 rfl (lv_at hl 0 rfl) ?_
    refine lv_bipush (v := 40) hx hb d_Md_menAs_5 (by decide +kernel) ?_
    refine lv_icmp_ge (tgt := 34) hx hb d_Md_menAs_7 (by decide) (fun h => absurd h (by decide +kernel)) (fun _ => ?_)
    refine lv_iload_n hx hb d_Md_menAs_10 rfl (lv_at hl 1 rfl) ?_
    refine lv_aload_n hx hb d_Md_menAs_11 rfl (lv_at hl 2 rfl) ?_
    refine va_get (D := (dC, dI)) (ci := 7) (v := .ref (a 6)) (C := R_Md) (T := F_Md) (N := 64) hx hb htb i_Md hown hK hP 0 rfl rfl 9 (by decide) (htb (.fieldLink R_Md 58 "WaterMenModel" "state" "[I") tw_11) (fun _ h9 => h9) rfl d_Md_menAs_12 ?_
    refine lv_iload_n hx hb d_Md_menAs_15 rfl (lv_at hl 0 rfl) ?_
    refine va_iald hx hb hK hP 6 5 rfl rfl (by unfold vp_in; decide +kernel) d_Md_menAs_16 ?_
    refine hb_ti 0 rfl ?_
    refine lv_iload_n hx hb d_Md_menAs_17 rfl (lv_at hl 3 rfl) ?_
    refine lv_icmp_ne (tgt := 25) hx hb d_Md_menAs_18 (by decide) (fun h => absurd c_1 h) (fun _ => ?_)
    refine lv_iconst (v := 1) hx hb d_Md_menAs_21 (by decide +kernel) ?_
    refine lv_goto (tgt := 26) hx hb d_Md_menAs_22 (by decide) ?_
    refine lv_iadd hx hb d_Md_menAs_26 ?_
    refine hb_ti 7 (by decide +kernel) ?_
    refine lv_istore_n (lv' := [(2, .int 7), (3, .int 6), (0, .ref (a 0)), (1, .int p_0)]) hx hb d_Md_menAs_27 rfl hl (by decide) rfl (fun ls hl => ?_)
    refine lv_iinc (v := 7) (lv' := [(3, .int 7), (2, .int 7), (0, .ref (a 0)), (1, .int p_0)]) hx hb d_Md_menAs_28 hl (k := 1) rfl (by decide +kernel) (by decide) rfl (fun ls hl => ?_)
    refine lv_goto (tgt := 4) hx hb d_Md_menAs_31 (by decide) ?_
    refine lv_iload_n hx hb d_Md_menAs_4 rfl (lv_at hl 0 rfl) ?_
    refine lv_bipush (v := 40) hx hb d_Md_menAs_5 (by decide +kernel) ?_
    refine lv_icmp_ge (tgt := 34) hx hb d_Md_menAs_7 (by decide) (fun h => absurd h (by decide +kernel)) (fun _ => ?_)
    refine lv_iload_n hx hb d_Md_menAs_10 rfl (lv_at hl 1 rfl) ?_
    refine lv_aload_n hx hb d_Md_menAs_11 rfl (lv_at hl 2 rfl) ?_
    refine va_get (D := (dC, dI)) (ci := 7) (v := .ref (a 6)) (C := R_Md) (T := F_Md) (N := 64) hx hb htb i_Md hown hK hP 0 rfl rfl 9 (by decide) (htb (.fieldLink R_Md 58 "WaterMenModel" "state" "[I") tw_11) (fun _ h9 => h9) rfl d_Md_menAs_12 ?_
    refine lv_iload_n hx hb d_Md_menAs_15 rfl (lv_at hl 0 rfl) ?_
    refine va_iald hx hb hK hP 6 5 rfl rfl (by unfold vp_in; decide +kernel) d_Md_menAs_16 ?_
    refine hb_ti 0 rfl ?_
    refine lv_iload_n hx hb d_Md_menAs_17 rfl (lv_at hl 3 rfl) ?_
    refine lv_icmp_ne (tgt := 25) hx hb d_Md_menAs_18 (by decide) (fun h => absurd c_1 h) (fun _ => ?_)
    refine lv_iconst (v := 1) hx hb d_Md_menAs_21 (by decide +kernel) ?_
    refine lv_goto (tgt := 26) hx hb d_Md_menAs_22 (by decide) ?_
    refine lv_iadd hx hb d_Md_menAs_26 ?_
    refine hb_ti 8 (by decide +kernel) ?_
    refine lv_istore_n (lv' := [(2, .int 8), (3, .int 7), (0, .ref (a 0)), (1, .int p_0)]) hx hb d_Md_menAs_27 rfl hl (by decide) rfl (fun ls hl => ?_)
    refine lv_iinc (v := 8) (lv' := [(3, .int 8), (2, .int 8), (0, .ref (a 0)), (1, .int p_0)]) hx hb d_Md_menAs_28 hl (k := 1) rfl (by decide +kernel) (by decide) rfl (fun ls hl => ?_)
    refine lv_goto (tgt := 4) hx hb d_Md_menAs_31 (by decide) ?_
    refine lv_iload_n hx hb d_Md_menAs_4 rfl (lv_at hl 0 rfl) ?_
    refine lv_bipush (v := 40) hx hb d_Md_menAs_5 (by decide +kernel) ?_
    refine lv_icmp_ge (tgt := 34) hx hb d_Md_menAs_7 (by decide) (fun h => absurd h (by decide +kernel)) (fun _ => ?_)
    refine lv_iload_n hx hb d_Md_menAs_10 rfl (lv_at hl 1 rfl) ?_
    refine lv_aload_n hx hb d_Md_menAs_11 rfl (lv_at hl 2 rfl) ?_
    refine va_get (D := (dC, dI)) (ci := 7) (v := .ref (a 6)) (C := R_Md) (T := F_Md) (N := 64) hx hb htb i_Md hown hK hP 0 rfl rfl 9 (by decide) (htb (.fieldLink R_Md 58 "WaterMenModel" "state" "[I") tw_11) (fun _ h9 => h9) rfl d_Md_menAs_12 ?_
    refine lv_iload_n hx hb d_Md_menAs_15 rfl (lv_at hl 0 rfl) ?_
    refine va_iald hx hb hK hP 6 5 rfl rfl (by unfold vp_in; decide +kernel) d_Md_menAs_16 ?_
    refine hb_ti 0 rfl ?_
    refine lv_iload_n hx hb d_Md_menAs_17 rfl (lv_at hl 3 rfl) ?_
    refine lv_icmp_ne (tgt := 25) hx hb d_Md_menAs_18 (by decide) (fun h => absurd c_1 h) (fun _ => ?_)
    refine lv_iconst (v := 1) hx hb d_Md_menAs_21 (by decide +kernel) ?_
    refine lv_goto (tgt := 26) hx hb d_Md_menAs_22 (by decide) ?_
    refine lv_iadd hx hb d_Md_menAs_26 ?_
    refine hb_ti 9 (by decide +kernel) ?_
    refine lv_istore_n (lv' := [(2, .int 9), (3, .int 8), (0, .ref (a 0)), (1, .int p_0)]) hx hb d_Md_menAs_27 rfl hl (by decide) rfl (fun ls hl => ?_)
    refine lv_iinc (v := 9) (lv' := [(3, .int 9), (2, .int 9), (0, .ref (a 0)), (1, .int p_0)]) hx hb d_Md_menAs_28 hl (k := 1) rfl (by decide +kernel) (by decide) rfl (fun ls hl => ?_)
    refine lv_goto (tgt := 4) hx hb d_Md_menAs_31 (by decide) ?_
    refine lv_iload_n hx hb d_Md_menAs_4 rfl (lv_at hl 0 rfl) ?_
    refine lv_bipush (v := 40) hx hb d_Md_menAs_5 (by decide +kernel) ?_
    refine lv_icmp_ge (tgt := 34) hx hb d_Md_menAs_7 (by decide) (fun h => absurd h (by decide +kernel)) (fun _ => ?_)
    refine lv_iload_n hx hb d_Md_menAs_10 rfl (lv_at hl 1 rfl) ?_
    refine lv_aload_n hx hb d_Md_menAs_11 rfl (lv_at hl 2 rfl) ?_
    refine va_get (D := (dC, dI)) (ci := 7) (v := .ref (a 6)) (C := R_Md) (T := F_Md) (N := 64) hx hb htb i_Md hown hK hP 0 rfl rfl 9 (by decide) (htb (.fieldLink R_Md 58 "WaterMenModel" "state" "[I") tw_11) (fun _ h9 => h9) rfl d_Md_menAs_12 ?_
    refine lv_iload_n hx hb d_Md_menAs_15 rfl (lv_at hl 0 rfl) ?_
    refine va_iald hx hb hK hP 6 5 rfl rfl (by unfold vp_in; decide +kernel) d_Md_menAs_16 ?_
    refine hb_ti 0 rfl ?_
    refine lv_iload_n hx hb d_Md_menAs_17 rfl (lv_at hl 3 rfl) ?_
    refine lv_icmp_ne (tgt := 25) hx hb d_Md_menAs_18 (by decide) (fun h => absurd c_1 h) (fun _ => ?_)
    refine lv_iconst (v := 1) hx hb d_Md_menAs_21 (by decide +kernel) ?_
    refine lv_goto (tgt := 26) hx hb d_Md_menAs_22 (by decide) ?_
    refine lv_iadd hx hb d_Md_menAs_26 ?_
    refine hb_ti 10 (by decide +kernel) ?_
    refine lv_istore_n (lv' := [(2, .int 10), (3, .int 9), (0, .ref (a 0)), (1, .int p_0)]) hx hb d_Md_menAs_27 rfl hl (by decide) rfl (fun ls hl => ?_)
    refine lv_iinc (v := 10) (lv' := [(3, .int 10), (2, .int 10), (0, .ref (a 0)), (1, .int p_0)]) hx hb d_Md_menAs_28 hl (k := 1) rfl (by decide +kernel) (by decide) rfl (fun ls hl => ?_)
    refine lv_goto (tgt := 4) hx hb d_Md_menAs_31 (by decide) ?_
    refine lv_iload_n hx hb d_Md_menAs_4 rfl (lv_at hl 0 rfl) ?_
    refine lv_bipush (v := 40) hx hb d_Md_menAs_5 (by decide +kernel) ?_
    refine lv_icmp_ge (tgt := 34) hx hb d_Md_menAs_7 (by decide) (fun h => absurd h (by decide +kernel)) (fun _ => ?_)
    refine lv_iload_n hx hb d_Md_menAs_10 rfl (lv_at hl 1 rfl) ?_
    refine lv_aload_n hx hb d_Md_menAs_11 rfl (lv_at hl 2 rfl) ?_
    refine va_get (D := (dC, dI)) (ci := 7) (v := .ref (a 6)) (C := R_Md) (T := F_Md) (N := 64) hx hb htb i_Md hown hK hP 0 rfl rfl 9 (by decide) (htb (.fieldLink R_Md 58 "WaterMenModel" "state" "[I") tw_11) (fun _ h9 => h9) rfl d_Md_menAs_12 ?_
    refine lv_iload_n hx hb d_Md_menAs_15 rfl (lv_at hl 0 rfl) ?_
    refine va_iald hx hb hK hP 6 5 rfl rfl (by unfold vp_in; decide +kernel) d_Md_menAs_16 ?_
    refine hb_ti 0 rfl ?_
    refine lv_iload_n hx hb d_Md_menAs_17 rfl (lv_at hl 3 rfl) ?_
    refine lv_icmp_ne (tgt := 25) hx hb d_Md_menAs_18 (by decide) (fun h => absurd c_1 h) (fun _ => ?_)
    refine lv_iconst (v := 1) hx hb d_Md_menAs_21 (by decide +kernel) ?_
    refine lv_goto (tgt := 26) hx hb d_Md_menAs_22 (by decide) ?_
    refine lv_iadd hx hb d_Md_menAs_26 ?_
    refine hb_ti 11 (by decide +kernel) ?_
    refine lv_istore_n (lv' := [(2, .int 11), (3, .int 10), (0, .ref (a 0)), (1, .int p_0)]) hx hb d_Md_menAs_27 rfl hl (by decide) rfl (fun ls hl => ?_)
    refine lv_iinc (v := 11) (lv' := [(3, .int 11), (2, .int 11), (0, .ref (a 0)), (1, .int p_0)]) hx hb d_Md_menAs_28 hl (k := 1) rfl (by decide +kernel) (by decide) rfl (fun ls hl => ?_)
    refine lv_goto (tgt := 4) hx hb d_Md_menAs_31 (by decide) ?_
    refine lv_iload_n hx hb d_Md_menAs_4 rfl (lv_at hl 0 rfl) ?_
    refine lv_bipush (v := 40) hx hb d_Md_menAs_5 (by decide +kernel) ?_
    refine lv_icmp_ge (tgt := 34) hx hb d_Md_menAs_7 (by decide) (fun h => absurd h (by decide +kernel)) (fun _ => ?_)
    refine lv_iload_n hx hb d_Md_menAs_10 rfl (lv_at hl 1 rfl) ?_
    refine lv_aload_n hx hb d_Md_menAs_11 rfl (lv_at hl 2 rfl) ?_
    refine va_get (D := (dC, dI)) (ci := 7) (v := .ref (a 6)) (C := R_Md) (T := F_Md) (N := 64) hx hb htb i_Md hown hK hP 0 rfl rfl 9 (by decide) (htb (.fieldLink R_Md 58 "WaterMenModel" "state" "[I") tw_11) (fun _ h9 => h9) rfl d_Md_menAs_12 ?_
    refine lv_iload_n hx hb d_Md_menAs_15 rfl (lv_at hl 0 rfl) ?_
    refine va_iald hx hb hK hP 6 5 rfl rfl (by unfold vp_in; decide +kernel) d_Md_menAs_16 ?_
    refine hb_ti 0 rfl ?_
    refine lv_iload_n hx hb d_Md_menAs_17 rfl (lv_at hl 3 rfl) ?_
    refine lv_icmp_ne (tgt := 25) hx hb d_Md_menAs_18 (by decide) (fun h => absurd c_1 h) (fun _ => ?_)
    refine lv_iconst (v := 1) hx hb d_Md_menAs_21 (by decide +kernel) ?_
    refine lv_goto (tgt := 26) hx hb d_Md_menAs_22 (by decide) ?_
    refine lv_iadd hx hb d_Md_menAs_26 ?_
    refine hb_ti 12 (by decide +kernel) ?_
    refine lv_istore_n (lv' := [(2, .int 12), (3, .int 11), (0, .ref (a 0)), (1, .int p_0)]) hx hb d_Md_menAs_27 rfl hl (by decide) rfl (fun ls hl => ?_)
    refine lv_iinc (v := 12) (lv' := [(3, .int 12), (2, .int 12), (0, .ref (a 0)), (1, .int p_0)]) hx hb d_Md_menAs_28 hl (k := 1) rfl (by decide +kernel) (by decide) rfl (fun ls hl => ?_)
    refine lv_goto (tgt := 4) hx hb d_Md_menAs_31 (by decide) ?_
    refine lv_iload_n hx hb d_Md_menAs_4 rfl (lv_at hl 0 rfl) ?_
    refine lv_bipush (v := 40) hx hb d_Md_menAs_5 (by decide +kernel) ?_
    refine lv_icmp_ge (tgt := 34) hx hb d_Md_menAs_7 (by decide) (fun h => absurd h (by decide +kernel)) (fun _ => ?_)
    refine lv_iload_n hx hb d_Md_menAs_10 rfl (lv_at hl 1 rfl) ?_
    refine lv_aload_n hx hb d_Md_menAs_11 rfl (lv_at hl 2 rfl) ?_
    refine va_get (D := (dC, dI)) (ci := 7) (v := .ref (a 6)) (C := R_Md) (T := F_Md) (N := 64) hx hb htb i_Md hown hK hP 0 rfl rfl 9 (by decide) (htb (.fieldLink R_Md 58 "WaterMenModel" "state" "[I") tw_11) (fun _ h9 => h9) rfl d_Md_menAs_12 ?_
    refine lv_iload_n hx hb d_Md_menAs_15 rfl (lv_at hl 0 rfl) ?_
    refine va_iald hx hb hK hP 6 5 rfl rfl (by unfold vp_in; decide +kernel) d_Md_menAs_16 ?_
    refine hb_ti 0 rfl ?_
    refine lv_iload_n hx hb d_Md_menAs_17 rfl (lv_at hl 3 rfl) ?_
    refine lv_icmp_ne (tgt := 25) hx hb d_Md_menAs_18 (by decide) (fun h => absurd c_1 h) (fun _ => ?_)
    refine lv_iconst (v := 1) hx hb d_Md_menAs_21 (by decide +kernel) ?_
    refine lv_goto (tgt := 26) hx hb d_Md_menAs_22 (by decide) ?_
    refine lv_iadd hx hb d_Md_menAs_26 ?_
    refine hb_ti 13 (by decide +kernel) ?_
    refine lv_istore_n (lv' := [(2, .int 13), (3, .int 12), (0, .ref (a 0)), (1, .int p_0)]) hx hb d_Md_menAs_27 rfl hl (by decide) rfl (fun ls hl => ?_)
    refine lv_iinc (v := 13) (lv' := [(3, .int 13), (2, .int 13), (0, .ref (a 0)), (1, .int p_0)]) hx hb d_Md_menAs_28 hl (k := 1) rfl (by decide +kernel) (by decide) rfl (fun ls hl => ?_)
    refine lv_goto (tgt := 4) hx hb d_Md_menAs_31 (by decide) ?_
    refine lv_iload_n hx hb d_Md_menAs_4 rfl (lv_at hl 0 rfl) ?_
    refine lv_bipush (v := 40) hx hb d_Md_menAs_5 (by decide +kernel) ?_
    refine lv_icmp_ge (tgt := 34) hx hb d_Md_menAs_7 (by decide) (fun h => absurd h (by decide +kernel)) (fun _ => ?_)
    refine lv_iload_n hx hb d_Md_menAs_10 rfl (lv_at hl 1 rfl) ?_
    refine lv_aload_n hx hb d_Md_menAs_11 rfl (lv_at hl 2 rfl) ?_
    refine va_get (D := (dC, dI)) (ci := 7) (v := .ref (a 6)) (C := R_Md) (T := F_Md) (N := 64) hx hb htb i_Md hown hK hP 0 rfl rfl 9 (by decide) (htb (.fieldLink R_Md 58 "WaterMenModel" "state" "[I") tw_11) (fun _ h9 => h9) rfl d_Md_menAs_12 ?_
    refine lv_iload_n hx hb d_Md_menAs_15 rfl (lv_at hl 0 rfl) ?_
    refine va_iald hx hb hK hP 6 5 rfl rfl (by unfold vp_in; decide +kernel) d_Md_menAs_16 ?_
    refine hb_ti 0 rfl ?_
    refine lv_iload_n hx hb d_Md_menAs_17 rfl (lv_at hl 3 rfl) ?_
    refine lv_icmp_ne (tgt := 25) hx hb d_Md_menAs_18 (by decide) (fun h => absurd c_1 h) (fun _ => ?_)
    refine lv_iconst (v := 1) hx hb d_Md_menAs_21 (by decide +kernel) ?_
    refine lv_goto (tgt := 26) hx hb d_Md_menAs_22 (by decide) ?_
    refine lv_iadd hx hb d_Md_menAs_26 ?_
    refine hb_ti 14 (by decide +kernel) ?_
    refine lv_istore_n (lv' := [(2, .int 14), (3, .int 13), (0, .ref (a 0)), (1, .int p_0)]) hx hb d_Md_menAs_27 rfl hl (by decide) rfl (fun ls hl => ?_)
    refine lv_iinc (v := 14) (lv' := [(3, .int 14), (2, .int 14), (0, .ref (a 0)), (1, .int p_0)]) hx hb d_Md_menAs_28 hl (k := 1) rfl (by decide +kernel) (by decide) rfl (fun ls hl => ?_)
    refine lv_goto (tgt := 4) hx hb d_Md_menAs_31 (by decide) ?_
    refine lv_iload_n hx hb d_Md_menAs_4 rfl (lv_at hl 0 rfl) ?_
    refine lv_bipush (v := 40) hx hb d_Md_menAs_5 (by decide +kernel) ?_
    refine lv_icmp_ge (tgt := 34) hx hb d_Md_menAs_7 (by decide) (fun h => absurd h (by decide +kernel)) (fun _ => ?_)
    refine lv_iload_n hx hb d_Md_menAs_10 rfl (lv_at hl 1 rfl) ?_
    refine lv_aload_n hx hb d_Md_menAs_11 rfl (lv_at hl 2 rfl) ?_
    refine va_get (D := (dC, dI)) (ci := 7) (v := .ref (a 6)) (C := R_Md) (T := F_Md) (N := 64) hx hb htb i_Md hown hK hP 0 rfl rfl 9 (by decide) (htb (.fieldLink R_Md 58 "WaterMenModel" "state" "[I") tw_11) (fun _ h9 => h9) rfl d_Md_menAs_12 ?_
    refine lv_iload_n hx hb d_Md_menAs_15 rfl (lv_at hl 0 rfl) ?_
    refine va_iald hx hb hK hP 6 5 rfl rfl (by unfold vp_in; decide +kernel) d_Md_menAs_16 ?_
    refine hb_ti 0 rfl ?_
    refine lv_iload_n hx hb d_Md_menAs_17 rfl (lv_at hl 3 rfl) ?_
    refine lv_icmp_ne (tgt := 25) hx hb d_Md_menAs_18 (by decide) (fun h => absurd c_1 h) (fun _ => ?_)
    refine lv_iconst (v := 1) hx hb d_Md_menAs_21 (by decide +kernel) ?_
    refine lv_goto (tgt := 26) hx hb d_Md_menAs_22 (by decide) ?_
    refine lv_iadd hx hb d_Md_menAs_26 ?_
    refine hb_ti 15 (by decide +kernel) ?_
    refine lv_istore_n (lv' := [(2, .int 15), (3, .int 14), (0, .ref (a 0)), (1, .int p_0)]) hx hb d_Md_menAs_27 rfl hl (by decide) rfl (fun ls hl => ?_)
    refine lv_iinc (v := 15) (lv' := [(3, .int 15), (2, .int 15), (0, .ref (a 0)), (1, .int p_0)]) hx hb d_Md_menAs_28 hl (k := 1) rfl (by decide +kernel) (by decide) rfl (fun ls hl => ?_)
    refine lv_goto (tgt := 4) hx hb d_Md_menAs_31 (by decide) ?_
    refine lv_iload_n hx hb d_Md_menAs_4 rfl (lv_at hl 0 rfl) ?_
    refine lv_bipush (v := 40) hx hb d_Md_menAs_5 (by decide +kernel) ?_
    refine lv_icmp_ge (tgt := 34) hx hb d_Md_menAs_7 (by decide) (fun h => absurd h (by decide +kernel)) (fun _ => ?_)
    refine lv_iload_n hx hb d_Md_menAs_10 rfl (lv_at hl 1 rfl) ?_
    refine lv_aload_n hx hb d_Md_menAs_11 rfl (lv_at hl 2 rfl) ?_
    refine va_get (D := (dC, dI)) (ci := 7) (v := .ref (a 6)) (C := R_Md) (T := F_Md) (N := 64) hx hb htb i_Md hown hK hP 0 rfl rfl 9 (by decide) (htb (.fieldLink R_Md 58 "WaterMenModel" "state" "[I") tw_11) (fun _ h9 => h9) rfl d_Md_menAs_12 ?_
    refine lv_iload_n hx hb d_Md_menAs_15 rfl (lv_at hl 0 rfl) ?_
    refine va_iald hx hb hK hP 6 5 rfl rfl (by unfold vp_in; decide +kernel) d_Md_menAs_16 ?_
    refine hb_ti 0 rfl ?_
    refine lv_iload_n hx hb d_Md_menAs_17 rfl (lv_at hl 3 rfl) ?_
    refine lv_icmp_ne (tgt := 25) hx hb d_Md_menAs_18 (by decide) (fun h => absurd c_1 h) (fun _ => ?_)
    refine lv_iconst (v := 1) hx hb d_Md_menAs_21 (by decide +kernel) ?_
    refine lv_goto (tgt := 26) hx hb d_Md_menAs_22 (by decide) ?_
    refine lv_iadd hx hb d_Md_menAs_26 ?_
    refine hb_ti 16 (by decide +kernel) ?_
    refine lv_istore_n (lv' := [(2, .int 16), (3, .int 15), (0, .ref (a 0)), (1, .int p_0)]) hx hb d_Md_menAs_27 rfl hl (by decide) rfl (fun ls hl => ?_)
    refine lv_iinc (v := 16) (lv' := [(3, .int 16), (2, .int 16), (0, .ref (a 0)), (1, .int p_0)]) hx hb d_Md_menAs_28 hl (k := 1) rfl (by decide +kernel) (by decide) rfl (fun ls hl => ?_)
    refine lv_goto (tgt := 4) hx hb d_Md_menAs_31 (by decide) ?_
    refine lv_iload_n hx hb d_Md_menAs_4 rfl (lv_at hl 0 rfl) ?_
    refine lv_bipush (v := 40) hx hb d_Md_menAs_5 (by decide +kernel) ?_
    refine lv_icmp_ge (tgt := 34) hx hb d_Md_menAs_7 (by decide) (fun h => absurd h (by decide +kernel)) (fun _ => ?_)
    refine lv_iload_n hx hb d_Md_menAs_10 rfl (lv_at hl 1 rfl) ?_
    refine lv_aload_n hx hb d_Md_menAs_11 rfl (lv_at hl 2 rfl) ?_
    refine va_get (D := (dC, dI)) (ci := 7) (v := .ref (a 6)) (C := R_Md) (T := F_Md) (N := 64) hx hb htb i_Md hown hK hP 0 rfl rfl 9 (by decide) (htb (.fieldLink R_Md 58 "WaterMenModel" "state" "[I") tw_11) (fun _ h9 => h9) rfl d_Md_menAs_12 ?_
    refine lv_iload_n hx hb d_Md_menAs_15 rfl (lv_at hl 0 rfl) ?_
    refine va_iald hx hb hK hP 6 5 rfl rfl (by unfold vp_in; decide +kernel) d_Md_menAs_16 ?_
    refine hb_ti 0 rfl ?_
    refine lv_iload_n hx hb d_Md_menAs_17 rfl (lv_at hl 3 rfl) ?_
    refine lv_icmp_ne (tgt := 25) hx hb d_Md_menAs_18 (by decide) (fun h => absurd c_1 h) (fun _ => ?_)
    refine lv_iconst (v := 1) hx hb d_Md_menAs_21 (by decide +kernel) ?_
    refine lv_goto (tgt := 26) hx hb d_Md_menAs_22 (by decide) ?_
    refine lv_iadd hx hb d_Md_menAs_26 ?_
    refine hb_ti 17 (by decide +kernel) ?_
    refine lv_istore_n (lv' := [(2, .int 17), (3, .int 16), (0, .ref (a 0)), (1, .int p_0)]) hx hb d_Md_menAs_27 rfl hl (by decide) rfl (fun ls hl => ?_)
    refine lv_iinc (v := 17) (lv' := [(3, .int 17), (2, .int 17), (0, .ref (a 0)), (1, .int p_0)]) hx hb d_Md_menAs_28 hl (k := 1) rfl (by decide +kernel) (by decide) rfl (fun ls hl => ?_)
    refine lv_goto (tgt := 4) hx hb d_Md_menAs_31 (by decide) ?_
    refine lv_iload_n hx hb d_Md_menAs_4 rfl (lv_at hl 0 rfl) ?_
    refine lv_bipush (v := 40) hx hb d_Md_menAs_5 (by decide +kernel) ?_
    refine lv_icmp_ge (tgt := 34) hx hb d_Md_menAs_7 (by decide) (fun h => absurd h (by decide +kernel)) (fun _ => ?_)
    refine lv_iload_n hx hb d_Md_menAs_10 rfl (lv_at hl 1 rfl) ?_
    refine lv_aload_n hx hb d_Md_menAs_11 rfl (lv_at hl 2 rfl) ?_
    refine va_get (D := (dC, dI)) (ci := 7) (v := .ref (a 6)) (C := R_Md) (T := F_Md) (N := 64) hx hb htb i_Md hown hK hP 0 rfl rfl 9 (by decide) (htb (.fieldLink R_Md 58 "WaterMenModel" "state" "[I") tw_11) (fun _ h9 => h9) rfl d_Md_menAs_12 ?_
    refine lv_iload_n hx hb d_Md_menAs_15 rfl (lv_at hl 0 rfl) ?_
    refine va_iald hx hb hK hP 6 5 rfl rfl (by unfold vp_in; decide +kernel) d_Md_menAs_16 ?_
    refine hb_ti 0 rfl ?_
    refine lv_iload_n hx hb d_Md_menAs_17 rfl (lv_at hl 3 rfl) ?_
    refine lv_icmp_ne (tgt := 25) hx hb d_Md_menAs_18 (by decide) (fun h => absurd c_1 h) (fun _ => ?_)
    refine lv_iconst (v := 1) hx hb d_Md_menAs_21 (by decide +kernel) ?_
    refine lv_goto (tgt := 26) hx hb d_Md_menAs_22 (by decide) ?_
    refine lv_iadd hx hb d_Md_menAs_26 ?_
    refine hb_ti 18 (by decide +kernel) ?_
    refine lv_istore_n (lv' := [(2, .int 18), (3, .int 17), (0, .ref (a 0)), (1, .int p_0)]) hx hb d_Md_menAs_27 rfl hl (by decide) rfl (fun ls hl => ?_)
    refine lv_iinc (v := 18) (lv' := [(3, .int 18), (2, .int 18), (0, .ref (a 0)), (1, .int p_0)]) hx hb d_Md_menAs_28 hl (k := 1) rfl (by decide +kernel) (by decide) rfl (fun ls hl => ?_)
    refine lv_goto (tgt := 4) hx hb d_Md_menAs_31 (by decide) ?_
    refine lv_iload_n hx hb d_Md_menAs_4 rfl (lv_at hl 0 rfl) ?_
    refine lv_bipush (v := 40) hx hb d_Md_menAs_5 (by decide +kernel) ?_
    refine lv_icmp_ge (tgt := 34) hx hb d_Md_menAs_7 (by decide) (fun h => absurd h (by decide +kernel)) (fun _ => ?_)
    refine lv_iload_n hx hb d_Md_menAs_10 rfl (lv_at hl 1 rfl) ?_
    refine lv_aload_n hx hb d_Md_menAs_11 rfl (lv_at hl 2 rfl) ?_
    refine va_get (D := (dC, dI)) (ci := 7) (v := .ref (a 6)) (C := R_Md) (T := F_Md) (N := 64) hx hb htb i_Md hown hK hP 0 rfl rfl 9 (by decide) (htb (.fieldLink R_Md 58 "WaterMenModel" "state" "[I") tw_11) (fun _ h9 => h9) rfl d_Md_menAs_12 ?_
    refine lv_iload_n hx hb d_Md_menAs_15 rfl (lv_at hl 0 rfl) ?_
    refine va_iald hx hb hK hP 6 5 rfl rfl (by unfold vp_in; decide +kernel) d_Md_menAs_16 ?_
    refine hb_ti 0 rfl ?_
    refine lv_iload_n hx hb d_Md_menAs_17 rfl (lv_at hl 3 rfl) ?_
    refine lv_icmp_ne (tgt := 25) hx hb d_Md_menAs_18 (by decide) (fun h => absurd c_1 h) (fun _ => ?_)
    refine lv_iconst (v := 1) hx hb d_Md_menAs_21 (by decide +kernel) ?_
    refine lv_goto (tgt := 26) hx hb d_Md_menAs_22 (by decide) ?_
    refine lv_iadd hx hb d_Md_menAs_26 ?_
    refine hb_ti 19 (by decide +kernel) ?_
    refine lv_istore_n (lv' := [(2, .int 19), (3, .int 18), (0, .ref (a 0)), (1, .int p_0)]) hx hb d_Md_menAs_27 rfl hl (by decide) rfl (fun ls hl => ?_)
    refine lv_iinc (v := 19) (lv' := [(3, .int 19), (2, .int 19), (0, .ref (a 0)), (1, .int p_0)]) hx hb d_Md_menAs_28 hl (k := 1) rfl (by decide +kernel) (by decide) rfl (fun ls hl => ?_)
    refine lv_goto (tgt := 4) hx hb d_Md_menAs_31 (by decide) ?_
    refine lv_iload_n hx hb d_Md_menAs_4 rfl (lv_at hl 0 rfl) ?_
    refine lv_bipush (v := 40) hx hb d_Md_menAs_5 (by decide +kernel) ?_
    refine lv_icmp_ge (tgt := 34) hx hb d_Md_menAs_7 (by decide) (fun h => absurd h (by decide +kernel)) (fun _ => ?_)
    refine lv_iload_n hx hb d_Md_menAs_10 rfl (lv_at hl 1 rfl) ?_
    refine lv_aload_n hx hb d_Md_menAs_11 rfl (lv_at hl 2 rfl) ?_
    refine va_get (D := (dC, dI)) (ci := 7) (v := .ref (a 6)) (C := R_Md) (T := F_Md) (N := 64) hx hb htb i_Md hown hK hP 0 rfl rfl 9 (by decide) (htb (.fieldLink R_Md 58 "WaterMenModel" "state" "[I") tw_11) (fun _ h9 => h9) rfl d_Md_menAs_12 ?_
    refine lv_iload_n hx hb d_Md_menAs_15 rfl (lv_at hl 0 rfl) ?_
    refine va_iald hx hb hK hP 6 5 rfl rfl (by unfold vp_in; decide +kernel) d_Md_menAs_16 ?_
    refine hb_ti 0 rfl ?_
    refine lv_iload_n hx hb d_Md_menAs_17 rfl (lv_at hl 3 rfl) ?_
    refine lv_icmp_ne (tgt := 25) hx hb d_Md_menAs_18 (by decide) (fun h => absurd c_1 h) (fun _ => ?_)
    refine lv_iconst (v := 1) hx hb d_Md_menAs_21 (by decide +kernel) ?_
    refine lv_goto (tgt := 26) hx hb d_Md_menAs_22 (by decide) ?_
    refine lv_iadd hx hb d_Md_menAs_26 ?_
    refine hb_ti 20 (by decide +kernel) ?_
    refine lv_istore_n (lv' := [(2, .int 20), (3, .int 19), (0, .ref (a 0)), (1, .int p_0)]) hx hb d_Md_menAs_27 rfl hl (by decide) rfl (fun ls hl => ?_)
    refine lv_iinc (v := 20) (lv' := [(3, .int 20), (2, .int 20), (0, .ref (a 0)), (1, .int p_0)]) hx hb d_Md_menAs_28 hl (k := 1) rfl (by decide +kernel) (by decide) rfl (fun ls hl => ?_)
    refine lv_goto (tgt := 4) hx hb d_Md_menAs_31 (by decide) ?_
    refine lv_iload_n hx hb d_Md_menAs_4 rfl (lv_at hl 0 rfl) ?_
    refine lv_bipush (v := 40) hx hb d_Md_menAs_5 (by decide +kernel) ?_
    refine lv_icmp_ge (tgt := 34) hx hb d_Md_menAs_7 (by decide) (fun h => absurd h (by decide +kernel)) (fun _ => ?_)
    refine lv_iload_n hx hb d_Md_menAs_10 rfl (lv_at hl 1 rfl) ?_
    refine lv_aload_n hx hb d_Md_menAs_11 rfl (lv_at hl 2 rfl) ?_
    refine va_get (D := (dC, dI)) (ci := 7) (v := .ref (a 6)) (C := R_Md) (T := F_Md) (N := 64) hx hb htb i_Md hown hK hP 0 rfl rfl 9 (by decide) (htb (.fieldLink R_Md 58 "WaterMenModel" "state" "[I") tw_11) (fun _ h9 => h9) rfl d_Md_menAs_12 ?_
    refine lv_iload_n hx hb d_Md_menAs_15 rfl (lv_at hl 0 rfl) ?_
    refine va_iald hx hb hK hP 6 5 rfl rfl (by unfold vp_in; decide +kernel) d_Md_menAs_16 ?_
    refine hb_ti 0 rfl ?_
    refine lv_iload_n hx hb d_Md_menAs_17 rfl (lv_at hl 3 rfl) ?_
    refine lv_icmp_ne (tgt := 25) hx hb d_Md_menAs_18 (by decide) (fun h => absurd c_1 h) (fun _ => ?_)
    refine lv_iconst (v := 1) hx hb d_Md_menAs_21 (by decide +kernel) ?_
    refine lv_goto (tgt := 26) hx hb d_Md_menAs_22 (by decide) ?_
    refine lv_iadd hx hb d_Md_menAs_26 ?_
    refine hb_ti 21 (by decide +kernel) ?_
    refine lv_istore_n (lv' := [(2, .int 21), (3, .int 20), (0, .ref (a 0)), (1, .int p_0)]) hx hb d_Md_menAs_27 rfl hl (by decide) rfl (fun ls hl => ?_)
    refine lv_iinc (v := 21) (lv' := [(3, .int 21), (2, .int 21), (0, .ref (a 0)), (1, .int p_0)]) hx hb d_Md_menAs_28 hl (k := 1) rfl (by decide +kernel) (by decide) rfl (fun ls hl => ?_)
    refine lv_goto (tgt := 4) hx hb d_Md_menAs_31 (by decide) ?_
    refine lv_iload_n hx hb d_Md_menAs_4 rfl (lv_at hl 0 rfl) ?_
    refine lv_bipush (v := 40) hx hb d_Md_menAs_5 (by decide +kernel) ?_
    refine lv_icmp_ge (tgt := 34) hx hb d_Md_menAs_7 (by decide) (fun h => absurd h (by decide +kernel)) (fun _ => ?_)
    refine lv_iload_n hx hb d_Md_menAs_10 rfl (lv_at hl 1 rfl) ?_
    refine lv_aload_n hx hb d_Md_menAs_11 rfl (lv_at hl 2 rfl) ?_
    refine va_get (D := (dC, dI)) (ci := 7) (v := .ref (a 6)) (C := R_Md) (T := F_Md) (N := 64) hx hb htb i_Md hown hK hP 0 rfl rfl 9 (by decide) (htb (.fieldLink R_Md 58 "WaterMenModel" "state" "[I") tw_11) (fun _ h9 => h9) rfl d_Md_menAs_12 ?_
    refine lv_iload_n hx hb d_Md_menAs_15 rfl (lv_at hl 0 rfl) ?_
    refine va_iald hx hb hK hP 6 5 rfl rfl (by unfold vp_in; decide +kernel) d_Md_menAs_16 ?_
    refine hb_ti 0 rfl ?_
    refine lv_iload_n hx hb d_Md_menAs_17 rfl (lv_at hl 3 rfl) ?_
    refine lv_icmp_ne (tgt := 25) hx hb d_Md_menAs_18 (by decide) (fun h => absurd c_1 h) (fun _ => ?_)
    refine lv_iconst (v := 1) hx hb d_Md_menAs_21 (by decide +kernel) ?_
    refine lv_goto (tgt := 26) hx hb d_Md_menAs_22 (by decide) ?_
    refine lv_iadd hx hb d_Md_menAs_26 ?_
    refine hb_ti 22 (by decide +kernel) ?_
    refine lv_istore_n (lv' := [(2, .int 22), (3, .int 21), (0, .ref (a 0)), (1, .int p_0)]) hx hb d_Md_menAs_27 rfl hl (by decide) rfl (fun ls hl => ?_)
    refine lv_iinc (v := 22) (lv' := [(3, .int 22), (2, .int 22), (0, .ref (a 0)), (1, .int p_0)]) hx hb d_Md_menAs_28 hl (k := 1) rfl (by decide +kernel) (by decide) rfl (fun ls hl => ?_)
    refine lv_goto (tgt := 4) hx hb d_Md_menAs_31 (by decide) ?_
    refine lv_iload_n hx hb d_Md_menAs_4 rfl (lv_at hl 0 rfl) ?_
    refine lv_bipush (v := 40) hx hb d_Md_menAs_5 (by decide +kernel) ?_
    refine lv_icmp_ge (tgt := 34) hx hb d_Md_menAs_7 (by decide) (fun h => absurd h (by decide +kernel)) (fun _ => ?_)
    refine lv_iload_n hx hb d_Md_menAs_10 rfl (lv_at hl 1 rfl) ?_
    refine lv_aload_n hx hb d_Md_menAs_11 rfl (lv_at hl 2 rfl) ?_
    refine va_get (D := (dC, dI)) (ci := 7) (v := .ref (a 6)) (C := R_Md) (T := F_Md) (N := 64) hx hb htb i_Md hown hK hP 0 rfl rfl 9 (by decide) (htb (.fieldLink R_Md 58 "WaterMenModel" "state" "[I") tw_11) (fun _ h9 => h9) rfl d_Md_menAs_12 ?_
    refine lv_iload_n hx hb d_Md_menAs_15 rfl (lv_at hl 0 rfl) ?_
    refine va_iald hx hb hK hP 6 5 rfl rfl (by unfold vp_in; decide +kernel) d_Md_menAs_16 ?_
    refine hb_ti 0 rfl ?_
    refine lv_iload_n hx hb d_Md_menAs_17 rfl (lv_at hl 3 rfl) ?_
    refine lv_icmp_ne (tgt := 25) hx hb d_Md_menAs_18 (by decide) (fun h => absurd c_1 h) (fun _ => ?_)
    refine lv_iconst (v := 1) hx hb d_Md_menAs_21 (by decide +kernel) ?_
    refine lv_goto (tgt := 26) hx hb d_Md_menAs_22 (by decide) ?_
    refine lv_iadd hx hb d_Md_menAs_26 ?_
    refine hb_ti 23 (by decide +kernel) ?_
    refine lv_istore_n (lv' := [(2, .int 23), (3, .int 22), (0, .ref (a 0)), (1, .int p_0)]) hx hb d_Md_menAs_27 rfl hl (by decide) rfl (fun ls hl => ?_)
    refine lv_iinc (v := 23) (lv' := [(3, .int 23), (2, .int 23), (0, .ref (a 0)), (1, .int p_0)]) hx hb d_Md_menAs_28 hl (k := 1) rfl (by decide +kernel) (by decide) rfl (fun ls hl => ?_)
    refine lv_goto (tgt := 4) hx hb d_Md_menAs_31 (by decide) ?_
    refine lv_iload_n hx hb d_Md_menAs_4 rfl (lv_at hl 0 rfl) ?_
    refine lv_bipush (v := 40) hx hb d_Md_menAs_5 (by decide +kernel) ?_
    refine lv_icmp_ge (tgt := 34) hx hb d_Md_menAs_7 (by decide) (fun h => absurd h (by decide +kernel)) (fun _ => ?_)
    refine lv_iload_n hx hb d_Md_menAs_10 rfl (lv_at hl 1 rfl) ?_
    refine lv_aload_n hx hb d_Md_menAs_11 rfl (lv_at hl 2 rfl) ?_
    refine va_get (D := (dC, dI)) (ci := 7) (v := .ref (a 6)) (C := R_Md) (T := F_Md) (N := 64) hx hb htb i_Md hown hK hP 0 rfl rfl 9 (by decide) (htb (.fieldLink R_Md 58 "WaterMenModel" "state" "[I") tw_11) (fun _ h9 => h9) rfl d_Md_menAs_12 ?_
    refine lv_iload_n hx hb d_Md_menAs_15 rfl (lv_at hl 0 rfl) ?_
    refine va_iald hx hb hK hP 6 5 rfl rfl (by unfold vp_in; decide +kernel) d_Md_menAs_16 ?_
    refine hb_ti 0 rfl ?_
    refine lv_iload_n hx hb d_Md_menAs_17 rfl (lv_at hl 3 rfl) ?_
    refine lv_icmp_ne (tgt := 25) hx hb d_Md_menAs_18 (by decide) (fun h => absurd c_1 h) (fun _ => ?_)
    refine lv_iconst (v := 1) hx hb d_Md_menAs_21 (by decide +kernel) ?_
    refine lv_goto (tgt := 26) hx hb d_Md_menAs_22 (by decide) ?_
    refine lv_iadd hx hb d_Md_menAs_26 ?_
    refine hb_ti 24 (by decide +kernel) ?_
    refine lv_istore_n (lv' := [(2, .int 24), (3, .int 23), (0, .ref (a 0)), (1, .int p_0)]) hx hb d_Md_menAs_27 rfl hl (by decide) rfl (fun ls hl => ?_)
    refine lv_iinc (v := 24) (lv' := [(3, .int 24), (2, .int 24), (0, .ref (a 0)), (1, .int p_0)]) hx hb d_Md_menAs_28 hl (k := 1) rfl (by decide +kernel) (by decide) rfl (fun ls hl => ?_)
    refine lv_goto (tgt := 4) hx hb d_Md_menAs_31 (by decide) ?_
    refine lv_iload_n hx hb d_Md_menAs_4 rfl (lv_at hl 0 rfl) ?_
    refine lv_bipush (v := 40) hx hb d_Md_menAs_5 (by decide +kernel) ?_
    refine lv_icmp_ge (tgt := 34) hx hb d_Md_menAs_7 (by decide) (fun h => absurd h (by decide +kernel)) (fun _ => ?_)
    refine lv_iload_n hx hb d_Md_menAs_10 rfl (lv_at hl 1 rfl) ?_
    refine lv_aload_n hx hb d_Md_menAs_11 rfl (lv_at hl 2 rfl) ?_
    refine va_get (D := (dC, dI)) (ci := 7) (v := .ref (a 6)) (C := R_Md) (T := F_Md) (N := 64) hx hb htb i_Md hown hK hP 0 rfl rfl 9 (by decide) (htb (.fieldLink R_Md 58 "WaterMenModel" "state" "[I") tw_11) (fun _ h9 => h9) rfl d_Md_menAs_12 ?_
    refine lv_iload_n hx hb d_Md_menAs_15 rfl (lv_at hl 0 rfl) ?_
    refine va_iald hx hb hK hP 6 5 rfl rfl (by unfold vp_in; decide +kernel) d_Md_menAs_16 ?_
    refine hb_ti 0 rfl ?_
    refine lv_iload_n hx hb d_Md_menAs_17 rfl (lv_at hl 3 rfl) ?_
    refine lv_icmp_ne (tgt := 25) hx hb d_Md_menAs_18 (by decide) (fun h => absurd c_1 h) (fun _ => ?_)
    refine lv_iconst (v := 1) hx hb d_Md_menAs_21 (by decide +kernel) ?_
    refine lv_goto (tgt := 26) hx hb d_Md_menAs_22 (by decide) ?_
    refine lv_iadd hx hb d_Md_menAs_26 ?_
    refine hb_ti 25 (by decide +kernel) ?_
    refine lv_istore_n (lv' := [(2, .int 25), (3, .int 24), (0, .ref (a 0)), (1, .int p_0)]) hx hb d_Md_menAs_27 rfl hl (by decide) rfl (fun ls hl => ?_)
    refine lv_iinc (v := 25) (lv' := [(3, .int 25), (2, .int 25), (0, .ref (a 0)), (1, .int p_0)]) hx hb d_Md_menAs_28 hl (k := 1) rfl (by decide +kernel) (by decide) rfl (fun ls hl => ?_)
    refine lv_goto (tgt := 4) hx hb d_Md_menAs_31 (by decide) ?_
    refine lv_iload_n hx hb d_Md_menAs_4 rfl (lv_at hl 0 rfl) ?_
    refine lv_bipush (v := 40) hx hb d_Md_menAs_5 (by decide +kernel) ?_
    refine lv_icmp_ge (tgt := 34) hx hb d_Md_menAs_7 (by decide) (fun h => absurd h (by decide +kernel)) (fun _ => ?_)
    refine lv_iload_n hx hb d_Md_menAs_10 rfl (lv_at hl 1 rfl) ?_
    refine lv_aload_n hx hb d_Md_menAs_11 rfl (lv_at hl 2 rfl) ?_
    refine va_get (D := (dC, dI)) (ci := 7) (v := .ref (a 6)) (C := R_Md) (T := F_Md) (N := 64) hx hb htb i_Md hown hK hP 0 rfl rfl 9 (by decide) (htb (.fieldLink R_Md 58 "WaterMenModel" "state" "[I") tw_11) (fun _ h9 => h9) rfl d_Md_menAs_12 ?_
    refine lv_iload_n hx hb d_Md_menAs_15 rfl (lv_at hl 0 rfl) ?_
    refine va_iald hx hb hK hP 6 5 rfl rfl (by unfold vp_in; decide +kernel) d_Md_menAs_16 ?_
    refine hb_ti 0 rfl ?_
    refine lv_iload_n hx hb d_Md_menAs_17 rfl (lv_at hl 3 rfl) ?_
    refine lv_icmp_ne (tgt := 25) hx hb d_Md_menAs_18 (by decide) (fun h => absurd c_1 h) (fun _ => ?_)
    refine lv_iconst (v := 1) hx hb d_Md_menAs_21 (by decide +kernel) ?_
    refine lv_goto (tgt := 26) hx hb d_Md_menAs_22 (by decide) ?_
    refine lv_iadd hx hb d_Md_menAs_26 ?_
    refine hb_ti 26 (by decide +kernel) ?_
    refine lv_istore_n (lv' := [(2, .int 26), (3, .int 25), (0, .ref (a 0)), (1, .int p_0)]) hx hb d_Md_menAs_27 rfl hl (by decide) rfl (fun ls hl => ?_)
    refine lv_iinc (v := 26) (lv' := [(3, .int 26), (2, .int 26), (0, .ref (a 0)), (1, .int p_0)]) hx hb d_Md_menAs_28 hl (k := 1) rfl (by decide +kernel) (by decide) rfl (fun ls hl => ?_)
    refine lv_goto (tgt := 4) hx hb d_Md_menAs_31 (by decide) ?_
    refine lv_iload_n hx hb d_Md_menAs_4 rfl (lv_at hl 0 rfl) ?_
    refine lv_bipush (v := 40) hx hb d_Md_menAs_5 (by decide +kernel) ?_
    refine lv_icmp_ge (tgt := 34) hx hb d_Md_menAs_7 (by decide) (fun h => absurd h (by decide +kernel)) (fun _ => ?_)
    refine lv_iload_n hx hb d_Md_menAs_10 rfl (lv_at hl 1 rfl) ?_
    refine lv_aload_n hx hb d_Md_menAs_11 rfl (lv_at hl 2 rfl) ?_
    refine va_get (D := (dC, dI)) (ci := 7) (v := .ref (a 6)) (C := R_Md) (T := F_Md) (N := 64) hx hb htb i_Md hown hK hP 0 rfl rfl 9 (by decide) (htb (.fieldLink R_Md 58 "WaterMenModel" "state" "[I") tw_11) (fun _ h9 => h9) rfl d_Md_menAs_12 ?_
    refine lv_iload_n hx hb d_Md_menAs_15 rfl (lv_at hl 0 rfl) ?_
    refine va_iald hx hb hK hP 6 5 rfl rfl (by unfold vp_in; decide +kernel) d_Md_menAs_16 ?_
    refine hb_ti 0 rfl ?_
    refine lv_iload_n hx hb d_Md_menAs_17 rfl (lv_at hl 3 rfl) ?_
    refine lv_icmp_ne (tgt := 25) hx hb d_Md_menAs_18 (by decide) (fun h => absurd c_1 h) (fun _ => ?_)
    refine lv_iconst (v := 1) hx hb d_Md_menAs_21 (by decide +kernel) ?_
    refine lv_goto (tgt := 26) hx hb d_Md_menAs_22 (by decide) ?_
    refine lv_iadd hx hb d_Md_menAs_26 ?_
    refine hb_ti 27 (by decide +kernel) ?_
    refine lv_istore_n (lv' := [(2, .int 27), (3, .int 26), (0, .ref (a 0)), (1, .int p_0)]) hx hb d_Md_menAs_27 rfl hl (by decide) rfl (fun ls hl => ?_)
    refine lv_iinc (v := 27) (lv' := [(3, .int 27), (2, .int 27), (0, .ref (a 0)), (1, .int p_0)]) hx hb d_Md_menAs_28 hl (k := 1) rfl (by decide +kernel) (by decide) rfl (fun ls hl => ?_)
    refine lv_goto (tgt := 4) hx hb d_Md_menAs_31 (by decide) ?_
    refine lv_iload_n hx hb d_Md_menAs_4 rfl (lv_at hl 0 rfl) ?_
    refine lv_bipush (v := 40) hx hb d_Md_menAs_5 (by decide +kernel) ?_
    refine lv_icmp_ge (tgt := 34) hx hb d_Md_menAs_7 (by decide) (fun h => absurd h (by decide +kernel)) (fun _ => ?_)
    refine lv_iload_n hx hb d_Md_menAs_10 rfl (lv_at hl 1 rfl) ?_
    refine lv_aload_n hx hb d_Md_menAs_11 rfl (lv_at hl 2 rfl) ?_
    refine va_get (D := (dC, dI)) (ci := 7) (v := .ref (a 6)) (C := R_Md) (T := F_Md) (N := 64) hx hb htb i_Md hown hK hP 0 rfl rfl 9 (by decide) (htb (.fieldLink R_Md 58 "WaterMenModel" "state" "[I") tw_11) (fun _ h9 => h9) rfl d_Md_menAs_12 ?_
    refine lv_iload_n hx hb d_Md_menAs_15 rfl (lv_at hl 0 rfl) ?_
    refine va_iald hx hb hK hP 6 5 rfl rfl (by unfold vp_in; decide +kernel) d_Md_menAs_16 ?_
    refine hb_ti 0 rfl ?_
    refine lv_iload_n hx hb d_Md_menAs_17 rfl (lv_at hl 3 rfl) ?_
    refine lv_icmp_ne (tgt := 25) hx hb d_Md_menAs_18 (by decide) (fun h => absurd c_1 h) (fun _ => ?_)
    refine lv_iconst (v := 1) hx hb d_Md_menAs_21 (by decide +kernel) ?_
    refine lv_goto (tgt := 26) hx hb d_Md_menAs_22 (by decide) ?_
    refine lv_iadd hx hb d_Md_menAs_26 ?_
    refine hb_ti 28 (by decide +kernel) ?_
    refine lv_istore_n (lv' := [(2, .int 28), (3, .int 27), (0, .ref (a 0)), (1, .int p_0)]) hx hb d_Md_menAs_27 rfl hl (by decide) rfl (fun ls hl => ?_)
    refine lv_iinc (v := 28) (lv' := [(3, .int 28), (2, .int 28), (0, .ref (a 0)), (1, .int p_0)]) hx hb d_Md_menAs_28 hl (k := 1) rfl (by decide +kernel) (by decide) rfl (fun ls hl => ?_)
    refine lv_goto (tgt := 4) hx hb d_Md_menAs_31 (by decide) ?_
    refine lv_iload_n hx hb d_Md_menAs_4 rfl (lv_at hl 0 rfl) ?_
    refine lv_bipush (v := 40) hx hb d_Md_menAs_5 (by decide +kernel) ?_
    refine lv_icmp_ge (tgt := 34) hx hb d_Md_menAs_7 (by decide) (fun h => absurd h (by decide +kernel)) (fun _ => ?_)
    refine lv_iload_n hx hb d_Md_menAs_10 rfl (lv_at hl 1 rfl) ?_
    refine lv_aload_n hx hb d_Md_menAs_11 rfl (lv_at hl 2 rfl) ?_
    refine va_get (D := (dC, dI)) (ci := 7) (v := .ref (a 6)) (C := R_Md) (T := F_Md) (N := 64) hx hb htb i_Md hown hK hP 0 rfl rfl 9 (by decide) (htb (.fieldLink R_Md 58 "WaterMenModel" "state" "[I") tw_11) (fun _ h9 => h9) rfl d_Md_menAs_12 ?_
    refine lv_iload_n hx hb d_Md_menAs_15 rfl (lv_at hl 0 rfl) ?_
    refine va_iald hx hb hK hP 6 5 rfl rfl (by unfold vp_in; decide +kernel) d_Md_menAs_16 ?_
    refine hb_ti 0 rfl ?_
    refine lv_iload_n hx hb d_Md_menAs_17 rfl (lv_at hl 3 rfl) ?_
    refine lv_icmp_ne (tgt := 25) hx hb d_Md_menAs_18 (by decide) (fun h => absurd c_1 h) (fun _ => ?_)
    refine lv_iconst (v := 1) hx hb d_Md_menAs_21 (by decide +kernel) ?_
    refine lv_goto (tgt := 26) hx hb d_Md_menAs_22 (by decide) ?_
    refine lv_iadd hx hb d_Md_menAs_26 ?_
    refine hb_ti 29 (by decide +kernel) ?_
    refine lv_istore_n (lv' := [(2, .int 29), (3, .int 28), (0, .ref (a 0)), (1, .int p_0)]) hx hb d_Md_menAs_27 rfl hl (by decide) rfl (fun ls hl => ?_)
    refine lv_iinc (v := 29) (lv' := [(3, .int 29), (2, .int 29), (0, .ref (a 0)), (1, .int p_0)]) hx hb d_Md_menAs_28 hl (k := 1) rfl (by decide +kernel) (by decide) rfl (fun ls hl => ?_)
    refine lv_goto (tgt := 4) hx hb d_Md_menAs_31 (by decide) ?_
    refine lv_iload_n hx hb d_Md_menAs_4 rfl (lv_at hl 0 rfl) ?_
    refine lv_bipush (v := 40) hx hb d_Md_menAs_5 (by decide +kernel) ?_
    refine lv_icmp_ge (tgt := 34) hx hb d_Md_menAs_7 (by decide) (fun h => absurd h (by decide +kernel)) (fun _ => ?_)
    refine lv_iload_n hx hb d_Md_menAs_10 rfl (lv_at hl 1 rfl) ?_
    refine lv_aload_n hx hb d_Md_menAs_11 rfl (lv_at hl 2 rfl) ?_
    refine va_get (D := (dC, dI)) (ci := 7) (v := .ref (a 6)) (C := R_Md) (T := F_Md) (N := 64) hx hb htb i_Md hown hK hP 0 rfl rfl 9 (by decide) (htb (.fieldLink R_Md 58 "WaterMenModel" "state" "[I") tw_11) (fun _ h9 => h9) rfl d_Md_menAs_12 ?_
    refine lv_iload_n hx hb d_Md_menAs_15 rfl (lv_at hl 0 rfl) ?_
    refine va_iald hx hb hK hP 6 5 rfl rfl (by unfold vp_in; decide +kernel) d_Md_menAs_16 ?_
    refine hb_ti 0 rfl ?_
    refine lv_iload_n hx hb d_Md_menAs_17 rfl (lv_at hl 3 rfl) ?_
    refine lv_icmp_ne (tgt := 25) hx hb d_Md_menAs_18 (by decide) (fun h => absurd c_1 h) (fun _ => ?_)
    refine lv_iconst (v := 1) hx hb d_Md_menAs_21 (by decide +kernel) ?_
    refine lv_goto (tgt := 26) hx hb d_Md_menAs_22 (by decide) ?_
    refine lv_iadd hx hb d_Md_menAs_26 ?_
    refine hb_ti 30 (by decide +kernel) ?_
    refine lv_istore_n (lv' := [(2, .int 30), (3, .int 29), (0, .ref (a 0)), (1, .int p_0)]) hx hb d_Md_menAs_27 rfl hl (by decide) rfl (fun ls hl => ?_)
    refine lv_iinc (v := 30) (lv' := [(3, .int 30), (2, .int 30), (0, .ref (a 0)), (1, .int p_0)]) hx hb d_Md_menAs_28 hl (k := 1) rfl (by decide +kernel) (by decide) rfl (fun ls hl => ?_)
    refine lv_goto (tgt := 4) hx hb d_Md_menAs_31 (by decide) ?_
    refine lv_iload_n hx hb d_Md_menAs_4 rfl (lv_at hl 0 rfl) ?_
    refine lv_bipush (v := 40) hx hb d_Md_menAs_5 (by decide +kernel) ?_
    refine lv_icmp_ge (tgt := 34) hx hb d_Md_menAs_7 (by decide) (fun h => absurd h (by decide +kernel)) (fun _ => ?_)
    refine lv_iload_n hx hb d_Md_menAs_10 rfl (lv_at hl 1 rfl) ?_
    refine lv_aload_n hx hb d_Md_menAs_11 rfl (lv_at hl 2 rfl) ?_
    refine va_get (D := (dC, dI)) (ci := 7) (v := .ref (a 6)) (C := R_Md) (T := F_Md) (N := 64) hx hb htb i_Md hown hK hP 0 rfl rfl 9 (by decide) (htb (.fieldLink R_Md 58 "WaterMenModel" "state" "[I") tw_11) (fun _ h9 => h9) rfl d_Md_menAs_12 ?_
    refine lv_iload_n hx hb d_Md_menAs_15 rfl (lv_at hl 0 rfl) ?_
    refine va_iald hx hb hK hP 6 5 rfl rfl (by unfold vp_in; decide +kernel) d_Md_menAs_16 ?_
    refine hb_ti 0 rfl ?_
    refine lv_iload_n hx hb d_Md_menAs_17 rfl (lv_at hl 3 rfl) ?_
    refine lv_icmp_ne (tgt := 25) hx hb d_Md_menAs_18 (by decide) (fun h => absurd c_1 h) (fun _ => ?_)
    refine lv_iconst (v := 1) hx hb d_Md_menAs_21 (by decide +kernel) ?_
    refine lv_goto (tgt := 26) hx hb d_Md_menAs_22 (by decide) ?_
    refine lv_iadd hx hb d_Md_menAs_26 ?_
    refine hb_ti 31 (by decide +kernel) ?_
    refine lv_istore_n (lv' := [(2, .int 31), (3, .int 30), (0, .ref (a 0)), (1, .int p_0)]) hx hb d_Md_menAs_27 rfl hl (by decide) rfl (fun ls hl => ?_)
    refine lv_iinc (v := 31) (lv' := [(3, .int 31), (2, .int 31), (0, .ref (a 0)), (1, .int p_0)]) hx hb d_Md_menAs_28 hl (k := 1) rfl (by decide +kernel) (by decide) rfl (fun ls hl => ?_)
    refine lv_goto (tgt := 4) hx hb d_Md_menAs_31 (by decide) ?_
    refine lv_iload_n hx hb d_Md_menAs_4 rfl (lv_at hl 0 rfl) ?_
    refine lv_bipush (v := 40) hx hb d_Md_menAs_5 (by decide +kernel) ?_
    refine lv_icmp_ge (tgt := 34) hx hb d_Md_menAs_7 (by decide) (fun h => absurd h (by decide +kernel)) (fun _ => ?_)
    refine lv_iload_n hx hb d_Md_menAs_10 rfl (lv_at hl 1 rfl) ?_
    refine lv_aload_n hx hb d_Md_menAs_11 rfl (lv_at hl 2 rfl) ?_
    refine va_get (D := (dC, dI)) (ci := 7) (v := .ref (a 6)) (C := R_Md) (T := F_Md) (N := 64) hx hb htb i_Md hown hK hP 0 rfl rfl 9 (by decide) (htb (.fieldLink R_Md 58 "WaterMenModel" "state" "[I") tw_11) (fun _ h9 => h9) rfl d_Md_menAs_12 ?_
    refine lv_iload_n hx hb d_Md_menAs_15 rfl (lv_at hl 0 rfl) ?_
    refine va_iald hx hb hK hP 6 5 rfl rfl (by unfold vp_in; decide +kernel) d_Md_menAs_16 ?_
    refine hb_ti 0 rfl ?_
    refine lv_iload_n hx hb d_Md_menAs_17 rfl (lv_at hl 3 rfl) ?_
    refine lv_icmp_ne (tgt := 25) hx hb d_Md_menAs_18 (by decide) (fun h => absurd c_1 h) (fun _ => ?_)
    refine lv_iconst (v := 1) hx hb d_Md_menAs_21 (by decide +kernel) ?_
    refine lv_goto (tgt := 26) hx hb d_Md_menAs_22 (by decide) ?_
    refine lv_iadd hx hb d_Md_menAs_26 ?_
    refine hb_ti 32 (by decide +kernel) ?_
    refine lv_istore_n (lv' := [(2, .int 32), (3, .int 31), (0, .ref (a 0)), (1, .int p_0)]) hx hb d_Md_menAs_27 rfl hl (by decide) rfl (fun ls hl => ?_)
    refine lv_iinc (v := 32) (lv' := [(3, .int 32), (2, .int 32), (0, .ref (a 0)), (1, .int p_0)]) hx hb d_Md_menAs_28 hl (k := 1) rfl (by decide +kernel) (by decide) rfl (fun ls hl => ?_)
    refine lv_goto (tgt := 4) hx hb d_Md_menAs_31 (by decide) ?_
    refine lv_iload_n hx hb d_Md_menAs_4 rfl (lv_at hl 0 rfl) ?_
    refine lv_bipush (v := 40) hx hb d_Md_menAs_5 (by decide +kernel) ?_
    refine lv_icmp_ge (tgt := 34) hx hb d_Md_menAs_7 (by decide) (fun h => absurd h (by decide +kernel)) (fun _ => ?_)
    refine lv_iload_n hx hb d_Md_menAs_10 rfl (lv_at hl 1 rfl) ?_
    refine lv_aload_n hx hb d_Md_menAs_11 rfl (lv_at hl 2 rfl) ?_
    refine va_get (D := (dC, dI)) (ci := 7) (v := .ref (a 6)) (C := R_Md) (T := F_Md) (N := 64) hx hb htb i_Md hown hK hP 0 rfl rfl 9 (by decide) (htb (.fieldLink R_Md 58 "WaterMenModel" "state" "[I") tw_11) (fun _ h9 => h9) rfl d_Md_menAs_12 ?_
    refine lv_iload_n hx hb d_Md_menAs_15 rfl (lv_at hl 0 rfl) ?_
    refine va_iald hx hb hK hP 6 5 rfl rfl (by unfold vp_in; decide +kernel) d_Md_menAs_16 ?_
    refine hb_ti 0 rfl ?_
    refine lv_iload_n hx hb d_Md_menAs_17 rfl (lv_at hl 3 rfl) ?_
    refine lv_icmp_ne (tgt := 25) hx hb d_Md_menAs_18 (by decide) (fun h => absurd c_1 h) (fun _ => ?_)
    refine lv_iconst (v := 1) hx hb d_Md_menAs_21 (by decide +kernel) ?_
    refine lv_goto (tgt := 26) hx hb d_Md_menAs_22 (by decide) ?_
    refine lv_iadd hx hb d_Md_menAs_26 ?_
    refine hb_ti 33 (by decide +kernel) ?_
    refine lv_istore_n (lv' := [(2, .int 33), (3, .int 32), (0, .ref (a 0)), (1, .int p_0)]) hx hb d_Md_menAs_27 rfl hl (by decide) rfl (fun ls hl => ?_)
    refine lv_iinc (v := 33) (lv' := [(3, .int 33), (2, .int 33), (0, .ref (a 0)), (1, .int p_0)]) hx hb d_Md_menAs_28 hl (k := 1) rfl (by decide +kernel) (by decide) rfl (fun ls hl => ?_)
    refine lv_goto (tgt := 4) hx hb d_Md_menAs_31 (by decide) ?_
    refine lv_iload_n hx hb d_Md_menAs_4 rfl (lv_at hl 0 rfl) ?_
    refine lv_bipush (v := 40) hx hb d_Md_menAs_5 (by decide +kernel) ?_
    refine lv_icmp_ge (tgt := 34) hx hb d_Md_menAs_7 (by decide) (fun h => absurd h (by decide +kernel)) (fun _ => ?_)
    refine lv_iload_n hx hb d_Md_menAs_10 rfl (lv_at hl 1 rfl) ?_
    refine lv_aload_n hx hb d_Md_menAs_11 rfl (lv_at hl 2 rfl) ?_
    refine va_get (D := (dC, dI)) (ci := 7) (v := .ref (a 6)) (C := R_Md) (T := F_Md) (N := 64) hx hb htb i_Md hown hK hP 0 rfl rfl 9 (by decide) (htb (.fieldLink R_Md 58 "WaterMenModel" "state" "[I") tw_11) (fun _ h9 => h9) rfl d_Md_menAs_12 ?_
    refine lv_iload_n hx hb d_Md_menAs_15 rfl (lv_at hl 0 rfl) ?_
    refine va_iald hx hb hK hP 6 5 rfl rfl (by unfold vp_in; decide +kernel) d_Md_menAs_16 ?_
    refine hb_ti 0 rfl ?_
    refine lv_iload_n hx hb d_Md_menAs_17 rfl (lv_at hl 3 rfl) ?_
    refine lv_icmp_ne (tgt := 25) hx hb d_Md_menAs_18 (by decide) (fun h => absurd c_1 h) (fun _ => ?_)
    refine lv_iconst (v := 1) hx hb d_Md_menAs_21 (by decide +kernel) ?_
    refine lv_goto (tgt := 26) hx hb d_Md_menAs_22 (by decide) ?_
    refine lv_iadd hx hb d_Md_menAs_26 ?_
    refine hb_ti 34 (by decide +kernel) ?_
    refine lv_istore_n (lv' := [(2, .int 34), (3, .int 33), (0, .ref (a 0)), (1, .int p_0)]) hx hb d_Md_menAs_27 rfl hl (by decide) rfl (fun ls hl => ?_)
    refine lv_iinc (v := 34) (lv' := [(3, .int 34), (2, .int 34), (0, .ref (a 0)), (1, .int p_0)]) hx hb d_Md_menAs_28 hl (k := 1) rfl (by decide +kernel) (by decide) rfl (fun ls hl => ?_)
    refine lv_goto (tgt := 4) hx hb d_Md_menAs_31 (by decide) ?_
    refine lv_iload_n hx hb d_Md_menAs_4 rfl (lv_at hl 0 rfl) ?_
    refine lv_bipush (v := 40) hx hb d_Md_menAs_5 (by decide +kernel) ?_
    refine lv_icmp_ge (tgt := 34) hx hb d_Md_menAs_7 (by decide) (fun h => absurd h (by decide +kernel)) (fun _ => ?_)
    refine lv_iload_n hx hb d_Md_menAs_10 rfl (lv_at hl 1 rfl) ?_
    refine lv_aload_n hx hb d_Md_menAs_11 rfl (lv_at hl 2 rfl) ?_
    refine va_get (D := (dC, dI)) (ci := 7) (v := .ref (a 6)) (C := R_Md) (T := F_Md) (N := 64) hx hb htb i_Md hown hK hP 0 rfl rfl 9 (by decide) (htb (.fieldLink R_Md 58 "WaterMenModel" "state" "[I") tw_11) (fun _ h9 => h9) rfl d_Md_menAs_12 ?_
    refine lv_iload_n hx hb d_Md_menAs_15 rfl (lv_at hl 0 rfl) ?_
    refine va_iald hx hb hK hP 6 5 rfl rfl (by unfold vp_in; decide +kernel) d_Md_menAs_16 ?_
    refine hb_ti 0 rfl ?_
    refine lv_iload_n hx hb d_Md_menAs_17 rfl (lv_at hl 3 rfl) ?_
    refine lv_icmp_ne (tgt := 25) hx hb d_Md_menAs_18 (by decide) (fun h => absurd c_1 h) (fun _ => ?_)
    refine lv_iconst (v := 1) hx hb d_Md_menAs_21 (by decide +kernel) ?_
    refine lv_goto (tgt := 26) hx hb d_Md_menAs_22 (by decide) ?_
    refine lv_iadd hx hb d_Md_menAs_26 ?_
    refine hb_ti 35 (by decide +kernel) ?_
    refine lv_istore_n (lv' := [(2, .int 35), (3, .int 34), (0, .ref (a 0)), (1, .int p_0)]) hx hb d_Md_menAs_27 rfl hl (by decide) rfl (fun ls hl => ?_)
    refine lv_iinc (v := 35) (lv' := [(3, .int 35), (2, .int 35), (0, .ref (a 0)), (1, .int p_0)]) hx hb d_Md_menAs_28 hl (k := 1) rfl (by decide +kernel) (by decide) rfl (fun ls hl => ?_)
    refine lv_goto (tgt := 4) hx hb d_Md_menAs_31 (by decide) ?_
    refine lv_iload_n hx hb d_Md_menAs_4 rfl (lv_at hl 0 rfl) ?_
    refine lv_bipush (v := 40) hx hb d_Md_menAs_5 (by decide +kernel) ?_
    refine lv_icmp_ge (tgt := 34) hx hb d_Md_menAs_7 (by decide) (fun h => absurd h (by decide +kernel)) (fun _ => ?_)
    refine lv_iload_n hx hb d_Md_menAs_10 rfl (lv_at hl 1 rfl) ?_
    refine lv_aload_n hx hb d_Md_menAs_11 rfl (lv_at hl 2 rfl) ?_
    refine va_get (D := (dC, dI)) (ci := 7) (v := .ref (a 6)) (C := R_Md) (T := F_Md) (N := 64) hx hb htb i_Md hown hK hP 0 rfl rfl 9 (by decide) (htb (.fieldLink R_Md 58 "WaterMenModel" "state" "[I") tw_11) (fun _ h9 => h9) rfl d_Md_menAs_12 ?_
    refine lv_iload_n hx hb d_Md_menAs_15 rfl (lv_at hl 0 rfl) ?_
    refine va_iald hx hb hK hP 6 5 rfl rfl (by unfold vp_in; decide +kernel) d_Md_menAs_16 ?_
    refine hb_ti 0 rfl ?_
    refine lv_iload_n hx hb d_Md_menAs_17 rfl (lv_at hl 3 rfl) ?_
    refine lv_icmp_ne (tgt := 25) hx hb d_Md_menAs_18 (by decide) (fun h => absurd c_1 h) (fun _ => ?_)
    refine lv_iconst (v := 1) hx hb d_Md_menAs_21 (by decide +kernel) ?_
    refine lv_goto (tgt := 26) hx hb d_Md_menAs_22 (by decide) ?_
    refine lv_iadd hx hb d_Md_menAs_26 ?_
    refine hb_ti 36 (by decide +kernel) ?_
    refine lv_istore_n (lv' := [(2, .int 36), (3, .int 35), (0, .ref (a 0)), (1, .int p_0)]) hx hb d_Md_menAs_27 rfl hl (by decide) rfl (fun ls hl => ?_)
    refine lv_iinc (v := 36) (lv' := [(3, .int 36), (2, .int 36), (0, .ref (a 0)), (1, .int p_0)]) hx hb d_Md_menAs_28 hl (k := 1) rfl (by decide +kernel) (by decide) rfl (fun ls hl => ?_)
    refine lv_goto (tgt := 4) hx hb d_Md_menAs_31 (by decide) ?_
    refine lv_iload_n hx hb d_Md_menAs_4 rfl (lv_at hl 0 rfl) ?_
    refine lv_bipush (v := 40) hx hb d_Md_menAs_5 (by decide +kernel) ?_
    refine lv_icmp_ge (tgt := 34) hx hb d_Md_menAs_7 (by decide) (fun h => absurd h (by decide +kernel)) (fun _ => ?_)
    refine lv_iload_n hx hb d_Md_menAs_10 rfl (lv_at hl 1 rfl) ?_
    refine lv_aload_n hx hb d_Md_menAs_11 rfl (lv_at hl 2 rfl) ?_
    refine va_get (D := (dC, dI)) (ci := 7) (v := .ref (a 6)) (C := R_Md) (T := F_Md) (N := 64) hx hb htb i_Md hown hK hP 0 rfl rfl 9 (by decide) (htb (.fieldLink R_Md 58 "WaterMenModel" "state" "[I") tw_11) (fun _ h9 => h9) rfl d_Md_menAs_12 ?_
    refine lv_iload_n hx hb d_Md_menAs_15 rfl (lv_at hl 0 rfl) ?_
    refine va_iald hx hb hK hP 6 5 rfl rfl (by unfold vp_in; decide +kernel) d_Md_menAs_16 ?_
    refine hb_ti 0 rfl ?_
    refine lv_iload_n hx hb d_Md_menAs_17 rfl (lv_at hl 3 rfl) ?_
    refine lv_icmp_ne (tgt := 25) hx hb d_Md_menAs_18 (by decide) (fun h => absurd c_1 h) (fun _ => ?_)
    refine lv_iconst (v := 1) hx hb d_Md_menAs_21 (by decide +kernel) ?_
    refine lv_goto (tgt := 26) hx hb d_Md_menAs_22 (by decide) ?_
    refine lv_iadd hx hb d_Md_menAs_26 ?_
    refine hb_ti 37 (by decide +kernel) ?_
    refine lv_istore_n (lv' := [(2, .int 37), (3, .int 36), (0, .ref (a 0)), (1, .int p_0)]) hx hb d_Md_menAs_27 rfl hl (by decide) rfl (fun ls hl => ?_)
    refine lv_iinc (v := 37) (lv' := [(3, .int 37), (2, .int 37), (0, .ref (a 0)), (1, .int p_0)]) hx hb d_Md_menAs_28 hl (k := 1) rfl (by decide +kernel) (by decide) rfl (fun ls hl => ?_)
    refine lv_goto (tgt := 4) hx hb d_Md_menAs_31 (by decide) ?_
    refine lv_iload_n hx hb d_Md_menAs_4 rfl (lv_at hl 0 rfl) ?_
    refine lv_bipush (v := 40) hx hb d_Md_menAs_5 (by decide +kernel) ?_
    refine lv_icmp_ge (tgt := 34) hx hb d_Md_menAs_7 (by decide) (fun h => absurd h (by decide +kernel)) (fun _ => ?_)
    refine lv_iload_n hx hb d_Md_menAs_10 rfl (lv_at hl 1 rfl) ?_
    refine lv_aload_n hx hb d_Md_menAs_11 rfl (lv_at hl 2 rfl) ?_
    refine va_get (D := (dC, dI)) (ci := 7) (v := .ref (a 6)) (C := R_Md) (T := F_Md) (N := 64) hx hb htb i_Md hown hK hP 0 rfl rfl 9 (by decide) (htb (.fieldLink R_Md 58 "WaterMenModel" "state" "[I") tw_11) (fun _ h9 => h9) rfl d_Md_menAs_12 ?_
    refine lv_iload_n hx hb d_Md_menAs_15 rfl (lv_at hl 0 rfl) ?_
    refine va_iald hx hb hK hP 6 5 rfl rfl (by unfold vp_in; decide +kernel) d_Md_menAs_16 ?_
    refine hb_ti 0 rfl ?_
    refine lv_iload_n hx hb d_Md_menAs_17 rfl (lv_at hl 3 rfl) ?_
    refine lv_icmp_ne (tgt := 25) hx hb d_Md_menAs_18 (by decide) (fun h => absurd c_1 h) (fun _ => ?_)
    refine lv_iconst (v := 1) hx hb d_Md_menAs_21 (by decide +kernel) ?_
    refine lv_goto (tgt := 26) hx hb d_Md_menAs_22 (by decide) ?_
    refine lv_iadd hx hb d_Md_menAs_26 ?_
    refine hb_ti 38 (by decide +kernel) ?_
    refine lv_istore_n (lv' := [(2, .int 38), (3, .int 37), (0, .ref (a 0)), (1, .int p_0)]) hx hb d_Md_menAs_27 rfl hl (by decide) rfl (fun ls hl => ?_)
    refine lv_iinc (v := 38) (lv' := [(3, .int 38), (2, .int 38), (0, .ref (a 0)), (1, .int p_0)]) hx hb d_Md_menAs_28 hl (k := 1) rfl (by decide +kernel) (by decide) rfl (fun ls hl => ?_)
    refine lv_goto (tgt := 4) hx hb d_Md_menAs_31 (by decide) ?_
    refine lv_iload_n hx hb d_Md_menAs_4 rfl (lv_at hl 0 rfl) ?_
    refine lv_bipush (v := 40) hx hb d_Md_menAs_5 (by decide +kernel) ?_
    refine lv_icmp_ge (tgt := 34) hx hb d_Md_menAs_7 (by decide) (fun h => absurd h (by decide +kernel)) (fun _ => ?_)
    refine lv_iload_n hx hb d_Md_menAs_10 rfl (lv_at hl 1 rfl) ?_
    refine lv_aload_n hx hb d_Md_menAs_11 rfl (lv_at hl 2 rfl) ?_
    refine va_get (D := (dC, dI)) (ci := 7) (v := .ref (a 6)) (C := R_Md) (T := F_Md) (N := 64) hx hb htb i_Md hown hK hP 0 rfl rfl 9 (by decide) (htb (.fieldLink R_Md 58 "WaterMenModel" "state" "[I") tw_11) (fun _ h9 => h9) rfl d_Md_menAs_12 ?_
    refine lv_iload_n hx hb d_Md_menAs_15 rfl (lv_at hl 0 rfl) ?_
    refine va_iald hx hb hK hP 6 5 rfl rfl (by unfold vp_in; decide +kernel) d_Md_menAs_16 ?_
    refine hb_ti 0 rfl ?_
    refine lv_iload_n hx hb d_Md_menAs_17 rfl (lv_at hl 3 rfl) ?_
    refine lv_icmp_ne (tgt := 25) hx hb d_Md_menAs_18 (by decide) (fun h => absurd c_1 h) (fun _ => ?_)
    refine lv_iconst (v := 1) hx hb d_Md_menAs_21 (by decide +kernel) ?_
    refine lv_goto (tgt := 26) hx hb d_Md_menAs_22 (by decide) ?_
    refine lv_iadd hx hb d_Md_menAs_26 ?_
    refine hb_ti 39 (by decide +kernel) ?_
    refine lv_istore_n (lv' := [(2, .int 39), (3, .int 38), (0, .ref (a 0)), (1, .int p_0)]) hx hb d_Md_menAs_27 rfl hl (by decide) rfl (fun ls hl => ?_)
    refine lv_iinc (v := 39) (lv' := [(3, .int 39), (2, .int 39), (0, .ref (a 0)), (1, .int p_0)]) hx hb d_Md_menAs_28 hl (k := 1) rfl (by decide +kernel) (by decide) rfl (fun ls hl => ?_)
    refine lv_goto (tgt := 4) hx hb d_Md_menAs_31 (by decide) ?_
    refine lv_iload_n hx hb d_Md_menAs_4 rfl (lv_at hl 0 rfl) ?_
    refine lv_bipush (v := 40) hx hb d_Md_menAs_5 (by decide +kernel) ?_
    refine lv_icmp_ge (tgt := 34) hx hb d_Md_menAs_7 (by decide) (fun h => absurd h (by decide +kernel)) (fun _ => ?_)
    refine lv_iload_n hx hb d_Md_menAs_10 rfl (lv_at hl 1 rfl) ?_
    refine lv_aload_n hx hb d_Md_menAs_11 rfl (lv_at hl 2 rfl) ?_
    refine va_get (D := (dC, dI)) (ci := 7) (v := .ref (a 6)) (C := R_Md) (T := F_Md) (N := 64) hx hb htb i_Md hown hK hP 0 rfl rfl 9 (by decide) (htb (.fieldLink R_Md 58 "WaterMenModel" "state" "[I") tw_11) (fun _ h9 => h9) rfl d_Md_menAs_12 ?_
    refine lv_iload_n hx hb d_Md_menAs_15 rfl (lv_at hl 0 rfl) ?_
    refine va_iald hx hb hK hP 6 5 rfl rfl (by unfold vp_in; decide +kernel) d_Md_menAs_16 ?_
    refine hb_ti 0 rfl ?_
    refine lv_iload_n hx hb d_Md_menAs_17 rfl (lv_at hl 3 rfl) ?_
    refine lv_icmp_ne (tgt := 25) hx hb d_Md_menAs_18 (by decide) (fun h => absurd c_1 h) (fun _ => ?_)
    refine lv_iconst (v := 1) hx hb d_Md_menAs_21 (by decide +kernel) ?_
    refine lv_goto (tgt := 26) hx hb d_Md_menAs_22 (by decide) ?_
    refine lv_iadd hx hb d_Md_menAs_26 ?_
    refine hb_ti 40 (by decide +kernel) ?_
    refine lv_istore_n (lv' := [(2, .int 40), (3, .int 39), (0, .ref (a 0)), (1, .int p_0)]) hx hb d_Md_menAs_27 rfl hl (by decide) rfl (fun ls hl => ?_)
    refine lv_iinc (v := 40) (lv' := [(3, .int 40), (2, .int 40), (0, .ref (a 0)), (1, .int p_0)]) hx hb d_Md_menAs_28 hl (k := 1) rfl (by decide +kernel) (by decide) rfl (fun ls hl => ?_)
    refine lv_goto (tgt := 4) hx hb d_Md_menAs_31 (by decide) ?_
    refine lv_iload_n hx hb d_Md_menAs_4 rfl (lv_at hl 0 rfl) ?_
    refine lv_bipush (v := 40) hx hb d_Md_menAs_5 (by decide +kernel) ?_
    refine lv_icmp_ge (tgt := 34) hx hb d_Md_menAs_7 (by decide) (fun _ => ?_) (fun h => absurd (by decide +kernel) h)
    refine lv_iload_n hx hb d_Md_menAs_34 rfl (lv_at hl 1 rfl) ?_
    exact W.iret (v := 40) hx hb hr (fun t ht hW => ⟨40, rfl, (by unfold f_Md_menAs; rw [if_pos c_1]), ht⟩) t_nil d_Md_menAs_35
