def f_Md_rowOf (p_0 : Int32) : Int32 := (-1)
set_option maxHeartbeats 4000000 in
set_option maxRecDepth 100000 in
theorem c_Md_rowOf (l : Launch) (dC : Nat → ClassId) (dI : Nat → Nat → Nat) (a : Nat → Nat) (k : Nat → ClassId)  (p_0 : Int32)  : Met l y_Md_rowOf (.code y_Md_rowOf b_Md_rowOf 4 (some .int) :: TB) ({ frames := 0, cells := 0, slots := 0, locals := 0 }) (va_Pc [.ref (a 0), .int p_0] (PR dC dI (MW a k) (MT k))) (vp_Si (fun r => r = f_Md_rowOf p_0)) 0 0 (fun _ => False) := by
  refine Met.ofW (cc := b_Md_rowOf) (maxL := 4) (ret := (some .int)) (by decide) rfl ?_
  intro p e s m args below meth c s₁ B hml hv
  obtain ⟨rfl, hP, hK, hN⟩ := hv
  have hx := B.exec
  have hb := B.bytes
  have hr := B.returns
  have hts := atoms_spec (ws := (.code y_Md_rowOf b_Md_rowOf 4 (some .int) :: TB)) B.pre
  have htb := fun w (h : w ∈ TB) => hts w (List.mem_cons_of_mem _ h)
  have hown : s.vm.findClass R_Md = some m.cls := findClass_of_methodNamed B.named
  have hlocks := B.notSynchronized
  have hl := lv_entry ([.ref (a 0), .int p_0]) (n := 4) (Nat.le_of_ble_eq_true rfl)
  rw [lg_entry_eq]
  generalize (lg_sl ([.ref (a 0), .int p_0]) ++ List.replicate (4 - (lg_sl ([.ref (a 0), .int p_0])).length) Slot.unset).toArray = ls at hl ⊢
  have hl : lv_has ls 4 [(0, .ref (a 0)), (1, .int p_0)] := hl
  refine lv_iconst (v := 0) hx hb d_Md_rowOf_0 (by decide +kernel) ?_
  refine lv_istore_n (lv' := [(2, .int 0), (0, .ref (a 0)), (1, .int p_0)]) hx hb d_Md_rowOf_1 rfl hl (by decide) rfl (fun ls hl => ?_)
  refine lv_iload_n hx hb d_Md_rowOf_2 rfl (lv_at hl 0 rfl) ?_
  refine lv_aload_n hx hb d_Md_rowOf_3 rfl (lv_at hl 1 rfl) ?_
  refine va_get (D := (dC, dI)) (ci := 7) (v := .int 0) (C := R_Md) (T := F_Md) (N := 64) hx hb htb i_Md hown hK hP 0 rfl rfl 2 (by decide) (htb (.fieldLink R_Md 14 "WaterMenModel" "stairs" "I") tw_141) (fun _ h9 => h9) rfl d_Md_rowOf_4 ?_
  refine lv_icmp_ge (tgt := 51) hx hb d_Md_rowOf_7 (by decide) (fun _ => ?_) (fun h => absurd (by decide +kernel) h)
  refine lv_iconst (v := (-1)) hx hb d_Md_rowOf_51 (by decide +kernel) ?_
  exact W.iret (v := (-1)) hx hb hr (fun t ht hW => ⟨(-1), rfl, rfl, ht⟩) t_nil d_Md_rowOf_52
def f_Md_placeOf (p_0 : Int32) : Int32 := (-1)
set_option maxHeartbeats 4000000 in
set_option maxRecDepth 100000 in
theorem c_Md_placeOf (l : Launch) (dC : Nat → ClassId) (dI : Nat → Nat → Nat) (a : Nat → Nat) (k : Nat → ClassId)  (p_0 : Int32)  : Met l y_Md_placeOf (.code y_Md_placeOf b_Md_placeOf 4 (some .int) :: TB) ({ frames := 1, cells := 0, slots := 0, locals := 23 }) (va_Pc [.ref (a 0), .int p_0] (PR dC dI (MW a k) (MT k))) (vp_Si (fun r => r = f_Md_placeOf p_0)) 0 0 (fun _ => False) := by
  refine Met.ofW (cc := b_Md_placeOf) (maxL := 4) (ret := (some .int)) (by decide) rfl ?_
  intro p e s m args below meth c s₁ B hml hv
  obtain ⟨rfl, hP, hK, hN⟩ := hv
  have hx := B.exec
  have hb := B.bytes
  have hr := B.returns
  have hts := atoms_spec (ws := (.code y_Md_placeOf b_Md_placeOf 4 (some .int) :: TB)) B.pre
  have htb := fun w (h : w ∈ TB) => hts w (List.mem_cons_of_mem _ h)
  have hown : s.vm.findClass R_Md = some m.cls := findClass_of_methodNamed B.named
  have hlocks := B.notSynchronized
  have hl := lv_entry ([.ref (a 0), .int p_0]) (n := 4) (Nat.le_of_ble_eq_true rfl)
  rw [lg_entry_eq]
  generalize (lg_sl ([.ref (a 0), .int p_0]) ++ List.replicate (4 - (lg_sl ([.ref (a 0), .int p_0])).length) Slot.unset).toArray = ls at hl ⊢
  have hl : lv_has ls 4 [(0, .ref (a 0)), (1, .int p_0)] := hl
  refine lv_aload_n hx hb d_Md_placeOf_0 rfl (lv_at hl 0 rfl) ?_
  refine lv_iload_n hx hb d_Md_placeOf_1 rfl (lv_at hl 1 rfl) ?_
  refine vp_callSi (va_Run.run (va_runV (As := [.int p_0]) (rest := []) ⟨hx, hb, hml, hown, htb⟩ (c_Md_rowOf l dC dI a k p_0) (cwV 1 htb (gd_V tw_169 tw_170 tw_171 tw_138 tw_168) rfl rfl rfl (by decide +kernel) ⟨Nat.le_of_ble_eq_true rfl, Nat.le_of_ble_eq_true rfl⟩) ⟨pr_blind, va_recv hK hP (ci := 7) (q0 := 0) rfl rfl, pr_pre hP hK hN⟩ rfl rfl hl.1 rfl (lv_room (Nat.le_of_ble_eq_true rfl)) d_Md_placeOf_2 ⟨Nat.le_of_ble_eq_true rfl, Nat.le_of_ble_eq_true rfl⟩)) (fun r er => ?_)
  subst er
  refine hb_ti (-1) rfl ?_
  refine lv_istore_n (lv' := [(2, .int (-1)), (0, .ref (a 0)), (1, .int p_0)]) hx hb d_Md_placeOf_5 rfl hl (by decide) rfl (fun ls hl => ?_)
  refine lv_iconst (v := 0) hx hb d_Md_placeOf_6 (by decide +kernel) ?_
  refine lv_istore_n (lv' := [(3, .int 0), (2, .int (-1)), (0, .ref (a 0)), (1, .int p_0)]) hx hb d_Md_placeOf_7 rfl hl (by decide) rfl (fun ls hl => ?_)
  refine lv_iload_n hx hb d_Md_placeOf_8 rfl (lv_at hl 1 rfl) ?_
  refine lv_if_lt (tgt := 33) hx hb d_Md_placeOf_9 (by decide) (fun _ => ?_) (fun h => absurd (by decide +kernel) h)
  refine lv_iload_n hx hb d_Md_placeOf_33 rfl (lv_at hl 1 rfl) ?_
  refine lv_if_ge (tgt := 41) hx hb d_Md_placeOf_34 (by decide) (fun h => absurd h (by decide +kernel)) (fun _ => ?_)
  refine lv_iconst (v := (-1)) hx hb d_Md_placeOf_37 (by decide +kernel) ?_
  refine lv_goto (tgt := 42) hx hb d_Md_placeOf_38 (by decide) ?_
  exact W.iret (v := (-1)) hx hb hr (fun t ht hW => ⟨(-1), rfl, rfl, ht⟩) t_nil d_Md_placeOf_42
def f_Md_man (p_0 : Int32) (p_1 : Int32) : Int32 := if p_0 < 0 then ((-2)) else (if 39 < p_0 then ((-2)) else (if p_1 = 0 then (0) else (if p_1 = 1 then ((-1)) else (if p_1 = 2 then ((-1)) else (if p_1 = 3 then ((-1)) else (if p_1 = 4 then (0) else (if p_1 = 5 then (0) else (if p_1 = 6 then (0) else ((-2))))))))))
set_option maxHeartbeats 4000000 in
set_option maxRecDepth 100000 in
theorem c_Md_man (l : Launch) (dC : Nat → ClassId) (dI : Nat → Nat → Nat) (a : Nat → Nat) (k : Nat → ClassId)  (p_0 : Int32) (p_1 : Int32)  : Met l y_Md_man (.code y_Md_man b_Md_man 3 (some .int) :: TB) ({ frames := 2, cells := 0, slots := 0, locals := 46 }) (va_Pc [.ref (a 0), .int p_0, .int p_1] (PR dC dI (MW a k) (MT k))) (vp_Si (fun r => r = f_Md_man p_0 p_1)) 0 0 (fun _ => False) := by
  refine Met.ofW (cc := b_Md_man) (maxL := 3) (ret := (some .int)) (by decide) rfl ?_
  intro p e s m args below meth c s₁ B hml hv
  obtain ⟨rfl, hP, hK, hN⟩ := hv
  have hx := B.exec
  have hb := B.bytes
  have hr := B.returns
  have hts := atoms_spec (ws := (.code y_Md_man b_Md_man 3 (some .int) :: TB)) B.pre
  have htb := fun w (h : w ∈ TB) => hts w (List.mem_cons_of_mem _ h)
  have hown : s.vm.findClass R_Md = some m.cls := findClass_of_methodNamed B.named
  have hlocks := B.notSynchronized
  have hl := lv_entry ([.ref (a 0), .int p_0, .int p_1]) (n := 3) (Nat.le_of_ble_eq_true rfl)
  rw [lg_entry_eq]
  generalize (lg_sl ([.ref (a 0), .int p_0, .int p_1]) ++ List.replicate (3 - (lg_sl ([.ref (a 0), .int p_0, .int p_1])).length) Slot.unset).toArray = ls at hl ⊢
  have hl : lv_has ls 3 [(0, .ref (a 0)), (1, .int p_0), (2, .int p_1)] := hl
  refine lv_iload_n hx hb d_Md_man_0 rfl (lv_at hl 1 rfl) ?_
  refine vp_callSi (va_Run.run (va_runS (As := [.int p_0]) (rest := []) ⟨hx, hb, hml, hown, htb⟩ (c_Md_isMan l p_0) (cwS 1 htb (gd_S tw_164 tw_165 tw_138 tw_163) rfl rfl rfl (by decide +kernel) ⟨Nat.le_of_ble_eq_true rfl, Nat.le_of_ble_eq_true rfl⟩) ⟨fun _ _ _ _ h => h, fun U _ _ => ⟨rfl, trivial⟩⟩ rfl rfl hl.1 rfl (lv_room (Nat.le_of_ble_eq_true rfl)) d_Md_man_1 ⟨Nat.le_of_ble_eq_true rfl, Nat.le_of_ble_eq_true rfl⟩)) (fun r er => ?_)
  subst er
  by_cases c_1 : p_0 < 0
  · refine hb_ti 0 (by unfold f_Md_isMan; rw [if_pos c_1]) ?_
    refine lv_if_ne (tgt := 10) hx hb d_Md_man_4 (by decide) (fun h => absurd (by decide +kernel) h) (fun _ => ?_)
    refine lv_bipush (v := (-2)) hx hb d_Md_man_7 (by decide +kernel) ?_
    exact W.iret (v := (-2)) hx hb hr (fun t ht hW => ⟨(-2), rfl, (by unfold f_Md_man; rw [if_pos c_1]), ht⟩) t_nil d_Md_man_9
  · by_cases c_2 : 39 < p_0
    · refine hb_ti 0 (by unfold f_Md_isMan; rw [if_neg c_1, if_pos c_2]) ?_
      refine lv_if_ne (tgt := 10) hx hb d_Md_man_4 (by decide) (fun h => absurd (by decide +kernel) h) (fun _ => ?_)
      refine lv_bipush (v := (-2)) hx hb d_Md_man_7 (by decide +kernel) ?_
      exact W.iret (v := (-2)) hx hb hr (fun t ht hW => ⟨(-2), rfl, (by unfold f_Md_man; rw [if_neg c_1, if_pos c_2]), ht⟩) t_nil d_Md_man_9
    · refine hb_ti 1 (by unfold f_Md_isMan; rw [if_neg c_1, if_neg c_2]) ?_
      refine lv_if_ne (tgt := 10) hx hb d_Md_man_4 (by decide) (fun _ => ?_) (fun h => absurd h (by decide +kernel))
      refine lv_iload_n hx hb d_Md_man_10 rfl (lv_at hl 2 rfl) ?_
      by_cases c_3 : p_1 = 0
      · refine lv_tableIn (off := 41) (tgt := 52) hx hb d_Md_man_11 (by rw [c_3]; decide +kernel) (by rw [c_3]; decide +kernel) (by rw [c_3]; decide +kernel) (by decide) ?_
        refine lv_aload_n hx hb d_Md_man_52 rfl (lv_at hl 0 rfl) ?_
        refine va_get (D := (dC, dI)) (ci := 7) (v := .ref (a 6)) (C := R_Md) (T := F_Md) (N := 64) hx hb htb i_Md hown hK hP 0 rfl rfl 9 (by decide) (htb (.fieldLink R_Md 58 "WaterMenModel" "state" "[I") tw_166) (fun _ h9 => h9) rfl d_Md_man_53 ?_
        refine lv_iload_n hx hb d_Md_man_56 rfl (lv_at hl 1 rfl) ?_
        refine va_iald hx hb hK hP 6 5 rfl rfl (hb_inl c_1 c_2 (by decide +kernel)) d_Md_man_57 ?_
        refine hb_ti 0 rfl ?_
        exact W.iret (v := 0) hx hb hr (fun t ht hW => ⟨0, rfl, (by unfold f_Md_man; rw [if_neg c_1, if_neg c_2, if_pos c_3]), ht⟩) t_nil d_Md_man_58
      · by_cases c_4 : p_1 = 1
        · refine lv_tableIn (off := 48) (tgt := 59) hx hb d_Md_man_11 (by rw [c_4]; decide +kernel) (by rw [c_4]; decide +kernel) (by rw [c_4]; decide +kernel) (by decide) ?_
          refine lv_aload_n hx hb d_Md_man_59 rfl (lv_at hl 0 rfl) ?_
          refine va_get (D := (dC, dI)) (ci := 7) (v := .ref (a 7)) (C := R_Md) (T := F_Md) (N := 64) hx hb htb i_Md hown hK hP 0 rfl rfl 10 (by decide) (htb (.fieldLink R_Md 61 "WaterMenModel" "master" "[I") tw_167) (fun _ h9 => h9) rfl d_Md_man_60 ?_
          refine lv_iload_n hx hb d_Md_man_63 rfl (lv_at hl 1 rfl) ?_
          refine va_iald hx hb hK hP 7 6 rfl rfl (hb_inl c_1 c_2 (by decide +kernel)) d_Md_man_64 ?_
          refine hb_ti (-1) rfl ?_
          exact W.iret (v := (-1)) hx hb hr (fun t ht hW => ⟨(-1), rfl, (by unfold f_Md_man; rw [if_neg c_1, if_neg c_2, if_neg c_3, if_pos c_4]), ht⟩) t_nil d_Md_man_65
        · by_cases c_5 : p_1 = 2
          · refine lv_tableIn (off := 55) (tgt := 66) hx hb d_Md_man_11 (by rw [c_5]; decide +kernel) (by rw [c_5]; decide +kernel) (by rw [c_5]; decide +kernel) (by decide) ?_
            refine lv_aload_n hx hb d_Md_man_66 rfl (lv_at hl 0 rfl) ?_
            refine lv_iload_n hx hb d_Md_man_67 rfl (lv_at hl 1 rfl) ?_
            refine vp_callSi (va_Run.run (va_runV (As := [.int p_0]) (rest := []) ⟨hx, hb, hml, hown, htb⟩ (c_Md_rowOf l dC dI a k p_0) (cwV 1 htb (gd_V tw_169 tw_170 tw_171 tw_138 tw_168) rfl rfl rfl (by decide +kernel) ⟨Nat.le_of_ble_eq_true rfl, Nat.le_of_ble_eq_true rfl⟩) ⟨pr_blind, va_recv hK hP (ci := 7) (q0 := 0) rfl rfl, pr_pre hP hK hN⟩ rfl rfl hl.1 rfl (lv_room (Nat.le_of_ble_eq_true rfl)) d_Md_man_68 ⟨Nat.le_of_ble_eq_true rfl, Nat.le_of_ble_eq_true rfl⟩)) (fun r er => ?_)
            subst er
            refine hb_ti (-1) rfl ?_
            exact W.iret (v := (-1)) hx hb hr (fun t ht hW => ⟨(-1), rfl, (by unfold f_Md_man; rw [if_neg c_1, if_neg c_2, if_neg c_3, if_neg c_4, if_pos c_5]), ht⟩) t_nil d_Md_man_71
          · by_cases c_6 : p_1 = 3
            · refine lv_tableIn (off := 61) (tgt := 72) hx hb d_Md_man_11 (by rw [c_6]; decide +kernel) (by rw [c_6]; decide +kernel) (by rw [c_6]; decide +kernel) (by decide) ?_
              refine lv_aload_n hx hb d_Md_man_72 rfl (lv_at hl 0 rfl) ?_
              refine lv_iload_n hx hb d_Md_man_73 rfl (lv_at hl 1 rfl) ?_
              refine vp_callSi (va_Run.run (va_runV (As := [.int p_0]) (rest := []) ⟨hx, hb, hml, hown, htb⟩ (c_Md_placeOf l dC dI a k p_0) (cwV 1 htb (gd_V tw_173 tw_174 tw_175 tw_138 tw_172) rfl rfl rfl (by decide +kernel) ⟨Nat.le_of_ble_eq_true rfl, Nat.le_of_ble_eq_true rfl⟩) ⟨pr_blind, va_recv hK hP (ci := 7) (q0 := 0) rfl rfl, pr_pre hP hK hN⟩ rfl rfl hl.1 rfl (lv_room (Nat.le_of_ble_eq_true rfl)) d_Md_man_74 ⟨Nat.le_of_ble_eq_true rfl, Nat.le_of_ble_eq_true rfl⟩)) (fun r er => ?_)
              subst er
              refine hb_ti (-1) rfl ?_
              exact W.iret (v := (-1)) hx hb hr (fun t ht hW => ⟨(-1), rfl, (by unfold f_Md_man; rw [if_neg c_1, if_neg c_2, if_neg c_3, if_neg c_4, if_neg c_5, if_pos c_6]), ht⟩) t_nil d_Md_man_77
            · by_cases c_7 : p_1 = 4
              · refine lv_tableIn (off := 67) (tgt := 78) hx hb d_Md_man_11 (by rw [c_7]; decide +kernel) (by rw [c_7]; decide +kernel) (by rw [c_7]; decide +kernel) (by decide) ?_
                refine lv_aload_n hx hb d_Md_man_78 rfl (lv_at hl 0 rfl) ?_
                refine va_get (D := (dC, dI)) (ci := 7) (v := .ref (a 12)) (C := R_Md) (T := F_Md) (N := 64) hx hb htb i_Md hown hK hP 0 rfl rfl 15 (by decide) (htb (.fieldLink R_Md 76 "WaterMenModel" "coins" "[I") tw_176) (fun _ h9 => h9) rfl d_Md_man_79 ?_
                refine lv_iload_n hx hb d_Md_man_82 rfl (lv_at hl 1 rfl) ?_
                refine va_iald hx hb hK hP 12 11 rfl rfl (hb_inl c_1 c_2 (by decide +kernel)) d_Md_man_83 ?_
                refine hb_ti 0 rfl ?_
                exact W.iret (v := 0) hx hb hr (fun t ht hW => ⟨0, rfl, (by unfold f_Md_man; rw [if_neg c_1, if_neg c_2, if_neg c_3, if_neg c_4, if_neg c_5, if_neg c_6, if_pos c_7]), ht⟩) t_nil d_Md_man_84
              · by_cases c_8 : p_1 = 5
                · refine lv_tableIn (off := 74) (tgt := 85) hx hb d_Md_man_11 (by rw [c_8]; decide +kernel) (by rw [c_8]; decide +kernel) (by rw [c_8]; decide +kernel) (by decide) ?_
                  refine lv_aload_n hx hb d_Md_man_85 rfl (lv_at hl 0 rfl) ?_
                  refine va_get (D := (dC, dI)) (ci := 7) (v := .ref (a 13)) (C := R_Md) (T := F_Md) (N := 64) hx hb htb i_Md hown hK hP 0 rfl rfl 16 (by decide) (htb (.fieldLink R_Md 79 "WaterMenModel" "wayOf" "[I") tw_177) (fun _ h9 => h9) rfl d_Md_man_86 ?_
                  refine lv_iload_n hx hb d_Md_man_89 rfl (lv_at hl 1 rfl) ?_
                  refine va_iald hx hb hK hP 13 12 rfl rfl (hb_inl c_1 c_2 (by decide +kernel)) d_Md_man_90 ?_
                  refine hb_ti (-1) rfl ?_
                  refine lv_if_lt (tgt := 98) hx hb d_Md_man_91 (by decide) (fun _ => ?_) (fun h => absurd (by decide +kernel) h)
                  refine lv_iconst (v := 0) hx hb d_Md_man_98 (by decide +kernel) ?_
                  exact W.iret (v := 0) hx hb hr (fun t ht hW => ⟨0, rfl, (by unfold f_Md_man; rw [if_neg c_1, if_neg c_2, if_neg c_3, if_neg c_4, if_neg c_5, if_neg c_6, if_neg c_7, if_pos c_8]), ht⟩) t_nil d_Md_man_99
                · by_cases c_9 : p_1 = 6
                  · refine lv_tableIn (off := 89) (tgt := 100) hx hb d_Md_man_11 (by rw [c_9]; decide +kernel) (by rw [c_9]; decide +kernel) (by rw [c_9]; decide +kernel) (by decide) ?_
                    refine lv_aload_n hx hb d_Md_man_100 rfl (lv_at hl 0 rfl) ?_
                    refine va_get (D := (dC, dI)) (ci := 7) (v := .ref (a 14)) (C := R_Md) (T := F_Md) (N := 64) hx hb htb i_Md hown hK hP 0 rfl rfl 17 (by decide) (htb (.fieldLink R_Md 82 "WaterMenModel" "tripsOf" "[I") tw_178) (fun _ h9 => h9) rfl d_Md_man_101 ?_
                    refine lv_iload_n hx hb d_Md_man_104 rfl (lv_at hl 1 rfl) ?_
                    refine va_iald hx hb hK hP 14 13 rfl rfl (hb_inl c_1 c_2 (by decide +kernel)) d_Md_man_105 ?_
                    refine hb_ti 0 rfl ?_
                    exact W.iret (v := 0) hx hb hr (fun t ht hW => ⟨0, rfl, (by unfold f_Md_man; rw [if_neg c_1, if_neg c_2, if_neg c_3, if_neg c_4, if_neg c_5, if_neg c_6, if_neg c_7, if_neg c_8, if_pos c_9]), ht⟩) t_nil d_Md_man_106
                  · refine lv_tableOut (tgt := 107) hx hb d_Md_man_11 (by have h0 := lv_neT c_3 (show (0 : Int32).toInt = 0 by decide +kernel); have h1 := lv_neT c_4 (show (1 : Int32).toInt = 1 by decide +kernel); have h2 := lv_neT c_5 (show (2 : Int32).toInt = 2 by decide +kernel); have h3 := lv_neT c_6 (show (3 : Int32).toInt = 3 by decide +kernel); have h4 := lv_neT c_7 (show (4 : Int32).toInt = 4 by decide +kernel); have h5 := lv_neT c_8 (show (5 : Int32).toInt = 5 by decide +kernel); have h6 := lv_neT c_9 (show (6 : Int32).toInt = 6 by decide +kernel); omega) (by decide) ?_
                    refine lv_bipush (v := (-2)) hx hb d_Md_man_107 (by decide +kernel) ?_
                    exact W.iret (v := (-2)) hx hb hr (fun t ht hW => ⟨(-2), rfl, (by unfold f_Md_man; rw [if_neg c_1, if_neg c_2, if_neg c_3, if_neg c_4, if_neg c_5, if_neg c_6, if_neg c_7, if_neg c_8, if_neg c_9]), ht⟩) t_nil d_Md_man_109
def f_Md_isStairs (p_0 : Int32) : Int32 := if p_0 < 0 then (0) else (0)
set_option maxHeartbeats 4000000 in
set_option maxRecDepth 100000 in
theorem c_Md_isStairs (l : Launch) (dC : Nat → ClassId) (dI : Nat → Nat → Nat) (a : Nat → Nat) (k : Nat → ClassId)  (p_0 : Int32)  : Met l y_Md_isStairs (.code y_Md_isStairs b_Md_isStairs 2 (some .boolean) :: TB) ({ frames := 1, cells := 0, slots := 0, locals := 22 }) (va_Pc [.ref (a 0), .int p_0] (PR dC dI (MW a k) (MT k))) (vp_Si (fun r => r = f_Md_isStairs p_0)) 0 0 (fun _ => False) := by
  refine Met.ofW (cc := b_Md_isStairs) (maxL := 2) (ret := (some .boolean)) (by decide) rfl ?_
  intro p e s m args below meth c s₁ B hml hv
  obtain ⟨rfl, hP, hK, hN⟩ := hv
  have hx := B.exec
  have hb := B.bytes
  have hr := B.returns
  have hts := atoms_spec (ws := (.code y_Md_isStairs b_Md_isStairs 2 (some .boolean) :: TB)) B.pre
  have htb := fun w (h : w ∈ TB) => hts w (List.mem_cons_of_mem _ h)
  have hown : s.vm.findClass R_Md = some m.cls := findClass_of_methodNamed B.named
  have hlocks := B.notSynchronized
  have hl := lv_entry ([.ref (a 0), .int p_0]) (n := 2) (Nat.le_of_ble_eq_true rfl)
  rw [lg_entry_eq]
  generalize (lg_sl ([.ref (a 0), .int p_0]) ++ List.replicate (2 - (lg_sl ([.ref (a 0), .int p_0])).length) Slot.unset).toArray = ls at hl ⊢
  have hl : lv_has ls 2 [(0, .ref (a 0)), (1, .int p_0)] := hl
  refine lv_iload_n hx hb d_Md_isStairs_0 rfl (lv_at hl 1 rfl) ?_
  refine lv_iconst (v := 0) hx hb d_Md_isStairs_1 (by decide +kernel) ?_
  refine lv_aload_n hx hb d_Md_isStairs_2 rfl (lv_at hl 0 rfl) ?_
  refine va_get (D := (dC, dI)) (ci := 7) (v := .int 0) (C := R_Md) (T := F_Md) (N := 64) hx hb htb i_Md hown hK hP 0 rfl rfl 2 (by decide) (htb (.fieldLink R_Md 14 "WaterMenModel" "stairs" "I") tw_141) (fun _ h9 => h9) rfl d_Md_isStairs_3 ?_
  refine lv_iconst (v := 1) hx hb d_Md_isStairs_6 (by decide +kernel) ?_
  refine lv_isub hx hb d_Md_isStairs_7 ?_
  refine hb_ti (-1) (by decide +kernel) ?_
  refine vp_callSi (va_Run.run (va_runS (As := [.int p_0, .int 0, .int (-1)]) (rest := []) ⟨hx, hb, hml, hown, htb⟩ (c_Md_in l p_0 0 (-1)) (cwS 3 htb (gd_S tw_139 tw_140 tw_138 tw_137) rfl rfl rfl (by decide +kernel) ⟨Nat.le_of_ble_eq_true rfl, Nat.le_of_ble_eq_true rfl⟩) ⟨fun _ _ _ _ h => h, fun U _ _ => ⟨rfl, trivial⟩⟩ rfl rfl hl.1 rfl (lv_room (Nat.le_of_ble_eq_true rfl)) d_Md_isStairs_8 ⟨Nat.le_of_ble_eq_true rfl, Nat.le_of_ble_eq_true rfl⟩)) (fun r er => ?_)
  subst er
  by_cases c_1 : p_0 < 0
  · refine hb_ti 0 (by unfold f_Md_in; rw [if_pos c_1]) ?_
    exact W.zret (v := 0) hx hb hr (by decide +kernel) (fun t ht hW => ⟨0, rfl, (by unfold f_Md_isStairs; rw [if_pos c_1]), ht⟩) t_nil d_Md_isStairs_11
  · refine hb_ti 0 (by unfold f_Md_in; rw [if_neg c_1, if_pos (show (-1) < p_0 from by have e0 := c_1; rw [Int32.lt_iff_toInt_lt] at e0; have z0 : ((-1) : Int32).toInt = -1 := (by decide +kernel); have z1 : (0 : Int32).toInt = 0 := (by decide +kernel); rw [Int32.lt_iff_toInt_lt]; omega)]) ?_
    exact W.zret (v := 0) hx hb hr (by decide +kernel) (fun t ht hW => ⟨0, rfl, (by unfold f_Md_isStairs; rw [if_neg c_1]), ht⟩) t_nil d_Md_isStairs_11
def f_Md_boat (p_0 : Int32) (p_1 : Int32) : Int32 := if p_0 < 1 then ((-1)) else (if 2 < p_0 then ((-1)) else (if p_1 < 0 then ((-1)) else ((-1))))
set_option maxHeartbeats 4000000 in
set_option maxRecDepth 100000 in
theorem c_Md_boat (l : Launch) (dC : Nat → ClassId) (dI : Nat → Nat → Nat) (a : Nat → Nat) (k : Nat → ClassId)  (p_0 : Int32) (p_1 : Int32)  : Met l y_Md_boat (.code y_Md_boat b_Md_boat 3 (some .int) :: TB) ({ frames := 2, cells := 0, slots := 0, locals := 43 }) (va_Pc [.ref (a 0), .int p_0, .int p_1] (PR dC dI (MW a k) (MT k))) (vp_Si (fun r => r = f_Md_boat p_0 p_1)) 0 0 (fun _ => False) := by
  refine Met.ofW (cc := b_Md_boat) (maxL := 3) (ret := (some .int)) (by decide) rfl ?_
  intro p e s m args below meth c s₁ B hml hv
  obtain ⟨rfl, hP, hK, hN⟩ := hv
  have hx := B.exec
  have hb := B.bytes
  have hr := B.returns
  have hts := atoms_spec (ws := (.code y_Md_boat b_Md_boat 3 (some .int) :: TB)) B.pre
  have htb := fun w (h : w ∈ TB) => hts w (List.mem_cons_of_mem _ h)
  have hown : s.vm.findClass R_Md = some m.cls := findClass_of_methodNamed B.named
  have hlocks := B.notSynchronized
  have hl := lv_entry ([.ref (a 0), .int p_0, .int p_1]) (n := 3) (Nat.le_of_ble_eq_true rfl)
  rw [lg_entry_eq]
  generalize (lg_sl ([.ref (a 0), .int p_0, .int p_1]) ++ List.replicate (3 - (lg_sl ([.ref (a 0), .int p_0, .int p_1])).length) Slot.unset).toArray = ls at hl ⊢
  have hl : lv_has ls 3 [(0, .ref (a 0)), (1, .int p_0), (2, .int p_1)] := hl
  refine lv_iload_n hx hb d_Md_boat_0 rfl (lv_at hl 1 rfl) ?_
  refine lv_iconst (v := 1) hx hb d_Md_boat_1 (by decide +kernel) ?_
  refine lv_iconst (v := 2) hx hb d_Md_boat_2 (by decide +kernel) ?_
  refine vp_callSi (va_Run.run (va_runS (As := [.int p_0, .int 1, .int 2]) (rest := []) ⟨hx, hb, hml, hown, htb⟩ (c_Md_in l p_0 1 2) (cwS 3 htb (gd_S tw_139 tw_140 tw_138 tw_137) rfl rfl rfl (by decide +kernel) ⟨Nat.le_of_ble_eq_true rfl, Nat.le_of_ble_eq_true rfl⟩) ⟨fun _ _ _ _ h => h, fun U _ _ => ⟨rfl, trivial⟩⟩ rfl rfl hl.1 rfl (lv_room (Nat.le_of_ble_eq_true rfl)) d_Md_boat_3 ⟨Nat.le_of_ble_eq_true rfl, Nat.le_of_ble_eq_true rfl⟩)) (fun r er => ?_)
  subst er
  by_cases c_1 : p_0 < 1
  · refine hb_ti 0 (by unfold f_Md_in; rw [if_pos c_1]) ?_
    refine lv_if_eq (tgt := 17) hx hb d_Md_boat_6 (by decide) (fun _ => ?_) (fun h => absurd (by decide +kernel) h)
    refine lv_iconst (v := (-1)) hx hb d_Md_boat_17 (by decide +kernel) ?_
    exact W.iret (v := (-1)) hx hb hr (fun t ht hW => ⟨(-1), rfl, (by unfold f_Md_boat; rw [if_pos c_1]), ht⟩) t_nil d_Md_boat_18
  · by_cases c_2 : 2 < p_0
    · refine hb_ti 0 (by unfold f_Md_in; rw [if_neg c_1, if_pos c_2]) ?_
      refine lv_if_eq (tgt := 17) hx hb d_Md_boat_6 (by decide) (fun _ => ?_) (fun h => absurd (by decide +kernel) h)
      refine lv_iconst (v := (-1)) hx hb d_Md_boat_17 (by decide +kernel) ?_
      exact W.iret (v := (-1)) hx hb hr (fun t ht hW => ⟨(-1), rfl, (by unfold f_Md_boat; rw [if_neg c_1, if_pos c_2]), ht⟩) t_nil d_Md_boat_18
    · refine hb_ti 1 (by unfold f_Md_in; rw [if_neg c_1, if_neg c_2]) ?_
      refine lv_if_eq (tgt := 17) hx hb d_Md_boat_6 (by decide) (fun h => absurd h (by decide +kernel)) (fun _ => ?_)
      refine lv_aload_n hx hb d_Md_boat_9 rfl (lv_at hl 0 rfl) ?_
      refine lv_iload_n hx hb d_Md_boat_10 rfl (lv_at hl 2 rfl) ?_
      refine vp_callSi (va_Run.run (va_runV (As := [.int p_1]) (rest := []) ⟨hx, hb, hml, hown, htb⟩ (c_Md_isStairs l dC dI a k p_1) (cwV 1 htb (gd_V tw_180 tw_181 tw_182 tw_138 tw_179) rfl rfl rfl (by decide +kernel) ⟨Nat.le_of_ble_eq_true rfl, Nat.le_of_ble_eq_true rfl⟩) ⟨pr_blind, va_recv hK hP (ci := 7) (q0 := 0) rfl rfl, pr_pre hP hK hN⟩ rfl rfl hl.1 rfl (lv_room (Nat.le_of_ble_eq_true rfl)) d_Md_boat_11 ⟨Nat.le_of_ble_eq_true rfl, Nat.le_of_ble_eq_true rfl⟩)) (fun r er => ?_)
      subst er
      by_cases c_3 : p_1 < 0
      · refine hb_ti 0 (by unfold f_Md_isStairs; rw [if_pos c_3]) ?_
        refine lv_if_ne (tgt := 19) hx hb d_Md_boat_14 (by decide) (fun h => absurd (by decide +kernel) h) (fun _ => ?_)
        refine lv_iconst (v := (-1)) hx hb d_Md_boat_17 (by decide +kernel) ?_
        exact W.iret (v := (-1)) hx hb hr (fun t ht hW => ⟨(-1), rfl, (by unfold f_Md_boat; rw [if_neg c_1, if_neg c_2, if_pos c_3]), ht⟩) t_nil d_Md_boat_18
      · refine hb_ti 0 (by unfold f_Md_isStairs; rw [if_neg c_3]) ?_
        refine lv_if_ne (tgt := 19) hx hb d_Md_boat_14 (by decide) (fun h => absurd (by decide +kernel) h) (fun _ => ?_)
        refine lv_iconst (v := (-1)) hx hb d_Md_boat_17 (by decide +kernel) ?_
        exact W.iret (v := (-1)) hx hb hr (fun t ht hW => ⟨(-1), rfl, (by unfold f_Md_boat; rw [if_neg c_1, if_neg c_2, if_neg c_3]), ht⟩) t_nil d_Md_boat_18
def f_Md_isBoat (p_0 : Int32) : Int32 := if p_0 < 0 then (0) else (0)
set_option maxHeartbeats 4000000 in
set_option maxRecDepth 100000 in
theorem c_Md_isBoat (l : Launch) (dC : Nat → ClassId) (dI : Nat → Nat → Nat) (a : Nat → Nat) (k : Nat → ClassId)  (p_0 : Int32)  : Met l y_Md_isBoat (.code y_Md_isBoat b_Md_isBoat 2 (some .boolean) :: TB) ({ frames := 1, cells := 0, slots := 0, locals := 22 }) (va_Pc [.ref (a 0), .int p_0] (PR dC dI (MW a k) (MT k))) (vp_Si (fun r => r = f_Md_isBoat p_0)) 0 0 (fun _ => False) := by
  refine Met.ofW (cc := b_Md_isBoat) (maxL := 2) (ret := (some .boolean)) (by decide) rfl ?_
  intro p e s m args below meth c s₁ B hml hv
  obtain ⟨rfl, hP, hK, hN⟩ := hv
  have hx := B.exec
  have hb := B.bytes
  have hr := B.returns
  have hts := atoms_spec (ws := (.code y_Md_isBoat b_Md_isBoat 2 (some .boolean) :: TB)) B.pre
  have htb := fun w (h : w ∈ TB) => hts w (List.mem_cons_of_mem _ h)
  have hown : s.vm.findClass R_Md = some m.cls := findClass_of_methodNamed B.named
  have hlocks := B.notSynchronized
  have hl := lv_entry ([.ref (a 0), .int p_0]) (n := 2) (Nat.le_of_ble_eq_true rfl)
  rw [lg_entry_eq]
  generalize (lg_sl ([.ref (a 0), .int p_0]) ++ List.replicate (2 - (lg_sl ([.ref (a 0), .int p_0])).length) Slot.unset).toArray = ls at hl ⊢
  have hl : lv_has ls 2 [(0, .ref (a 0)), (1, .int p_0)] := hl
  refine lv_iload_n hx hb d_Md_isBoat_0 rfl (lv_at hl 1 rfl) ?_
  refine lv_iconst (v := 0) hx hb d_Md_isBoat_1 (by decide +kernel) ?_
  refine lv_aload_n hx hb d_Md_isBoat_2 rfl (lv_at hl 0 rfl) ?_
  refine va_get (D := (dC, dI)) (ci := 7) (v := .int 0) (C := R_Md) (T := F_Md) (N := 64) hx hb htb i_Md hown hK hP 0 rfl rfl 21 (by decide) (htb (.fieldLink R_Md 206 "WaterMenModel" "boats" "I") tw_183) (fun _ h9 => h9) rfl d_Md_isBoat_3 ?_
  refine lv_iconst (v := 1) hx hb d_Md_isBoat_6 (by decide +kernel) ?_
  refine lv_isub hx hb d_Md_isBoat_7 ?_
  refine hb_ti (-1) (by decide +kernel) ?_
  refine vp_callSi (va_Run.run (va_runS (As := [.int p_0, .int 0, .int (-1)]) (rest := []) ⟨hx, hb, hml, hown, htb⟩ (c_Md_in l p_0 0 (-1)) (cwS 3 htb (gd_S tw_139 tw_140 tw_138 tw_137) rfl rfl rfl (by decide +kernel) ⟨Nat.le_of_ble_eq_true rfl, Nat.le_of_ble_eq_true rfl⟩) ⟨fun _ _ _ _ h => h, fun U _ _ => ⟨rfl, trivial⟩⟩ rfl rfl hl.1 rfl (lv_room (Nat.le_of_ble_eq_true rfl)) d_Md_isBoat_8 ⟨Nat.le_of_ble_eq_true rfl, Nat.le_of_ble_eq_true rfl⟩)) (fun r er => ?_)
  subst er
  by_cases c_1 : p_0 < 0
  · refine hb_ti 0 (by unfold f_Md_in; rw [if_pos c_1]) ?_
    exact W.zret (v := 0) hx hb hr (by decide +kernel) (fun t ht hW => ⟨0, rfl, (by unfold f_Md_isBoat; rw [if_pos c_1]), ht⟩) t_nil d_Md_isBoat_11
  · refine hb_ti 0 (by unfold f_Md_in; rw [if_neg c_1, if_pos (show (-1) < p_0 from by have e0 := c_1; rw [Int32.lt_iff_toInt_lt] at e0; have z0 : ((-1) : Int32).toInt = -1 := (by decide +kernel); have z1 : (0 : Int32).toInt = 0 := (by decide +kernel); rw [Int32.lt_iff_toInt_lt]; omega)]) ?_
    exact W.zret (v := 0) hx hb hr (by decide +kernel) (fun t ht hW => ⟨0, rfl, (by unfold f_Md_isBoat; rw [if_neg c_1]), ht⟩) t_nil d_Md_isBoat_11
def f_Md_craft (p_0 : Int32) (p_1 : Int32) : Int32 := if p_0 < 0 then ((-1)) else ((-1))
set_option maxHeartbeats 4000000 in
set_option maxRecDepth 100000 in
theorem c_Md_craft (l : Launch) (dC : Nat → ClassId) (dI : Nat → Nat → Nat) (a : Nat → Nat) (k : Nat → ClassId)  (p_0 : Int32) (p_1 : Int32)  : Met l y_Md_craft (.code y_Md_craft b_Md_craft 3 (some .int) :: TB) ({ frames := 2, cells := 0, slots := 0, locals := 43 }) (va_Pc [.ref (a 0), .int p_0, .int p_1] (PR dC dI (MW a k) (MT k))) (vp_Si (fun r => r = f_Md_craft p_0 p_1)) 0 0 (fun _ => False) := by
  refine Met.ofW (cc := b_Md_craft) (maxL := 3) (ret := (some .int)) (by decide) rfl ?_
  intro p e s m args below meth c s₁ B hml hv
  obtain ⟨rfl, hP, hK, hN⟩ := hv
  have hx := B.exec
  have hb := B.bytes
  have hr := B.returns
  have hts := atoms_spec (ws := (.code y_Md_craft b_Md_craft 3 (some .int) :: TB)) B.pre
  have htb := fun w (h : w ∈ TB) => hts w (List.mem_cons_of_mem _ h)
  have hown : s.vm.findClass R_Md = some m.cls := findClass_of_methodNamed B.named
  have hlocks := B.notSynchronized
  have hl := lv_entry ([.ref (a 0), .int p_0, .int p_1]) (n := 3) (Nat.le_of_ble_eq_true rfl)
  rw [lg_entry_eq]
  generalize (lg_sl ([.ref (a 0), .int p_0, .int p_1]) ++ List.replicate (3 - (lg_sl ([.ref (a 0), .int p_0, .int p_1])).length) Slot.unset).toArray = ls at hl ⊢
  have hl : lv_has ls 3 [(0, .ref (a 0)), (1, .int p_0), (2, .int p_1)] := hl
  refine lv_aload_n hx hb d_Md_craft_0 rfl (lv_at hl 0 rfl) ?_
  refine lv_iload_n hx hb d_Md_craft_1 rfl (lv_at hl 1 rfl) ?_
  refine vp_callSi (va_Run.run (va_runV (As := [.int p_0]) (rest := []) ⟨hx, hb, hml, hown, htb⟩ (c_Md_isBoat l dC dI a k p_0) (cwV 1 htb (gd_V tw_185 tw_186 tw_187 tw_138 tw_184) rfl rfl rfl (by decide +kernel) ⟨Nat.le_of_ble_eq_true rfl, Nat.le_of_ble_eq_true rfl⟩) ⟨pr_blind, va_recv hK hP (ci := 7) (q0 := 0) rfl rfl, pr_pre hP hK hN⟩ rfl rfl hl.1 rfl (lv_room (Nat.le_of_ble_eq_true rfl)) d_Md_craft_2 ⟨Nat.le_of_ble_eq_true rfl, Nat.le_of_ble_eq_true rfl⟩)) (fun r er => ?_)
  subst er
  by_cases c_1 : p_0 < 0
  · refine hb_ti 0 (by unfold f_Md_isBoat; rw [if_pos c_1]) ?_
    refine lv_if_ne (tgt := 10) hx hb d_Md_craft_5 (by decide) (fun h => absurd (by decide +kernel) h) (fun _ => ?_)
    refine lv_iconst (v := (-1)) hx hb d_Md_craft_8 (by decide +kernel) ?_
    exact W.iret (v := (-1)) hx hb hr (fun t ht hW => ⟨(-1), rfl, (by unfold f_Md_craft; rw [if_pos c_1]), ht⟩) t_nil d_Md_craft_9
  · refine hb_ti 0 (by unfold f_Md_isBoat; rw [if_neg c_1]) ?_
    refine lv_if_ne (tgt := 10) hx hb d_Md_craft_5 (by decide) (fun h => absurd (by decide +kernel) h) (fun _ => ?_)
    refine lv_iconst (v := (-1)) hx hb d_Md_craft_8 (by decide +kernel) ?_
    exact W.iret (v := (-1)) hx hb hr (fun t ht hW => ⟨(-1), rfl, (by unfold f_Md_craft; rw [if_neg c_1]), ht⟩) t_nil d_Md_craft_9
def f_Md_join (p_0 : Int32) (p_1 : Int32) : Int32 := if p_0 < 0 then ((-1)) else ((-1))
set_option maxHeartbeats 4000000 in
set_option maxRecDepth 100000 in
theorem c_Md_join (l : Launch) (dC : Nat → ClassId) (dI : Nat → Nat → Nat) (a : Nat → Nat) (k : Nat → ClassId)  (p_0 : Int32) (p_1 : Int32)  : Met l y_Md_join (.code y_Md_join b_Md_join 3 (some .int) :: TB) ({ frames := 2, cells := 0, slots := 0, locals := 43 }) (va_Pc [.ref (a 0), .int p_0, .int p_1] (PR dC dI (MW a k) (MT k))) (vp_Si (fun r => r = f_Md_join p_0 p_1)) 0 0 (fun _ => False) := by
  refine Met.ofW (cc := b_Md_join) (maxL := 3) (ret := (some .int)) (by decide) rfl ?_
  intro p e s m args below meth c s₁ B hml hv
  obtain ⟨rfl, hP, hK, hN⟩ := hv
  have hx := B.exec
  have hb := B.bytes
  have hr := B.returns
  have hts := atoms_spec (ws := (.code y_Md_join b_Md_join 3 (some .int) :: TB)) B.pre
  have htb := fun w (h : w ∈ TB) => hts w (List.mem_cons_of_mem _ h)
  have hown : s.vm.findClass R_Md = some m.cls := findClass_of_methodNamed B.named
  have hlocks := B.notSynchronized
  have hl := lv_entry ([.ref (a 0), .int p_0, .int p_1]) (n := 3) (Nat.le_of_ble_eq_true rfl)
  rw [lg_entry_eq]
  generalize (lg_sl ([.ref (a 0), .int p_0, .int p_1]) ++ List.replicate (3 - (lg_sl ([.ref (a 0), .int p_0, .int p_1])).length) Slot.unset).toArray = ls at hl ⊢
  have hl : lv_has ls 3 [(0, .ref (a 0)), (1, .int p_0), (2, .int p_1)] := hl
  refine lv_aload_n hx hb d_Md_join_0 rfl (lv_at hl 0 rfl) ?_
  refine lv_iload_n hx hb d_Md_join_1 rfl (lv_at hl 1 rfl) ?_
  refine vp_callSi (va_Run.run (va_runV (As := [.int p_0]) (rest := []) ⟨hx, hb, hml, hown, htb⟩ (c_Md_isStairs l dC dI a k p_0) (cwV 1 htb (gd_V tw_180 tw_181 tw_182 tw_138 tw_179) rfl rfl rfl (by decide +kernel) ⟨Nat.le_of_ble_eq_true rfl, Nat.le_of_ble_eq_true rfl⟩) ⟨pr_blind, va_recv hK hP (ci := 7) (q0 := 0) rfl rfl, pr_pre hP hK hN⟩ rfl rfl hl.1 rfl (lv_room (Nat.le_of_ble_eq_true rfl)) d_Md_join_2 ⟨Nat.le_of_ble_eq_true rfl, Nat.le_of_ble_eq_true rfl⟩)) (fun r er => ?_)
  subst er
  by_cases c_1 : p_0 < 0
  · refine hb_ti 0 (by unfold f_Md_isStairs; rw [if_pos c_1]) ?_
    refine lv_if_eq (tgt := 15) hx hb d_Md_join_5 (by decide) (fun _ => ?_) (fun h => absurd (by decide +kernel) h)
    refine lv_iconst (v := (-1)) hx hb d_Md_join_15 (by decide +kernel) ?_
    exact W.iret (v := (-1)) hx hb hr (fun t ht hW => ⟨(-1), rfl, (by unfold f_Md_join; rw [if_pos c_1]), ht⟩) t_nil d_Md_join_16
  · refine hb_ti 0 (by unfold f_Md_isStairs; rw [if_neg c_1]) ?_
    refine lv_if_eq (tgt := 15) hx hb d_Md_join_5 (by decide) (fun _ => ?_) (fun h => absurd (by decide +kernel) h)
    refine lv_iconst (v := (-1)) hx hb d_Md_join_15 (by decide +kernel) ?_
    exact W.iret (v := (-1)) hx hb hr (fun t ht hW => ⟨(-1), rfl, (by unfold f_Md_join; rw [if_neg c_1]), ht⟩) t_nil d_Md_join_16
def f_Md_leave (p_0 : Int32) : Int32 := if p_0 < 0 then ((-1)) else (if 39 < p_0 then ((-1)) else ((-2)))
set_option maxHeartbeats 4000000 in
set_option maxRecDepth 100000 in
theorem c_Md_leave (l : Launch) (dC : Nat → ClassId) (dI : Nat → Nat → Nat) (a : Nat → Nat) (k : Nat → ClassId)  (p_0 : Int32)  : Met l y_Md_leave (.code y_Md_leave b_Md_leave 2 (some .int) :: TB) ({ frames := 2, cells := 0, slots := 0, locals := 42 }) (va_Pc [.ref (a 0), .int p_0] (PR dC dI (MW a k) (MT k))) (vp_Si (fun r => r = f_Md_leave p_0)) 0 0 (fun _ => False) := by
  refine Met.ofW (cc := b_Md_leave) (maxL := 2) (ret := (some .int)) (by decide) rfl ?_
  intro p e s m args below meth c s₁ B hml hv
  obtain ⟨rfl, hP, hK, hN⟩ := hv
  have hx := B.exec
  have hb := B.bytes
  have hr := B.returns
  have hts := atoms_spec (ws := (.code y_Md_leave b_Md_leave 2 (some .int) :: TB)) B.pre
  have htb := fun w (h : w ∈ TB) => hts w (List.mem_cons_of_mem _ h)
  have hown : s.vm.findClass R_Md = some m.cls := findClass_of_methodNamed B.named
  have hlocks := B.notSynchronized
  have hl := lv_entry ([.ref (a 0), .int p_0]) (n := 2) (Nat.le_of_ble_eq_true rfl)
  rw [lg_entry_eq]
  generalize (lg_sl ([.ref (a 0), .int p_0]) ++ List.replicate (2 - (lg_sl ([.ref (a 0), .int p_0])).length) Slot.unset).toArray = ls at hl ⊢
  have hl : lv_has ls 2 [(0, .ref (a 0)), (1, .int p_0)] := hl
  refine lv_iload_n hx hb d_Md_leave_0 rfl (lv_at hl 1 rfl) ?_
  refine vp_callSi (va_Run.run (va_runS (As := [.int p_0]) (rest := []) ⟨hx, hb, hml, hown, htb⟩ (c_Md_isMan l p_0) (cwS 1 htb (gd_S tw_164 tw_165 tw_138 tw_163) rfl rfl rfl (by decide +kernel) ⟨Nat.le_of_ble_eq_true rfl, Nat.le_of_ble_eq_true rfl⟩) ⟨fun _ _ _ _ h => h, fun U _ _ => ⟨rfl, trivial⟩⟩ rfl rfl hl.1 rfl (lv_room (Nat.le_of_ble_eq_true rfl)) d_Md_leave_1 ⟨Nat.le_of_ble_eq_true rfl, Nat.le_of_ble_eq_true rfl⟩)) (fun r er => ?_)
  subst er
  by_cases c_1 : p_0 < 0
  · refine hb_ti 0 (by unfold f_Md_isMan; rw [if_pos c_1]) ?_
    refine lv_if_ne (tgt := 9) hx hb d_Md_leave_4 (by decide) (fun h => absurd (by decide +kernel) h) (fun _ => ?_)
    refine lv_iconst (v := (-1)) hx hb d_Md_leave_7 (by decide +kernel) ?_
    exact W.iret (v := (-1)) hx hb hr (fun t ht hW => ⟨(-1), rfl, (by unfold f_Md_leave; rw [if_pos c_1]), ht⟩) t_nil d_Md_leave_8
  · by_cases c_2 : 39 < p_0
    · refine hb_ti 0 (by unfold f_Md_isMan; rw [if_neg c_1, if_pos c_2]) ?_
      refine lv_if_ne (tgt := 9) hx hb d_Md_leave_4 (by decide) (fun h => absurd (by decide +kernel) h) (fun _ => ?_)
      refine lv_iconst (v := (-1)) hx hb d_Md_leave_7 (by decide +kernel) ?_
      exact W.iret (v := (-1)) hx hb hr (fun t ht hW => ⟨(-1), rfl, (by unfold f_Md_leave; rw [if_neg c_1, if_pos c_2]), ht⟩) t_nil d_Md_leave_8
    · refine hb_ti 1 (by unfold f_Md_isMan; rw [if_neg c_1, if_neg c_2]) ?_
      refine lv_if_ne (tgt := 9) hx hb d_Md_leave_4 (by decide) (fun _ => ?_) (fun h => absurd h (by decide +kernel))
      refine lv_aload_n hx hb d_Md_leave_9 rfl (lv_at hl 0 rfl) ?_
      refine lv_iload_n hx hb d_Md_leave_10 rfl (lv_at hl 1 rfl) ?_
      refine vp_callSi (va_Run.run (va_runV (As := [.int p_0]) (rest := []) ⟨hx, hb, hml, hown, htb⟩ (c_Md_rowOf l dC dI a k p_0) (cwV 1 htb (gd_V tw_169 tw_170 tw_171 tw_138 tw_168) rfl rfl rfl (by decide +kernel) ⟨Nat.le_of_ble_eq_true rfl, Nat.le_of_ble_eq_true rfl⟩) ⟨pr_blind, va_recv hK hP (ci := 7) (q0 := 0) rfl rfl, pr_pre hP hK hN⟩ rfl rfl hl.1 rfl (lv_room (Nat.le_of_ble_eq_true rfl)) d_Md_leave_11 ⟨Nat.le_of_ble_eq_true rfl, Nat.le_of_ble_eq_true rfl⟩)) (fun r er => ?_)
      subst er
      refine hb_ti (-1) rfl ?_
      refine lv_if_ge (tgt := 20) hx hb d_Md_leave_14 (by decide) (fun h => absurd h (by decide +kernel)) (fun _ => ?_)
      refine lv_bipush (v := (-2)) hx hb d_Md_leave_17 (by decide +kernel) ?_
      exact W.iret (v := (-2)) hx hb hr (fun t ht hW => ⟨(-2), rfl, (by unfold f_Md_leave; rw [if_neg c_1, if_neg c_2]), ht⟩) t_nil d_Md_leave_19
def f_Md_end (p_0 : Int32) : Int32 := if p_0 < 0 then ((-1)) else (if 0 < p_0 then ((-1)) else (p_0))
set_option maxHeartbeats 4000000 in
set_option maxRecDepth 100000 in
theorem c_Md_end (l : Launch) (dC : Nat → ClassId) (dI : Nat → Nat → Nat) (a : Nat → Nat) (k : Nat → ClassId) (sz : Nat) (p_0 : Int32)  : Met l y_Md_end (.code y_Md_end b_Md_end 2 (some .int) :: TB) ({ frames := 1, cells := 0, slots := 0, locals := 22 }) (va_Pc [.ref (a 0), .int p_0] (PC dC dI (MW a k) (MT k) sz)) (va_Qi (fun r (_ : Unit) => r = f_Md_end p_0) (fun (_ : Unit) (_ : State) => True) (va_A (MW a k) sz)) 0 0 (va_A (MW a k) sz) := by
  refine Met.ofW (cc := b_Md_end) (maxL := 2) (ret := (some .int)) (by decide) rfl ?_
  intro p e s m args below meth c s₁ B hml hv
  obtain ⟨rfl, hsz, hP, hK, hD0, hN⟩ := hv
  have hx := B.exec
  have hb := B.bytes
  have hr := B.returns
  have hts := atoms_spec (ws := (.code y_Md_end b_Md_end 2 (some .int) :: TB)) B.pre
  have htb := fun w (h : w ∈ TB) => hts w (List.mem_cons_of_mem _ h)
  have hown : s.vm.findClass R_Md = some m.cls := findClass_of_methodNamed B.named
  have hlocks := B.notSynchronized
  have hl := lv_entry ([.ref (a 0), .int p_0]) (n := 2) (Nat.le_of_ble_eq_true rfl)
  rw [lg_entry_eq]
  generalize (lg_sl ([.ref (a 0), .int p_0]) ++ List.replicate (2 - (lg_sl ([.ref (a 0), .int p_0])).length) Slot.unset).toArray = ls at hl ⊢
  have hl : lv_has ls 2 [(0, .ref (a 0)), (1, .int p_0)] := hl
  subst hsz
  have hD := hD0.self (sz := s.heap.size)
  obtain ⟨A, hAe⟩ : ∃ A, va_A (MW a k) s.heap.size = A := ⟨_, rfl⟩
  rw [hAe] at hD
  have hA : ∀ q : Nat, s.heap.size ≤ q → A q := fun q h => by rw [← hAe]; exact Or.inr h
  have hS : va_S A s.heap s.heap [] := va_S.rf
  have hP := hP
  refine lv_iload_n hx hb d_Md_end_0 rfl (lv_at hl 1 rfl) ?_
  refine lv_iconst (v := 0) hx hb d_Md_end_1 (by decide +kernel) ?_
  refine lv_aload_n hx hb d_Md_end_2 rfl (lv_at hl 0 rfl) ?_
  refine va_get (D := (dC, dI)) (ci := 7) (v := .int 0) (C := R_Md) (T := F_Md) (N := 64) hx hb htb i_Md hown hK hP 0 rfl rfl 28 (by decide) (htb (.fieldLink R_Md 212 "WaterMenModel" "taped" "I") tw_188) (fun _ h9 => h9) rfl d_Md_end_3 ?_
  refine vp_callSi (va_Run.run (va_runS (As := [.int p_0, .int 0, .int 0]) (rest := []) ⟨hx, hb, hml, hown, htb⟩ (c_Md_in l p_0 0 0) (cwS 3 htb (gd_S tw_139 tw_140 tw_138 tw_137) rfl rfl rfl (by decide +kernel) ⟨Nat.le_of_ble_eq_true rfl, Nat.le_of_ble_eq_true rfl⟩) ⟨fun _ _ _ _ h => h, fun U _ _ => ⟨rfl, trivial⟩⟩ rfl rfl hl.1 rfl (lv_room (Nat.le_of_ble_eq_true rfl)) d_Md_end_6 ⟨Nat.le_of_ble_eq_true rfl, Nat.le_of_ble_eq_true rfl⟩)) (fun r er => ?_)
  subst er
  by_cases c_1 : p_0 < 0
  · refine hb_ti 0 (by unfold f_Md_in; rw [if_pos c_1]) ?_
    refine lv_if_ne (tgt := 14) hx hb d_Md_end_9 (by decide) (fun h => absurd (by decide +kernel) h) (fun _ => ?_)
    refine lv_iconst (v := (-1)) hx hb d_Md_end_12 (by decide +kernel) ?_
    refine W.widen (k := 0) (n := 0) (Nat.le_of_ble_eq_true rfl) (Nat.le_of_ble_eq_true rfl) ?_
    exact W.iret (v := (-1)) hx hb hr (fun t ht hW => ⟨⟨(-1), (), rfl, (by unfold f_Md_end; rw [if_pos c_1]), trivial⟩, by rw [hAe]; exact hS.F ht⟩) (by rw [hAe]; exact hS.2.2) d_Md_end_13
  · by_cases c_2 : 0 < p_0
    · refine hb_ti 0 (by unfold f_Md_in; rw [if_neg c_1, if_pos c_2]) ?_
      refine lv_if_ne (tgt := 14) hx hb d_Md_end_9 (by decide) (fun h => absurd (by decide +kernel) h) (fun _ => ?_)
      refine lv_iconst (v := (-1)) hx hb d_Md_end_12 (by decide +kernel) ?_
      refine W.widen (k := 0) (n := 0) (Nat.le_of_ble_eq_true rfl) (Nat.le_of_ble_eq_true rfl) ?_
      exact W.iret (v := (-1)) hx hb hr (fun t ht hW => ⟨⟨(-1), (), rfl, (by unfold f_Md_end; rw [if_neg c_1, if_pos c_2]), trivial⟩, by rw [hAe]; exact hS.F ht⟩) (by rw [hAe]; exact hS.2.2) d_Md_end_13
    · refine hb_ti 1 (by unfold f_Md_in; rw [if_neg c_1, if_neg c_2]) ?_
      refine lv_if_ne (tgt := 14) hx hb d_Md_end_9 (by decide) (fun _ => ?_) (fun h => absurd h (by decide +kernel))
      refine lv_aload_n hx hb d_Md_end_14 rfl (lv_at hl 0 rfl) ?_
      refine lv_iload_n hx hb d_Md_end_15 rfl (lv_at hl 1 rfl) ?_
      refine va_put (D := (dC, dI)) (ci := 7) (v := .int p_0) (ty := .int) (C := R_Md) (T := F_Md) (N := 64) hx hb htb i_Md t_Md t_Md_ok n_Md hown hK hP hD hS 0 rfl rfl 28 (by decide) (htb (.fieldLink R_Md 212 "WaterMenModel" "taped" "I") tw_188) (fun _ h9 => h9) rfl (by decide +kernel) rfl rfl (Nat.le_of_ble_eq_true rfl) d_Md_end_16 (fun H locs hP hD hS => ?_)
      refine lv_iload_n hx hb d_Md_end_19 rfl (lv_at hl 1 rfl) ?_
      refine W.widen (k := 0) (n := 0) (Nat.le_of_ble_eq_true rfl) (Nat.le_of_ble_eq_true rfl) ?_
      exact W.iret (v := p_0) hx hb hr (fun t ht hW => ⟨⟨p_0, (), rfl, (by unfold f_Md_end; rw [if_neg c_1, if_neg c_2]), trivial⟩, by rw [hAe]; exact hS.F ht⟩) (by rw [hAe]; exact hS.2.2) d_Md_end_20
def f_Md_forceOn (p_0 : Int32) (p_1 : Int32) : Int32 := (-2)
set_option maxHeartbeats 4000000 in
set_option maxRecDepth 100000 in
theorem c_Md_forceOn (l : Launch) (dC : Nat → ClassId) (dI : Nat → Nat → Nat) (a : Nat → Nat) (k : Nat → ClassId)  (p_0 : Int32) (p_1 : Int32)  : Met l y_Md_forceOn (.code y_Md_forceOn b_Md_forceOn 4 (some .int) :: TB) ({ frames := 0, cells := 0, slots := 0, locals := 0 }) (va_Pc [.ref (a 0), .int p_0, .int p_1] (PR dC dI (MW a k) (MT k))) (vp_Si (fun r => r = f_Md_forceOn p_0 p_1)) 0 0 (fun _ => False) := by
  refine Met.ofW (cc := b_Md_forceOn) (maxL := 4) (ret := (some .int)) (by decide) rfl ?_
  intro p e s m args below meth c s₁ B hml hv
  obtain ⟨rfl, hP, hK, hN⟩ := hv
  have hx := B.exec
  have hb := B.bytes
  have hr := B.returns
  have hts := atoms_spec (ws := (.code y_Md_forceOn b_Md_forceOn 4 (some .int) :: TB)) B.pre
  have htb := fun w (h : w ∈ TB) => hts w (List.mem_cons_of_mem _ h)
  have hown : s.vm.findClass R_Md = some m.cls := findClass_of_methodNamed B.named
  have hlocks := B.notSynchronized
  have hl := lv_entry ([.ref (a 0), .int p_0, .int p_1]) (n := 4) (Nat.le_of_ble_eq_true rfl)
  rw [lg_entry_eq]
  generalize (lg_sl ([.ref (a 0), .int p_0, .int p_1]) ++ List.replicate (4 - (lg_sl ([.ref (a 0), .int p_0, .int p_1])).length) Slot.unset).toArray = ls at hl ⊢
  have hl : lv_has ls 4 [(0, .ref (a 0)), (1, .int p_0), (2, .int p_1)] := hl
  refine lv_aload_n hx hb d_Md_forceOn_0 rfl (lv_at hl 0 rfl) ?_
  refine va_get (D := (dC, dI)) (ci := 7) (v := .int 0) (C := R_Md) (T := F_Md) (N := 64) hx hb htb i_Md hown hK hP 0 rfl rfl 29 (by decide) (htb (.fieldLink R_Md 275 "WaterMenModel" "orders" "I") tw_189) (fun _ h9 => h9) rfl d_Md_forceOn_1 ?_
  refine lv_iconst (v := 1) hx hb d_Md_forceOn_4 (by decide +kernel) ?_
  refine lv_isub hx hb d_Md_forceOn_5 ?_
  refine hb_ti (-1) (by decide +kernel) ?_
  refine lv_istore_n (lv' := [(3, .int (-1)), (0, .ref (a 0)), (1, .int p_0), (2, .int p_1)]) hx hb d_Md_forceOn_6 rfl hl (by decide) rfl (fun ls hl => ?_)
  refine lv_iload_n hx hb d_Md_forceOn_7 rfl (lv_at hl 0 rfl) ?_
  refine lv_if_lt (tgt := 39) hx hb d_Md_forceOn_8 (by decide) (fun _ => ?_) (fun h => absurd (by decide +kernel) h)
  refine lv_bipush (v := (-2)) hx hb d_Md_forceOn_39 (by decide +kernel) ?_
  exact W.iret (v := (-2)) hx hb hr (fun t ht hW => ⟨(-2), rfl, rfl, ht⟩) t_nil d_Md_forceOn_41
def f_Md_inForce (p_0 : Int32) (p_1 : Int32) : Int32 := if p_0 < 0 then ((-1)) else (if 499 < p_0 then ((-1)) else (if p_1 < 0 then ((-1)) else (if 499 < p_1 then ((-1)) else ((-2)))))
set_option maxHeartbeats 4000000 in
set_option maxRecDepth 100000 in
theorem c_Md_inForce (l : Launch) (dC : Nat → ClassId) (dI : Nat → Nat → Nat) (a : Nat → Nat) (k : Nat → ClassId)  (p_0 : Int32) (p_1 : Int32)  : Met l y_Md_inForce (.code y_Md_inForce b_Md_inForce 3 (some .int) :: TB) ({ frames := 2, cells := 0, slots := 0, locals := 42 }) (va_Pc [.ref (a 0), .int p_0, .int p_1] (PR dC dI (MW a k) (MT k))) (vp_Si (fun r => r = f_Md_inForce p_0 p_1)) 0 0 (fun _ => False) := by
  refine Met.ofW (cc := b_Md_inForce) (maxL := 3) (ret := (some .int)) (by decide) rfl ?_
  intro p e s m args below meth c s₁ B hml hv
  obtain ⟨rfl, hP, hK, hN⟩ := hv
  have hx := B.exec
  have hb := B.bytes
  have hr := B.returns
  have hts := atoms_spec (ws := (.code y_Md_inForce b_Md_inForce 3 (some .int) :: TB)) B.pre
  have htb := fun w (h : w ∈ TB) => hts w (List.mem_cons_of_mem _ h)
  have hown : s.vm.findClass R_Md = some m.cls := findClass_of_methodNamed B.named
  have hlocks := B.notSynchronized
  have hl := lv_entry ([.ref (a 0), .int p_0, .int p_1]) (n := 3) (Nat.le_of_ble_eq_true rfl)
  rw [lg_entry_eq]
  generalize (lg_sl ([.ref (a 0), .int p_0, .int p_1]) ++ List.replicate (3 - (lg_sl ([.ref (a 0), .int p_0, .int p_1])).length) Slot.unset).toArray = ls at hl ⊢
  have hl : lv_has ls 3 [(0, .ref (a 0)), (1, .int p_0), (2, .int p_1)] := hl
  refine lv_iload_n hx hb d_Md_inForce_0 rfl (lv_at hl 1 rfl) ?_
  refine vp_callSi (va_Run.run (va_runS (As := [.int p_0]) (rest := []) ⟨hx, hb, hml, hown, htb⟩ (c_Md_isDay l p_0) (cwS 1 htb (gd_S tw_146 tw_147 tw_138 tw_145) rfl rfl rfl (by decide +kernel) ⟨Nat.le_of_ble_eq_true rfl, Nat.le_of_ble_eq_true rfl⟩) ⟨fun _ _ _ _ h => h, fun U _ _ => ⟨rfl, trivial⟩⟩ rfl rfl hl.1 rfl (lv_room (Nat.le_of_ble_eq_true rfl)) d_Md_inForce_1 ⟨Nat.le_of_ble_eq_true rfl, Nat.le_of_ble_eq_true rfl⟩)) (fun r er => ?_)
  subst er
  by_cases c_1 : p_0 < 0
  · refine hb_ti 0 (by unfold f_Md_isDay; rw [if_pos c_1]) ?_
    refine lv_if_eq (tgt := 23) hx hb d_Md_inForce_4 (by decide) (fun _ => ?_) (fun h => absurd (by decide +kernel) h)
    refine lv_iconst (v := (-1)) hx hb d_Md_inForce_23 (by decide +kernel) ?_
    exact W.iret (v := (-1)) hx hb hr (fun t ht hW => ⟨(-1), rfl, (by unfold f_Md_inForce; rw [if_pos c_1]), ht⟩) t_nil d_Md_inForce_24
  · by_cases c_2 : 499 < p_0
    · refine hb_ti 0 (by unfold f_Md_isDay; rw [if_neg c_1, if_pos c_2]) ?_
      refine lv_if_eq (tgt := 23) hx hb d_Md_inForce_4 (by decide) (fun _ => ?_) (fun h => absurd (by decide +kernel) h)
      refine lv_iconst (v := (-1)) hx hb d_Md_inForce_23 (by decide +kernel) ?_
      exact W.iret (v := (-1)) hx hb hr (fun t ht hW => ⟨(-1), rfl, (by unfold f_Md_inForce; rw [if_neg c_1, if_pos c_2]), ht⟩) t_nil d_Md_inForce_24
    · refine hb_ti 1 (by unfold f_Md_isDay; rw [if_neg c_1, if_neg c_2]) ?_
      refine lv_if_eq (tgt := 23) hx hb d_Md_inForce_4 (by decide) (fun h => absurd h (by decide +kernel)) (fun _ => ?_)
      refine lv_iload_n hx hb d_Md_inForce_7 rfl (lv_at hl 2 rfl) ?_
      refine vp_callSi (va_Run.run (va_runS (As := [.int p_1]) (rest := []) ⟨hx, hb, hml, hown, htb⟩ (c_Md_isDay l p_1) (cwS 1 htb (gd_S tw_146 tw_147 tw_138 tw_145) rfl rfl rfl (by decide +kernel) ⟨Nat.le_of_ble_eq_true rfl, Nat.le_of_ble_eq_true rfl⟩) ⟨fun _ _ _ _ h => h, fun U _ _ => ⟨rfl, trivial⟩⟩ rfl rfl hl.1 rfl (lv_room (Nat.le_of_ble_eq_true rfl)) d_Md_inForce_8 ⟨Nat.le_of_ble_eq_true rfl, Nat.le_of_ble_eq_true rfl⟩)) (fun r er => ?_)
      subst er
      by_cases c_3 : p_1 < 0
      · refine hb_ti 0 (by unfold f_Md_isDay; rw [if_pos c_3]) ?_
        refine lv_if_eq (tgt := 23) hx hb d_Md_inForce_11 (by decide) (fun _ => ?_) (fun h => absurd (by decide +kernel) h)
        refine lv_iconst (v := (-1)) hx hb d_Md_inForce_23 (by decide +kernel) ?_
        exact W.iret (v := (-1)) hx hb hr (fun t ht hW => ⟨(-1), rfl, (by unfold f_Md_inForce; rw [if_neg c_1, if_neg c_2, if_pos c_3]), ht⟩) t_nil d_Md_inForce_24
      · by_cases c_4 : 499 < p_1
        · refine hb_ti 0 (by unfold f_Md_isDay; rw [if_neg c_3, if_pos c_4]) ?_
          refine lv_if_eq (tgt := 23) hx hb d_Md_inForce_11 (by decide) (fun _ => ?_) (fun h => absurd (by decide +kernel) h)
          refine lv_iconst (v := (-1)) hx hb d_Md_inForce_23 (by decide +kernel) ?_
          exact W.iret (v := (-1)) hx hb hr (fun t ht hW => ⟨(-1), rfl, (by unfold f_Md_inForce; rw [if_neg c_1, if_neg c_2, if_neg c_3, if_pos c_4]), ht⟩) t_nil d_Md_inForce_24
        · refine hb_ti 1 (by unfold f_Md_isDay; rw [if_neg c_3, if_neg c_4]) ?_
          refine lv_if_eq (tgt := 23) hx hb d_Md_inForce_11 (by decide) (fun h => absurd h (by decide +kernel)) (fun _ => ?_)
          refine lv_aload_n hx hb d_Md_inForce_14 rfl (lv_at hl 0 rfl) ?_
          refine lv_iload_n hx hb d_Md_inForce_15 rfl (lv_at hl 1 rfl) ?_
          refine lv_iload_n hx hb d_Md_inForce_16 rfl (lv_at hl 2 rfl) ?_
          refine vp_callSi (va_Run.run (va_runV (As := [.int p_0, .int p_1]) (rest := []) ⟨hx, hb, hml, hown, htb⟩ (c_Md_forceOn l dC dI a k p_0 p_1) (cwV 2 htb (gd_V tw_191 tw_192 tw_193 tw_138 tw_190) rfl rfl rfl (by decide +kernel) ⟨Nat.le_of_ble_eq_true rfl, Nat.le_of_ble_eq_true rfl⟩) ⟨pr_blind, va_recv hK hP (ci := 7) (q0 := 0) rfl rfl, pr_pre hP hK hN⟩ rfl rfl hl.1 rfl (lv_room (Nat.le_of_ble_eq_true rfl)) d_Md_inForce_17 ⟨Nat.le_of_ble_eq_true rfl, Nat.le_of_ble_eq_true rfl⟩)) (fun r er => ?_)
          subst er
          refine hb_ti (-2) rfl ?_
          refine lv_goto (tgt := 24) hx hb d_Md_inForce_20 (by decide) ?_
          exact W.iret (v := (-2)) hx hb hr (fun t ht hW => ⟨(-2), rfl, (by unfold f_Md_inForce; rw [if_neg c_1, if_neg c_2, if_neg c_3, if_neg c_4]), ht⟩) t_nil d_Md_inForce_24
def f_Md_fare (p_0 : Int32) (p_1 : Int32) (p_2 : Int32) (p_3 : Int32) (p_4 : Int32) : Int32 := if p_0 < 0 then ((-1)) else ((-1))
set_option maxHeartbeats 4000000 in
set_option maxRecDepth 100000 in
theorem c_Md_fare (l : Launch) (dC : Nat → ClassId) (dI : Nat → Nat → Nat) (a : Nat → Nat) (k : Nat → ClassId)  (p_0 : Int32) (p_1 : Int32) (p_2 : Int32) (p_3 : Int32) (p_4 : Int32)  : Met l y_Md_fare (.code y_Md_fare b_Md_fare 6 (some .int) :: TB) ({ frames := 1, cells := 0, slots := 0, locals := 22 }) (va_Pc [.ref (a 0), .int p_0, .int p_1, .int p_2, .int p_3, .int p_4] (PR dC dI (MW a k) (MT k))) (vp_Si (fun r => r = f_Md_fare p_0 p_1 p_2 p_3 p_4)) 0 0 (fun _ => False) := by
  refine Met.ofW (cc := b_Md_fare) (maxL := 6) (ret := (some .int)) (by decide) rfl ?_
  intro p e s m args below meth c s₁ B hml hv
  obtain ⟨rfl, hP, hK, hN⟩ := hv
  have hx := B.exec
  have hb := B.bytes
  have hr := B.returns
  have hts := atoms_spec (ws := (.code y_Md_fare b_Md_fare 6 (some .int) :: TB)) B.pre
  have htb := fun w (h : w ∈ TB) => hts w (List.mem_cons_of_mem _ h)
  have hown : s.vm.findClass R_Md = some m.cls := findClass_of_methodNamed B.named
  have hlocks := B.notSynchronized
  have hl := lv_entry ([.ref (a 0), .int p_0, .int p_1, .int p_2, .int p_3, .int p_4]) (n := 6) (Nat.le_of_ble_eq_true rfl)
  rw [lg_entry_eq]
  generalize (lg_sl ([.ref (a 0), .int p_0, .int p_1, .int p_2, .int p_3, .int p_4]) ++ List.replicate (6 - (lg_sl ([.ref (a 0), .int p_0, .int p_1, .int p_2, .int p_3, .int p_4])).length) Slot.unset).toArray = ls at hl ⊢
  have hl : lv_has ls 6 [(0, .ref (a 0)), (1, .int p_0), (2, .int p_1), (3, .int p_2), (4, .int p_3), (5, .int p_4)] := hl
  refine lv_iload_n hx hb d_Md_fare_0 rfl (lv_at hl 1 rfl) ?_
  refine lv_iconst (v := 0) hx hb d_Md_fare_1 (by decide +kernel) ?_
  refine lv_aload_n hx hb d_Md_fare_2 rfl (lv_at hl 0 rfl) ?_
  refine va_get (D := (dC, dI)) (ci := 7) (v := .int 0) (C := R_Md) (T := F_Md) (N := 64) hx hb htb i_Md hown hK hP 0 rfl rfl 29 (by decide) (htb (.fieldLink R_Md 275 "WaterMenModel" "orders" "I") tw_189) (fun _ h9 => h9) rfl d_Md_fare_3 ?_
  refine lv_iconst (v := 1) hx hb d_Md_fare_6 (by decide +kernel) ?_
  refine lv_isub hx hb d_Md_fare_7 ?_
  refine hb_ti (-1) (by decide +kernel) ?_
  refine vp_callSi (va_Run.run (va_runS (As := [.int p_0, .int 0, .int (-1)]) (rest := []) ⟨hx, hb, hml, hown, htb⟩ (c_Md_in l p_0 0 (-1)) (cwS 3 htb (gd_S tw_139 tw_140 tw_138 tw_137) rfl rfl rfl (by decide +kernel) ⟨Nat.le_of_ble_eq_true rfl, Nat.le_of_ble_eq_true rfl⟩) ⟨fun _ _ _ _ h => h, fun U _ _ => ⟨rfl, trivial⟩⟩ rfl rfl hl.1 rfl (lv_room (Nat.le_of_ble_eq_true rfl)) d_Md_fare_8 ⟨Nat.le_of_ble_eq_true rfl, Nat.le_of_ble_eq_true rfl⟩)) (fun r er => ?_)
  subst er
  by_cases c_1 : p_0 < 0
  · refine hb_ti 0 (by unfold f_Md_in; rw [if_pos c_1]) ?_
    refine lv_if_eq (tgt := 57) hx hb d_Md_fare_11 (by decide) (fun _ => ?_) (fun h => absurd (by decide +kernel) h)
    refine lv_iconst (v := (-1)) hx hb d_Md_fare_57 (by decide +kernel) ?_
    exact W.iret (v := (-1)) hx hb hr (fun t ht hW => ⟨(-1), rfl, (by unfold f_Md_fare; rw [if_pos c_1]), ht⟩) t_nil d_Md_fare_58
  · refine hb_ti 0 (by unfold f_Md_in; rw [if_neg c_1, if_pos (show (-1) < p_0 from by have e0 := c_1; rw [Int32.lt_iff_toInt_lt] at e0; have z0 : ((-1) : Int32).toInt = -1 := (by decide +kernel); have z1 : (0 : Int32).toInt = 0 := (by decide +kernel); rw [Int32.lt_iff_toInt_lt]; omega)]) ?_
    refine lv_if_eq (tgt := 57) hx hb d_Md_fare_11 (by decide) (fun _ => ?_) (fun h => absurd (by decide +kernel) h)
    refine lv_iconst (v := (-1)) hx hb d_Md_fare_57 (by decide +kernel) ?_
    exact W.iret (v := (-1)) hx hb hr (fun t ht hW => ⟨(-1), rfl, (by unfold f_Md_fare; rw [if_neg c_1]), ht⟩) t_nil d_Md_fare_58
def f_Md_isAsked (p_0 : Int32) (p_1 : Int32) (p_2 : Int32) : Int32 := if p_0 < 0 then (0) else (0)
set_option maxHeartbeats 4000000 in
set_option maxRecDepth 100000 in
theorem c_Md_isAsked (l : Launch) (dC : Nat → ClassId) (dI : Nat → Nat → Nat) (a : Nat → Nat) (k : Nat → ClassId)  (p_0 : Int32) (p_1 : Int32) (p_2 : Int32)  : Met l y_Md_isAsked (.code y_Md_isAsked b_Md_isAsked 4 (some .boolean) :: TB) ({ frames := 2, cells := 0, slots := 0, locals := 43 }) (va_Pc [.ref (a 0), .int p_0, .int p_1, .int p_2] (PR dC dI (MW a k) (MT k))) (vp_Si (fun r => r = f_Md_isAsked p_0 p_1 p_2)) 0 0 (fun _ => False) := by
  refine Met.ofW (cc := b_Md_isAsked) (maxL := 4) (ret := (some .boolean)) (by decide) rfl ?_
  intro p e s m args below meth c s₁ B hml hv
  obtain ⟨rfl, hP, hK, hN⟩ := hv
  have hx := B.exec
  have hb := B.bytes
  have hr := B.returns
  have hts := atoms_spec (ws := (.code y_Md_isAsked b_Md_isAsked 4 (some .boolean) :: TB)) B.pre
  have htb := fun w (h : w ∈ TB) => hts w (List.mem_cons_of_mem _ h)
  have hown : s.vm.findClass R_Md = some m.cls := findClass_of_methodNamed B.named
  have hlocks := B.notSynchronized
  have hl := lv_entry ([.ref (a 0), .int p_0, .int p_1, .int p_2]) (n := 4) (Nat.le_of_ble_eq_true rfl)
  rw [lg_entry_eq]
  generalize (lg_sl ([.ref (a 0), .int p_0, .int p_1, .int p_2]) ++ List.replicate (4 - (lg_sl ([.ref (a 0), .int p_0, .int p_1, .int p_2])).length) Slot.unset).toArray = ls at hl ⊢
  have hl : lv_has ls 4 [(0, .ref (a 0)), (1, .int p_0), (2, .int p_1), (3, .int p_2)] := hl
  refine lv_aload_n hx hb d_Md_isAsked_0 rfl (lv_at hl 0 rfl) ?_
  refine lv_iload_n hx hb d_Md_isAsked_1 rfl (lv_at hl 1 rfl) ?_
  refine vp_callSi (va_Run.run (va_runV (As := [.int p_0]) (rest := []) ⟨hx, hb, hml, hown, htb⟩ (c_Md_isBoat l dC dI a k p_0) (cwV 1 htb (gd_V tw_185 tw_186 tw_187 tw_138 tw_184) rfl rfl rfl (by decide +kernel) ⟨Nat.le_of_ble_eq_true rfl, Nat.le_of_ble_eq_true rfl⟩) ⟨pr_blind, va_recv hK hP (ci := 7) (q0 := 0) rfl rfl, pr_pre hP hK hN⟩ rfl rfl hl.1 rfl (lv_room (Nat.le_of_ble_eq_true rfl)) d_Md_isAsked_2 ⟨Nat.le_of_ble_eq_true rfl, Nat.le_of_ble_eq_true rfl⟩)) (fun r er => ?_)
  subst er
  by_cases c_1 : p_0 < 0
  · refine hb_ti 0 (by unfold f_Md_isBoat; rw [if_pos c_1]) ?_
    refine lv_if_eq (tgt := 46) hx hb d_Md_isAsked_5 (by decide) (fun _ => ?_) (fun h => absurd (by decide +kernel) h)
    refine lv_iconst (v := 0) hx hb d_Md_isAsked_46 (by decide +kernel) ?_
    exact W.zret (v := 0) hx hb hr (by decide +kernel) (fun t ht hW => ⟨0, rfl, (by unfold f_Md_isAsked; rw [if_pos c_1]), ht⟩) t_nil d_Md_isAsked_47
  · refine hb_ti 0 (by unfold f_Md_isBoat; rw [if_neg c_1]) ?_
    refine lv_if_eq (tgt := 46) hx hb d_Md_isAsked_5 (by decide) (fun _ => ?_) (fun h => absurd (by decide +kernel) h)
    refine lv_iconst (v := 0) hx hb d_Md_isAsked_46 (by decide +kernel) ?_
    exact W.zret (v := 0) hx hb hr (by decide +kernel) (fun t ht hW => ⟨0, rfl, (by unfold f_Md_isAsked; rw [if_neg c_1]), ht⟩) t_nil d_Md_isAsked_47
def f_Md_why (p_0 : Int32) (p_1 : Int32) (p_2 : Int32) : Int32 := if p_0 < 0 then ((-1)) else ((-1))
set_option maxHeartbeats 4000000 in
set_option maxRecDepth 100000 in
theorem c_Md_why (l : Launch) (dC : Nat → ClassId) (dI : Nat → Nat → Nat) (a : Nat → Nat) (k : Nat → ClassId)  (p_0 : Int32) (p_1 : Int32) (p_2 : Int32)  : Met l y_Md_why (.code y_Md_why b_Md_why 4 (some .int) :: TB) ({ frames := 3, cells := 0, slots := 0, locals := 66 }) (va_Pc [.ref (a 0), .int p_0, .int p_1, .int p_2] (PR dC dI (MW a k) (MT k))) (vp_Si (fun r => r = f_Md_why p_0 p_1 p_2)) 0 0 (fun _ => False) := by
  refine Met.ofW (cc := b_Md_why) (maxL := 4) (ret := (some .int)) (by decide) rfl ?_
  intro p e s m args below meth c s₁ B hml hv
  obtain ⟨rfl, hP, hK, hN⟩ := hv
  have hx := B.exec
  have hb := B.bytes
  have hr := B.returns
  have hts := atoms_spec (ws := (.code y_Md_why b_Md_why 4 (some .int) :: TB)) B.pre
  have htb := fun w (h : w ∈ TB) => hts w (List.mem_cons_of_mem _ h)
  have hown : s.vm.findClass R_Md = some m.cls := findClass_of_methodNamed B.named
  have hlocks := B.notSynchronized
  have hl := lv_entry ([.ref (a 0), .int p_0, .int p_1, .int p_2]) (n := 4) (Nat.le_of_ble_eq_true rfl)
  rw [lg_entry_eq]
  generalize (lg_sl ([.ref (a 0), .int p_0, .int p_1, .int p_2]) ++ List.replicate (4 - (lg_sl ([.ref (a 0), .int p_0, .int p_1, .int p_2])).length) Slot.unset).toArray = ls at hl ⊢
  have hl : lv_has ls 4 [(0, .ref (a 0)), (1, .int p_0), (2, .int p_1), (3, .int p_2)] := hl
  refine lv_aload_n hx hb d_Md_why_0 rfl (lv_at hl 0 rfl) ?_
  refine lv_iload_n hx hb d_Md_why_1 rfl (lv_at hl 1 rfl) ?_
  refine lv_iload_n hx hb d_Md_why_2 rfl (lv_at hl 2 rfl) ?_
  refine lv_iload_n hx hb d_Md_why_3 rfl (lv_at hl 3 rfl) ?_
  refine vp_callSi (va_Run.run (va_runV (As := [.int p_0, .int p_1, .int p_2]) (rest := []) ⟨hx, hb, hml, hown, htb⟩ (c_Md_isAsked l dC dI a k p_0 p_1 p_2) (cwV 3 htb (gd_V tw_195 tw_196 tw_197 tw_138 tw_194) rfl rfl rfl (by decide +kernel) ⟨Nat.le_of_ble_eq_true rfl, Nat.le_of_ble_eq_true rfl⟩) ⟨pr_blind, va_recv hK hP (ci := 7) (q0 := 0) rfl rfl, pr_pre hP hK hN⟩ rfl rfl hl.1 rfl (lv_room (Nat.le_of_ble_eq_true rfl)) d_Md_why_4 ⟨Nat.le_of_ble_eq_true rfl, Nat.le_of_ble_eq_true rfl⟩)) (fun r er => ?_)
  subst er
  by_cases c_1 : p_0 < 0
  · refine hb_ti 0 (by unfold f_Md_isAsked; rw [if_pos c_1]) ?_
    refine lv_if_eq (tgt := 20) hx hb d_Md_why_7 (by decide) (fun _ => ?_) (fun h => absurd (by decide +kernel) h)
    refine lv_iconst (v := (-1)) hx hb d_Md_why_20 (by decide +kernel) ?_
    exact W.iret (v := (-1)) hx hb hr (fun t ht hW => ⟨(-1), rfl, (by unfold f_Md_why; rw [if_pos c_1]), ht⟩) t_nil d_Md_why_21
  · refine hb_ti 0 (by unfold f_Md_isAsked; rw [if_neg c_1]) ?_
    refine lv_if_eq (tgt := 20) hx hb d_Md_why_7 (by decide) (fun _ => ?_) (fun h => absurd (by decide +kernel) h)
    refine lv_iconst (v := (-1)) hx hb d_Md_why_20 (by decide +kernel) ?_
    exact W.iret (v := (-1)) hx hb hr (fun t ht hW => ⟨(-1), rfl, (by unfold f_Md_why; rw [if_neg c_1]), ht⟩) t_nil d_Md_why_21
def f_Md_row (p_0 : Int32) (p_1 : Int32) (p_2 : Int32) (p_3 : Int32) : Int32 := if p_0 < 0 then ((-1)) else ((-1))
set_option maxHeartbeats 4000000 in
set_option maxRecDepth 100000 in
theorem c_Md_row (l : Launch) (dC : Nat → ClassId) (dI : Nat → Nat → Nat) (a : Nat → Nat) (k : Nat → ClassId)  (p_0 : Int32) (p_1 : Int32) (p_2 : Int32) (p_3 : Int32)  : Met l y_Md_row (.code y_Md_row b_Md_row 7 (some .int) :: TB) ({ frames := 3, cells := 0, slots := 0, locals := 66 }) (va_Pc [.ref (a 0), .int p_0, .int p_1, .int p_2, .int p_3] (PR dC dI (MW a k) (MT k))) (vp_Si (fun r => r = f_Md_row p_0 p_1 p_2 p_3)) 0 0 (fun _ => False) := by
  refine Met.ofW (cc := b_Md_row) (maxL := 7) (ret := (some .int)) (by decide) rfl ?_
  intro p e s m args below meth c s₁ B hml hv
  obtain ⟨rfl, hP, hK, hN⟩ := hv
  have hx := B.exec
  have hb := B.bytes
  have hr := B.returns
  have hts := atoms_spec (ws := (.code y_Md_row b_Md_row 7 (some .int) :: TB)) B.pre
  have htb := fun w (h : w ∈ TB) => hts w (List.mem_cons_of_mem _ h)
  have hown : s.vm.findClass R_Md = some m.cls := findClass_of_methodNamed B.named
  have hlocks := B.notSynchronized
  have hl := lv_entry ([.ref (a 0), .int p_0, .int p_1, .int p_2, .int p_3]) (n := 7) (Nat.le_of_ble_eq_true rfl)
  rw [lg_entry_eq]
  generalize (lg_sl ([.ref (a 0), .int p_0, .int p_1, .int p_2, .int p_3]) ++ List.replicate (7 - (lg_sl ([.ref (a 0), .int p_0, .int p_1, .int p_2, .int p_3])).length) Slot.unset).toArray = ls at hl ⊢
  have hl : lv_has ls 7 [(0, .ref (a 0)), (1, .int p_0), (2, .int p_1), (3, .int p_2), (4, .int p_3)] := hl
  refine lv_aload_n hx hb d_Md_row_0 rfl (lv_at hl 0 rfl) ?_
  refine lv_iload_n hx hb d_Md_row_1 rfl (lv_at hl 1 rfl) ?_
  refine lv_iload_n hx hb d_Md_row_2 rfl (lv_at hl 2 rfl) ?_
  refine lv_iload_n hx hb d_Md_row_3 rfl (lv_at hl 3 rfl) ?_
  refine vp_callSi (va_Run.run (va_runV (As := [.int p_0, .int p_1, .int p_2]) (rest := []) ⟨hx, hb, hml, hown, htb⟩ (c_Md_isAsked l dC dI a k p_0 p_1 p_2) (cwV 3 htb (gd_V tw_195 tw_196 tw_197 tw_138 tw_194) rfl rfl rfl (by decide +kernel) ⟨Nat.le_of_ble_eq_true rfl, Nat.le_of_ble_eq_true rfl⟩) ⟨pr_blind, va_recv hK hP (ci := 7) (q0 := 0) rfl rfl, pr_pre hP hK hN⟩ rfl rfl hl.1 rfl (lv_room (Nat.le_of_ble_eq_true rfl)) d_Md_row_4 ⟨Nat.le_of_ble_eq_true rfl, Nat.le_of_ble_eq_true rfl⟩)) (fun r er => ?_)
  subst er
  by_cases c_1 : p_0 < 0
  · refine hb_ti 0 (by unfold f_Md_isAsked; rw [if_pos c_1]) ?_
    refine lv_if_eq (tgt := 22) hx hb d_Md_row_7 (by decide) (fun _ => ?_) (fun h => absurd (by decide +kernel) h)
    refine lv_iconst (v := (-1)) hx hb d_Md_row_22 (by decide +kernel) ?_
    exact W.iret (v := (-1)) hx hb hr (fun t ht hW => ⟨(-1), rfl, (by unfold f_Md_row; rw [if_pos c_1]), ht⟩) t_nil d_Md_row_23
  · refine hb_ti 0 (by unfold f_Md_isAsked; rw [if_neg c_1]) ?_
    refine lv_if_eq (tgt := 22) hx hb d_Md_row_7 (by decide) (fun _ => ?_) (fun h => absurd (by decide +kernel) h)
    refine lv_iconst (v := (-1)) hx hb d_Md_row_22 (by decide +kernel) ?_
    exact W.iret (v := (-1)) hx hb hr (fun t ht hW => ⟨(-1), rfl, (by unfold f_Md_row; rw [if_neg c_1]), ht⟩) t_nil d_Md_row_23
def f_Md_sink (p_0 : Int32) (p_1 : Int32) (p_2 : Int32) : Int32 := if p_0 < 0 then ((-1)) else ((-1))
set_option maxHeartbeats 4000000 in
set_option maxRecDepth 100000 in
theorem c_Md_sink (l : Launch) (dC : Nat → ClassId) (dI : Nat → Nat → Nat) (a : Nat → Nat) (k : Nat → ClassId)  (p_0 : Int32) (p_1 : Int32) (p_2 : Int32)  : Met l y_Md_sink (.code y_Md_sink b_Md_sink 5 (some .int) :: TB) ({ frames := 2, cells := 0, slots := 0, locals := 43 }) (va_Pc [.ref (a 0), .int p_0, .int p_1, .int p_2] (PR dC dI (MW a k) (MT k))) (vp_Si (fun r => r = f_Md_sink p_0 p_1 p_2)) 0 0 (fun _ => False) := by
  refine Met.ofW (cc := b_Md_sink) (maxL := 5) (ret := (some .int)) (by decide) rfl ?_
  intro p e s m args below meth c s₁ B hml hv
  obtain ⟨rfl, hP, hK, hN⟩ := hv
  have hx := B.exec
  have hb := B.bytes
  have hr := B.returns
  have hts := atoms_spec (ws := (.code y_Md_sink b_Md_sink 5 (some .int) :: TB)) B.pre
  have htb := fun w (h : w ∈ TB) => hts w (List.mem_cons_of_mem _ h)
  have hown : s.vm.findClass R_Md = some m.cls := findClass_of_methodNamed B.named
  have hlocks := B.notSynchronized
  have hl := lv_entry ([.ref (a 0), .int p_0, .int p_1, .int p_2]) (n := 5) (Nat.le_of_ble_eq_true rfl)
  rw [lg_entry_eq]
  generalize (lg_sl ([.ref (a 0), .int p_0, .int p_1, .int p_2]) ++ List.replicate (5 - (lg_sl ([.ref (a 0), .int p_0, .int p_1, .int p_2])).length) Slot.unset).toArray = ls at hl ⊢
  have hl : lv_has ls 5 [(0, .ref (a 0)), (1, .int p_0), (2, .int p_1), (3, .int p_2)] := hl
  refine lv_aload_n hx hb d_Md_sink_0 rfl (lv_at hl 0 rfl) ?_
  refine lv_iload_n hx hb d_Md_sink_1 rfl (lv_at hl 1 rfl) ?_
  refine vp_callSi (va_Run.run (va_runV (As := [.int p_0]) (rest := []) ⟨hx, hb, hml, hown, htb⟩ (c_Md_isBoat l dC dI a k p_0) (cwV 1 htb (gd_V tw_185 tw_186 tw_187 tw_138 tw_184) rfl rfl rfl (by decide +kernel) ⟨Nat.le_of_ble_eq_true rfl, Nat.le_of_ble_eq_true rfl⟩) ⟨pr_blind, va_recv hK hP (ci := 7) (q0 := 0) rfl rfl, pr_pre hP hK hN⟩ rfl rfl hl.1 rfl (lv_room (Nat.le_of_ble_eq_true rfl)) d_Md_sink_2 ⟨Nat.le_of_ble_eq_true rfl, Nat.le_of_ble_eq_true rfl⟩)) (fun r er => ?_)
  subst er
  by_cases c_1 : p_0 < 0
  · refine hb_ti 0 (by unfold f_Md_isBoat; rw [if_pos c_1]) ?_
    refine lv_if_eq (tgt := 16) hx hb d_Md_sink_5 (by decide) (fun _ => ?_) (fun h => absurd (by decide +kernel) h)
    refine lv_iconst (v := (-1)) hx hb d_Md_sink_16 (by decide +kernel) ?_
    exact W.iret (v := (-1)) hx hb hr (fun t ht hW => ⟨(-1), rfl, (by unfold f_Md_sink; rw [if_pos c_1]), ht⟩) t_nil d_Md_sink_17
  · refine hb_ti 0 (by unfold f_Md_isBoat; rw [if_neg c_1]) ?_
    refine lv_if_eq (tgt := 16) hx hb d_Md_sink_5 (by decide) (fun _ => ?_) (fun h => absurd (by decide +kernel) h)
    refine lv_iconst (v := (-1)) hx hb d_Md_sink_16 (by decide +kernel) ?_
    exact W.iret (v := (-1)) hx hb hr (fun t ht hW => ⟨(-1), rfl, (by unfold f_Md_sink; rw [if_neg c_1]), ht⟩) t_nil d_Md_sink_17
def f_Md_trip (p_0 : Int32) (p_1 : Int32) : Int32 := if p_0 < 0 then ((-2)) else ((-2))
set_option maxHeartbeats 4000000 in
set_option maxRecDepth 100000 in
theorem c_Md_trip (l : Launch) (dC : Nat → ClassId) (dI : Nat → Nat → Nat) (a : Nat → Nat) (k : Nat → ClassId)  (p_0 : Int32) (p_1 : Int32)  : Met l y_Md_trip (.code y_Md_trip b_Md_trip 3 (some .int) :: TB) ({ frames := 1, cells := 0, slots := 0, locals := 22 }) (va_Pc [.ref (a 0), .int p_0, .int p_1] (PR dC dI (MW a k) (MT k))) (vp_Si (fun r => r = f_Md_trip p_0 p_1)) 0 0 (fun _ => False) := by
  refine Met.ofW (cc := b_Md_trip) (maxL := 3) (ret := (some .int)) (by decide) rfl ?_
  intro p e s m args below meth c s₁ B hml hv
  obtain ⟨rfl, hP, hK, hN⟩ := hv
  have hx := B.exec
  have hb := B.bytes
  have hr := B.returns
  have hts := atoms_spec (ws := (.code y_Md_trip b_Md_trip 3 (some .int) :: TB)) B.pre
  have htb := fun w (h : w ∈ TB) => hts w (List.mem_cons_of_mem _ h)
  have hown : s.vm.findClass R_Md = some m.cls := findClass_of_methodNamed B.named
  have hlocks := B.notSynchronized
  have hl := lv_entry ([.ref (a 0), .int p_0, .int p_1]) (n := 3) (Nat.le_of_ble_eq_true rfl)
  rw [lg_entry_eq]
  generalize (lg_sl ([.ref (a 0), .int p_0, .int p_1]) ++ List.replicate (3 - (lg_sl ([.ref (a 0), .int p_0, .int p_1])).length) Slot.unset).toArray = ls at hl ⊢
  have hl : lv_has ls 3 [(0, .ref (a 0)), (1, .int p_0), (2, .int p_1)] := hl
  refine lv_iload_n hx hb d_Md_trip_0 rfl (lv_at hl 1 rfl) ?_
  refine lv_iconst (v := 0) hx hb d_Md_trip_1 (by decide +kernel) ?_
  refine lv_aload_n hx hb d_Md_trip_2 rfl (lv_at hl 0 rfl) ?_
  refine va_get (D := (dC, dI)) (ci := 7) (v := .int 0) (C := R_Md) (T := F_Md) (N := 64) hx hb htb i_Md hown hK hP 0 rfl rfl 47 (by decide) (htb (.fieldLink R_Md 313 "WaterMenModel" "trips" "I") tw_198) (fun _ h9 => h9) rfl d_Md_trip_3 ?_
  refine lv_iconst (v := 1) hx hb d_Md_trip_6 (by decide +kernel) ?_
  refine lv_isub hx hb d_Md_trip_7 ?_
  refine hb_ti (-1) (by decide +kernel) ?_
  refine vp_callSi (va_Run.run (va_runS (As := [.int p_0, .int 0, .int (-1)]) (rest := []) ⟨hx, hb, hml, hown, htb⟩ (c_Md_in l p_0 0 (-1)) (cwS 3 htb (gd_S tw_139 tw_140 tw_138 tw_137) rfl rfl rfl (by decide +kernel) ⟨Nat.le_of_ble_eq_true rfl, Nat.le_of_ble_eq_true rfl⟩) ⟨fun _ _ _ _ h => h, fun U _ _ => ⟨rfl, trivial⟩⟩ rfl rfl hl.1 rfl (lv_room (Nat.le_of_ble_eq_true rfl)) d_Md_trip_8 ⟨Nat.le_of_ble_eq_true rfl, Nat.le_of_ble_eq_true rfl⟩)) (fun r er => ?_)
  subst er
  by_cases c_1 : p_0 < 0
  · refine hb_ti 0 (by unfold f_Md_in; rw [if_pos c_1]) ?_
    refine lv_if_ne (tgt := 17) hx hb d_Md_trip_11 (by decide) (fun h => absurd (by decide +kernel) h) (fun _ => ?_)
    refine lv_bipush (v := (-2)) hx hb d_Md_trip_14 (by decide +kernel) ?_
    exact W.iret (v := (-2)) hx hb hr (fun t ht hW => ⟨(-2), rfl, (by unfold f_Md_trip; rw [if_pos c_1]), ht⟩) t_nil d_Md_trip_16
  · refine hb_ti 0 (by unfold f_Md_in; rw [if_neg c_1, if_pos (show (-1) < p_0 from by have e0 := c_1; rw [Int32.lt_iff_toInt_lt] at e0; have z0 : ((-1) : Int32).toInt = -1 := (by decide +kernel); have z1 : (0 : Int32).toInt = 0 := (by decide +kernel); rw [Int32.lt_iff_toInt_lt]; omega)]) ?_
    refine lv_if_ne (tgt := 17) hx hb d_Md_trip_11 (by decide) (fun h => absurd (by decide +kernel) h) (fun _ => ?_)
    refine lv_bipush (v := (-2)) hx hb d_Md_trip_14 (by decide +kernel) ?_
    exact W.iret (v := (-2)) hx hb hr (fun t ht hW => ⟨(-2), rfl, (by unfold f_Md_trip; rw [if_neg c_1]), ht⟩) t_nil d_Md_trip_16
def f_Md_due (p_0 : Int32) (p_1 : Int32) : Int32 := if p_0 < 0 then ((-2)) else ((-2))
set_option maxHeartbeats 4000000 in
set_option maxRecDepth 100000 in
theorem c_Md_due (l : Launch) (dC : Nat → ClassId) (dI : Nat → Nat → Nat) (a : Nat → Nat) (k : Nat → ClassId)  (p_0 : Int32) (p_1 : Int32)  : Met l y_Md_due (.code y_Md_due b_Md_due 3 (some .int) :: TB) ({ frames := 1, cells := 0, slots := 0, locals := 22 }) (va_Pc [.ref (a 0), .int p_0, .int p_1] (PR dC dI (MW a k) (MT k))) (vp_Si (fun r => r = f_Md_due p_0 p_1)) 0 0 (fun _ => False) := by
  refine Met.ofW (cc := b_Md_due) (maxL := 3) (ret := (some .int)) (by decide) rfl ?_
  intro p e s m args below meth c s₁ B hml hv
  obtain ⟨rfl, hP, hK, hN⟩ := hv
  have hx := B.exec
  have hb := B.bytes
  have hr := B.returns
  have hts := atoms_spec (ws := (.code y_Md_due b_Md_due 3 (some .int) :: TB)) B.pre
  have htb := fun w (h : w ∈ TB) => hts w (List.mem_cons_of_mem _ h)
  have hown : s.vm.findClass R_Md = some m.cls := findClass_of_methodNamed B.named
  have hlocks := B.notSynchronized
  have hl := lv_entry ([.ref (a 0), .int p_0, .int p_1]) (n := 3) (Nat.le_of_ble_eq_true rfl)
  rw [lg_entry_eq]
  generalize (lg_sl ([.ref (a 0), .int p_0, .int p_1]) ++ List.replicate (3 - (lg_sl ([.ref (a 0), .int p_0, .int p_1])).length) Slot.unset).toArray = ls at hl ⊢
  have hl : lv_has ls 3 [(0, .ref (a 0)), (1, .int p_0), (2, .int p_1)] := hl
  refine lv_iload_n hx hb d_Md_due_0 rfl (lv_at hl 1 rfl) ?_
  refine lv_iconst (v := 0) hx hb d_Md_due_1 (by decide +kernel) ?_
  refine lv_aload_n hx hb d_Md_due_2 rfl (lv_at hl 0 rfl) ?_
  refine va_get (D := (dC, dI)) (ci := 7) (v := .int 0) (C := R_Md) (T := F_Md) (N := 64) hx hb htb i_Md hown hK hP 0 rfl rfl 47 (by decide) (htb (.fieldLink R_Md 313 "WaterMenModel" "trips" "I") tw_198) (fun _ h9 => h9) rfl d_Md_due_3 ?_
  refine lv_iconst (v := 1) hx hb d_Md_due_6 (by decide +kernel) ?_
  refine lv_isub hx hb d_Md_due_7 ?_
  refine hb_ti (-1) (by decide +kernel) ?_
  refine vp_callSi (va_Run.run (va_runS (As := [.int p_0, .int 0, .int (-1)]) (rest := []) ⟨hx, hb, hml, hown, htb⟩ (c_Md_in l p_0 0 (-1)) (cwS 3 htb (gd_S tw_139 tw_140 tw_138 tw_137) rfl rfl rfl (by decide +kernel) ⟨Nat.le_of_ble_eq_true rfl, Nat.le_of_ble_eq_true rfl⟩) ⟨fun _ _ _ _ h => h, fun U _ _ => ⟨rfl, trivial⟩⟩ rfl rfl hl.1 rfl (lv_room (Nat.le_of_ble_eq_true rfl)) d_Md_due_8 ⟨Nat.le_of_ble_eq_true rfl, Nat.le_of_ble_eq_true rfl⟩)) (fun r er => ?_)
  subst er
  by_cases c_1 : p_0 < 0
  · refine hb_ti 0 (by unfold f_Md_in; rw [if_pos c_1]) ?_
    refine lv_if_eq (tgt := 30) hx hb d_Md_due_11 (by decide) (fun _ => ?_) (fun h => absurd (by decide +kernel) h)
    refine lv_bipush (v := (-2)) hx hb d_Md_due_30 (by decide +kernel) ?_
    exact W.iret (v := (-2)) hx hb hr (fun t ht hW => ⟨(-2), rfl, (by unfold f_Md_due; rw [if_pos c_1]), ht⟩) t_nil d_Md_due_32
  · refine hb_ti 0 (by unfold f_Md_in; rw [if_neg c_1, if_pos (show (-1) < p_0 from by have e0 := c_1; rw [Int32.lt_iff_toInt_lt] at e0; have z0 : ((-1) : Int32).toInt = -1 := (by decide +kernel); have z1 : (0 : Int32).toInt = 0 := (by decide +kernel); rw [Int32.lt_iff_toInt_lt]; omega)]) ?_
    refine lv_if_eq (tgt := 30) hx hb d_Md_due_11 (by decide) (fun _ => ?_) (fun h => absurd (by decide +kernel) h)
    refine lv_bipush (v := (-2)) hx hb d_Md_due_30 (by decide +kernel) ?_
    exact W.iret (v := (-2)) hx hb hr (fun t ht hW => ⟨(-2), rfl, (by unfold f_Md_due; rw [if_neg c_1]), ht⟩) t_nil d_Md_due_32
def f_Md_over (p_0 : Int32) (p_1 : Int32) : Int32 := if p_0 < 0 then ((-1)) else (if 39 < p_0 then ((-1)) else (if p_1 < 0 then ((-1)) else (if 499 < p_1 then ((-1)) else (0))))
set_option maxHeartbeats 4000000 in
set_option maxRecDepth 100000 in
theorem c_Md_over (l : Launch) (dC : Nat → ClassId) (dI : Nat → Nat → Nat) (a : Nat → Nat) (k : Nat → ClassId)  (p_0 : Int32) (p_1 : Int32)  : Met l y_Md_over (.code y_Md_over b_Md_over 6 (some .int) :: TB) ({ frames := 2, cells := 0, slots := 0, locals := 42 }) (va_Pc [.ref (a 0), .int p_0, .int p_1] (PR dC dI (MW a k) (MT k))) (vp_Si (fun r => r = f_Md_over p_0 p_1)) 0 0 (fun _ => False) := by
  refine Met.ofW (cc := b_Md_over) (maxL := 6) (ret := (some .int)) (by decide) rfl ?_
  intro p e s m args below meth c s₁ B hml hv
  obtain ⟨rfl, hP, hK, hN⟩ := hv
  have hx := B.exec
  have hb := B.bytes
  have hr := B.returns
  have hts := atoms_spec (ws := (.code y_Md_over b_Md_over 6 (some .int) :: TB)) B.pre
  have htb := fun w (h : w ∈ TB) => hts w (List.mem_cons_of_mem _ h)
  have hown : s.vm.findClass R_Md = some m.cls := findClass_of_methodNamed B.named
  have hlocks := B.notSynchronized
  have hl := lv_entry ([.ref (a 0), .int p_0, .int p_1]) (n := 6) (Nat.le_of_ble_eq_true rfl)
  rw [lg_entry_eq]
  generalize (lg_sl ([.ref (a 0), .int p_0, .int p_1]) ++ List.replicate (6 - (lg_sl ([.ref (a 0), .int p_0, .int p_1])).length) Slot.unset).toArray = ls at hl ⊢
  have hl : lv_has ls 6 [(0, .ref (a 0)), (1, .int p_0), (2, .int p_1)] := hl
  refine lv_iload_n hx hb d_Md_over_0 rfl (lv_at hl 1 rfl) ?_
  refine vp_callSi (va_Run.run (va_runS (As := [.int p_0]) (rest := []) ⟨hx, hb, hml, hown, htb⟩ (c_Md_isMan l p_0) (cwS 1 htb (gd_S tw_164 tw_165 tw_138 tw_163) rfl rfl rfl (by decide +kernel) ⟨Nat.le_of_ble_eq_true rfl, Nat.le_of_ble_eq_true rfl⟩) ⟨fun _ _ _ _ h => h, fun U _ _ => ⟨rfl, trivial⟩⟩ rfl rfl hl.1 rfl (lv_room (Nat.le_of_ble_eq_true rfl)) d_Md_over_1 ⟨Nat.le_of_ble_eq_true rfl, Nat.le_of_ble_eq_true rfl⟩)) (fun r er => ?_)
  subst er
  by_cases c_1 : p_0 < 0
  · refine hb_ti 0 (by unfold f_Md_isMan; rw [if_pos c_1]) ?_
    refine lv_if_eq (tgt := 14) hx hb d_Md_over_4 (by decide) (fun _ => ?_) (fun h => absurd (by decide +kernel) h)
    refine lv_iconst (v := (-1)) hx hb d_Md_over_14 (by decide +kernel) ?_
    exact W.iret (v := (-1)) hx hb hr (fun t ht hW => ⟨(-1), rfl, (by unfold f_Md_over; rw [if_pos c_1]), ht⟩) t_nil d_Md_over_15
  · by_cases c_2 : 39 < p_0
    · refine hb_ti 0 (by unfold f_Md_isMan; rw [if_neg c_1, if_pos c_2]) ?_
      refine lv_if_eq (tgt := 14) hx hb d_Md_over_4 (by decide) (fun _ => ?_) (fun h => absurd (by decide +kernel) h)
      refine lv_iconst (v := (-1)) hx hb d_Md_over_14 (by decide +kernel) ?_
      exact W.iret (v := (-1)) hx hb hr (fun t ht hW => ⟨(-1), rfl, (by unfold f_Md_over; rw [if_neg c_1, if_pos c_2]), ht⟩) t_nil d_Md_over_15
    · refine hb_ti 1 (by unfold f_Md_isMan; rw [if_neg c_1, if_neg c_2]) ?_
      refine lv_if_eq (tgt := 14) hx hb d_Md_over_4 (by decide) (fun h => absurd h (by decide +kernel)) (fun _ => ?_)
      refine lv_iload_n hx hb d_Md_over_7 rfl (lv_at hl 2 rfl) ?_
      refine vp_callSi (va_Run.run (va_runS (As := [.int p_1]) (rest := []) ⟨hx, hb, hml, hown, htb⟩ (c_Md_isDay l p_1) (cwS 1 htb (gd_S tw_146 tw_147 tw_138 tw_145) rfl rfl rfl (by decide +kernel) ⟨Nat.le_of_ble_eq_true rfl, Nat.le_of_ble_eq_true rfl⟩) ⟨fun _ _ _ _ h => h, fun U _ _ => ⟨rfl, trivial⟩⟩ rfl rfl hl.1 rfl (lv_room (Nat.le_of_ble_eq_true rfl)) d_Md_over_8 ⟨Nat.le_of_ble_eq_true rfl, Nat.le_of_ble_eq_true rfl⟩)) (fun r er => ?_)
      subst er
      by_cases c_3 : p_1 < 0
      · refine hb_ti 0 (by unfold f_Md_isDay; rw [if_pos c_3]) ?_
        refine lv_if_ne (tgt := 16) hx hb d_Md_over_11 (by decide) (fun h => absurd (by decide +kernel) h) (fun _ => ?_)
        refine lv_iconst (v := (-1)) hx hb d_Md_over_14 (by decide +kernel) ?_
        exact W.iret (v := (-1)) hx hb hr (fun t ht hW => ⟨(-1), rfl, (by unfold f_Md_over; rw [if_neg c_1, if_neg c_2, if_pos c_3]), ht⟩) t_nil d_Md_over_15
      · by_cases c_4 : 499 < p_1
        · refine hb_ti 0 (by unfold f_Md_isDay; rw [if_neg c_3, if_pos c_4]) ?_
          refine lv_if_ne (tgt := 16) hx hb d_Md_over_11 (by decide) (fun h => absurd (by decide +kernel) h) (fun _ => ?_)
          refine lv_iconst (v := (-1)) hx hb d_Md_over_14 (by decide +kernel) ?_
          exact W.iret (v := (-1)) hx hb hr (fun t ht hW => ⟨(-1), rfl, (by unfold f_Md_over; rw [if_neg c_1, if_neg c_2, if_neg c_3, if_pos c_4]), ht⟩) t_nil d_Md_over_15
        · refine hb_ti 1 (by unfold f_Md_isDay; rw [if_neg c_3, if_neg c_4]) ?_
          refine lv_if_ne (tgt := 16) hx hb d_Md_over_11 (by decide) (fun _ => ?_) (fun h => absurd h (by decide +kernel))
          refine lv_iconst (v := 0) hx hb d_Md_over_16 (by decide +kernel) ?_
          refine lv_istore_n (lv' := [(3, .int 0), (0, .ref (a 0)), (1, .int p_0), (2, .int p_1)]) hx hb d_Md_over_17 rfl hl (by decide) rfl (fun ls hl => ?_)
          refine lv_iconst (v := 0) hx hb d_Md_over_18 (by decide +kernel) ?_
          refine lv_istore (lv' := [(4, .int 0), (3, .int 0), (0, .ref (a 0)), (1, .int p_0), (2, .int p_1)]) hx hb d_Md_over_19 hl (by decide) rfl (fun ls hl => ?_)
          refine lv_iload hx hb d_Md_over_21 (lv_at hl 0 rfl) ?_
          refine lv_aload_n hx hb d_Md_over_23 rfl (lv_at hl 2 rfl) ?_
          refine va_get (D := (dC, dI)) (ci := 7) (v := .int 0) (C := R_Md) (T := F_Md) (N := 64) hx hb htb i_Md hown hK hP 0 rfl rfl 47 (by decide) (htb (.fieldLink R_Md 313 "WaterMenModel" "trips" "I") tw_198) (fun _ h9 => h9) rfl d_Md_over_24 ?_
          refine lv_icmp_ge (tgt := 93) hx hb d_Md_over_27 (by decide) (fun _ => ?_) (fun h => absurd (by decide +kernel) h)
          refine lv_iload_n hx hb d_Md_over_93 rfl (lv_at hl 1 rfl) ?_
          exact W.iret (v := 0) hx hb hr (fun t ht hW => ⟨0, rfl, (by unfold f_Md_over; rw [if_neg c_1, if_neg c_2, if_neg c_3, if_neg c_4]), ht⟩) t_nil d_Md_over_94
def f_Md_isPension (p_0 : Int32) (p_1 : Int32) : Int32 := if p_0 < 1 then (0) else (if 10000 < p_0 then (0) else (if p_1 < 0 then (0) else (if 9999 < p_1 then (0) else (1))))
set_option maxHeartbeats 4000000 in
set_option maxRecDepth 100000 in
theorem c_Md_isPension (l : Launch)  (p_0 : Int32) (p_1 : Int32)  : Met l y_Md_isPension (.code y_Md_isPension b_Md_isPension 2 (some .boolean) :: TB) ({ frames := 1, cells := 0, slots := 0, locals := 22 }) (va_Pc [.int p_0, .int p_1] (fun _ => True)) (vp_Si (fun r => r = f_Md_isPension p_0 p_1)) 0 0 (fun _ => False) := by
  refine Met.ofW (cc := b_Md_isPension) (maxL := 2) (ret := (some .boolean)) (by decide) rfl ?_
  intro p e s m args below meth c s₁ B hml hv
  obtain ⟨rfl, -⟩ := hv
  have hx := B.exec
  have hb := B.bytes
  have hr := B.returns
  have hts := atoms_spec (ws := (.code y_Md_isPension b_Md_isPension 2 (some .boolean) :: TB)) B.pre
  have htb := fun w (h : w ∈ TB) => hts w (List.mem_cons_of_mem _ h)
  have hown : s.vm.findClass R_Md = some m.cls := findClass_of_methodNamed B.named
  have hlocks := B.notSynchronized
  have hl := lv_entry ([.int p_0, .int p_1]) (n := 2) (Nat.le_of_ble_eq_true rfl)
  rw [lg_entry_eq]
  generalize (lg_sl ([.int p_0, .int p_1]) ++ List.replicate (2 - (lg_sl ([.int p_0, .int p_1])).length) Slot.unset).toArray = ls at hl ⊢
  have hl : lv_has ls 2 [(0, .int p_0), (1, .int p_1)] := hl
  refine lv_iload_n hx hb d_Md_isPension_0 rfl (lv_at hl 0 rfl) ?_
  refine lv_iconst (v := 1) hx hb d_Md_isPension_1 (by decide +kernel) ?_
  refine lv_sipush (v := 10000) hx hb d_Md_isPension_2 (by decide +kernel) ?_
  refine vp_callSi (va_Run.run (va_runS (As := [.int p_0, .int 1, .int 10000]) (rest := []) ⟨hx, hb, hml, hown, htb⟩ (c_Md_in l p_0 1 10000) (cwS 3 htb (gd_S tw_139 tw_140 tw_138 tw_137) rfl rfl rfl (by decide +kernel) ⟨Nat.le_of_ble_eq_true rfl, Nat.le_of_ble_eq_true rfl⟩) ⟨fun _ _ _ _ h => h, fun U _ _ => ⟨rfl, trivial⟩⟩ rfl rfl hl.1 rfl (lv_room (Nat.le_of_ble_eq_true rfl)) d_Md_isPension_5 ⟨Nat.le_of_ble_eq_true rfl, Nat.le_of_ble_eq_true rfl⟩)) (fun r er => ?_)
  subst er
  by_cases c_1 : p_0 < 1
  · refine hb_ti 0 (by unfold f_Md_in; rw [if_pos c_1]) ?_
    refine lv_if_eq (tgt := 26) hx hb d_Md_isPension_8 (by decide) (fun _ => ?_) (fun h => absurd (by decide +kernel) h)
    refine lv_iconst (v := 0) hx hb d_Md_isPension_26 (by decide +kernel) ?_
    exact W.zret (v := 0) hx hb hr (by decide +kernel) (fun t ht hW => ⟨0, rfl, (by unfold f_Md_isPension; rw [if_pos c_1]), ht⟩) t_nil d_Md_isPension_27
  · by_cases c_2 : 10000 < p_0
    · refine hb_ti 0 (by unfold f_Md_in; rw [if_neg c_1, if_pos c_2]) ?_
      refine lv_if_eq (tgt := 26) hx hb d_Md_isPension_8 (by decide) (fun _ => ?_) (fun h => absurd (by decide +kernel) h)
      refine lv_iconst (v := 0) hx hb d_Md_isPension_26 (by decide +kernel) ?_
      exact W.zret (v := 0) hx hb hr (by decide +kernel) (fun t ht hW => ⟨0, rfl, (by unfold f_Md_isPension; rw [if_neg c_1, if_pos c_2]), ht⟩) t_nil d_Md_isPension_27
    · refine hb_ti 1 (by unfold f_Md_in; rw [if_neg c_1, if_neg c_2]) ?_
      refine lv_if_eq (tgt := 26) hx hb d_Md_isPension_8 (by decide) (fun h => absurd h (by decide +kernel)) (fun _ => ?_)
      refine lv_iload_n hx hb d_Md_isPension_11 rfl (lv_at hl 1 rfl) ?_
      refine lv_iconst (v := 0) hx hb d_Md_isPension_12 (by decide +kernel) ?_
      refine lv_sipush (v := 9999) hx hb d_Md_isPension_13 (by decide +kernel) ?_
      refine vp_callSi (va_Run.run (va_runS (As := [.int p_1, .int 0, .int 9999]) (rest := []) ⟨hx, hb, hml, hown, htb⟩ (c_Md_in l p_1 0 9999) (cwS 3 htb (gd_S tw_139 tw_140 tw_138 tw_137) rfl rfl rfl (by decide +kernel) ⟨Nat.le_of_ble_eq_true rfl, Nat.le_of_ble_eq_true rfl⟩) ⟨fun _ _ _ _ h => h, fun U _ _ => ⟨rfl, trivial⟩⟩ rfl rfl hl.1 rfl (lv_room (Nat.le_of_ble_eq_true rfl)) d_Md_isPension_16 ⟨Nat.le_of_ble_eq_true rfl, Nat.le_of_ble_eq_true rfl⟩)) (fun r er => ?_)
      subst er
      by_cases c_3 : p_1 < 0
      · refine hb_ti 0 (by unfold f_Md_in; rw [if_pos c_3]) ?_
        refine lv_if_eq (tgt := 26) hx hb d_Md_isPension_19 (by decide) (fun _ => ?_) (fun h => absurd (by decide +kernel) h)
        refine lv_iconst (v := 0) hx hb d_Md_isPension_26 (by decide +kernel) ?_
        exact W.zret (v := 0) hx hb hr (by decide +kernel) (fun t ht hW => ⟨0, rfl, (by unfold f_Md_isPension; rw [if_neg c_1, if_neg c_2, if_pos c_3]), ht⟩) t_nil d_Md_isPension_27
      · by_cases c_4 : 9999 < p_1
        · refine hb_ti 0 (by unfold f_Md_in; rw [if_neg c_3, if_pos c_4]) ?_
          refine lv_if_eq (tgt := 26) hx hb d_Md_isPension_19 (by decide) (fun _ => ?_) (fun h => absurd (by decide +kernel) h)
          refine lv_iconst (v := 0) hx hb d_Md_isPension_26 (by decide +kernel) ?_
          exact W.zret (v := 0) hx hb hr (by decide +kernel) (fun t ht hW => ⟨0, rfl, (by unfold f_Md_isPension; rw [if_neg c_1, if_neg c_2, if_neg c_3, if_pos c_4]), ht⟩) t_nil d_Md_isPension_27
        · refine hb_ti 1 (by unfold f_Md_in; rw [if_neg c_3, if_neg c_4]) ?_
          refine lv_if_eq (tgt := 26) hx hb d_Md_isPension_19 (by decide) (fun h => absurd h (by decide +kernel)) (fun _ => ?_)
          refine lv_iconst (v := 1) hx hb d_Md_isPension_22 (by decide +kernel) ?_
          refine lv_goto (tgt := 27) hx hb d_Md_isPension_23 (by decide) ?_
          exact W.zret (v := 1) hx hb hr (by decide +kernel) (fun t ht hW => ⟨1, rfl, (by unfold f_Md_isPension; rw [if_neg c_1, if_neg c_2, if_neg c_3, if_neg c_4]), ht⟩) t_nil d_Md_isPension_27
def f_Md_newPensioner (p_0 : Int32) (p_1 : Int32) : Int32 := 0
set_option maxHeartbeats 4000000 in
set_option maxRecDepth 100000 in
theorem c_Md_newPensioner (l : Launch) (dC : Nat → ClassId) (dI : Nat → Nat → Nat) (a : Nat → Nat) (k : Nat → ClassId) (sz : Nat) (p_0 : Int32) (p_1 : Int32)  : Met l y_Md_newPensioner (.code y_Md_newPensioner b_Md_newPensioner 3 (some .int) :: TB) ({ frames := 0, cells := 0, slots := 0, locals := 0 }) (va_Pc [.ref (a 0), .int p_0, .int p_1] (PC dC dI (MW a k) (MT k) sz)) (va_Qi (fun r (_ : Unit) => r = f_Md_newPensioner p_0 p_1) (fun (_ : Unit) (_ : State) => True) (va_A (MW a k) sz)) 0 0 (va_A (MW a k) sz) := by
  refine Met.ofW (cc := b_Md_newPensioner) (maxL := 3) (ret := (some .int)) (by decide) rfl ?_
  intro p e s m args below meth c s₁ B hml hv
  obtain ⟨rfl, hsz, hP, hK, hD0, hN⟩ := hv
  have hx := B.exec
  have hb := B.bytes
  have hr := B.returns
  have hts := atoms_spec (ws := (.code y_Md_newPensioner b_Md_newPensioner 3 (some .int) :: TB)) B.pre
  have htb := fun w (h : w ∈ TB) => hts w (List.mem_cons_of_mem _ h)
  have hown : s.vm.findClass R_Md = some m.cls := findClass_of_methodNamed B.named
  have hlocks := B.notSynchronized
  have hl := lv_entry ([.ref (a 0), .int p_0, .int p_1]) (n := 3) (Nat.le_of_ble_eq_true rfl)
  rw [lg_entry_eq]
  generalize (lg_sl ([.ref (a 0), .int p_0, .int p_1]) ++ List.replicate (3 - (lg_sl ([.ref (a 0), .int p_0, .int p_1])).length) Slot.unset).toArray = ls at hl ⊢
  have hl : lv_has ls 3 [(0, .ref (a 0)), (1, .int p_0), (2, .int p_1)] := hl
  subst hsz
  have hD := hD0.self (sz := s.heap.size)
  obtain ⟨A, hAe⟩ : ∃ A, va_A (MW a k) s.heap.size = A := ⟨_, rfl⟩
  rw [hAe] at hD
  have hA : ∀ q : Nat, s.heap.size ≤ q → A q := fun q h => by rw [← hAe]; exact Or.inr h
  have hS : va_S A s.heap s.heap [] := va_S.rf
  have hP := hP
  refine lv_aload_n hx hb d_Md_newPensioner_0 rfl (lv_at hl 0 rfl) ?_
  refine va_get (D := (dC, dI)) (ci := 7) (v := .ref (a 45)) (C := R_Md) (T := F_Md) (N := 64) hx hb htb i_Md hown hK hP 0 rfl rfl 61 (by decide) (htb (.fieldLink R_Md 177 "WaterMenModel" "pensionOf" "[I") tw_203) (fun _ h9 => h9) rfl d_Md_newPensioner_1 ?_
  refine lv_aload_n hx hb d_Md_newPensioner_4 rfl (lv_at hl 0 rfl) ?_
  refine va_get (D := (dC, dI)) (ci := 7) (v := .int 0) (C := R_Md) (T := F_Md) (N := 64) hx hb htb i_Md hown hK hP 0 rfl rfl 60 (by decide) (htb (.fieldLink R_Md 323 "WaterMenModel" "pensioners" "I") tw_202) (fun _ h9 => h9) rfl d_Md_newPensioner_5 ?_
  refine lv_iload_n hx hb d_Md_newPensioner_8 rfl (lv_at hl 1 rfl) ?_
  refine va_iast hx hb hK hP hD hS 45 44 rfl rfl (by unfold vp_in; decide +kernel) d_Md_newPensioner_9 (fun H locs hP hD hS => ?_)
  refine lv_aload_n hx hb d_Md_newPensioner_10 rfl (lv_at hl 0 rfl) ?_
  refine va_get (D := (dC, dI)) (ci := 7) (v := .ref (a 46)) (C := R_Md) (T := F_Md) (N := 64) hx hb htb i_Md hown hK hP 0 rfl rfl 62 (by decide) (htb (.fieldLink R_Md 180 "WaterMenModel" "pensionEnd" "[I") tw_204) (fun _ h9 => h9) rfl d_Md_newPensioner_11 ?_
  refine lv_aload_n hx hb d_Md_newPensioner_14 rfl (lv_at hl 0 rfl) ?_
  refine va_get (D := (dC, dI)) (ci := 7) (v := .int 0) (C := R_Md) (T := F_Md) (N := 64) hx hb htb i_Md hown hK hP 0 rfl rfl 60 (by decide) (htb (.fieldLink R_Md 323 "WaterMenModel" "pensioners" "I") tw_202) (fun _ h9 => h9) rfl d_Md_newPensioner_15 ?_
  refine lv_iload_n hx hb d_Md_newPensioner_18 rfl (lv_at hl 2 rfl) ?_
  refine va_iast hx hb hK hP hD hS 46 45 rfl rfl (by unfold vp_in; decide +kernel) d_Md_newPensioner_19 (fun H locs hP hD hS => ?_)
  refine lv_aload_n hx hb d_Md_newPensioner_20 rfl (lv_at hl 0 rfl) ?_
  refine lv_dup hx hb d_Md_newPensioner_21 rfl ?_
  refine va_get (D := (dC, dI)) (ci := 7) (v := .int 0) (C := R_Md) (T := F_Md) (N := 64) hx hb htb i_Md hown hK hP 0 rfl rfl 60 (by decide) (htb (.fieldLink R_Md 323 "WaterMenModel" "pensioners" "I") tw_202) (fun _ h9 => h9) rfl d_Md_newPensioner_22 ?_
  refine lv_iconst (v := 1) hx hb d_Md_newPensioner_25 (by decide +kernel) ?_
  refine lv_iadd hx hb d_Md_newPensioner_26 ?_
  refine hb_ti 1 (by decide +kernel) ?_
  refine va_put (D := (dC, dI)) (ci := 7) (v := .int 1) (ty := .int) (C := R_Md) (T := F_Md) (N := 64) hx hb htb i_Md t_Md t_Md_ok n_Md hown hK hP hD hS 0 rfl rfl 60 (by decide) (htb (.fieldLink R_Md 323 "WaterMenModel" "pensioners" "I") tw_202) (fun _ h9 => h9) rfl (by decide +kernel) rfl rfl (Nat.le_of_ble_eq_true rfl) d_Md_newPensioner_27 (fun H locs hP hD hS => ?_)
  refine lv_aload_n hx hb d_Md_newPensioner_30 rfl (lv_at hl 0 rfl) ?_
  refine va_get (D := (dC, dI)) (ci := 7) (v := .int 1) (C := R_Md) (T := F_Md) (N := 64) hx hb htb i_Md hown hK hP 0 rfl rfl 60 (by decide) (htb (.fieldLink R_Md 323 "WaterMenModel" "pensioners" "I") tw_202) (fun _ h9 => h9) rfl d_Md_newPensioner_31 ?_
  refine lv_iconst (v := 1) hx hb d_Md_newPensioner_34 (by decide +kernel) ?_
  refine lv_isub hx hb d_Md_newPensioner_35 ?_
  refine hb_ti 0 (by decide +kernel) ?_
  refine W.widen (k := 0) (n := 0) (Nat.le_of_ble_eq_true rfl) (Nat.le_of_ble_eq_true rfl) ?_
  exact W.iret (v := 0) hx hb hr (fun t ht hW => ⟨⟨0, (), rfl, rfl, trivial⟩, by rw [hAe]; exact hS.F ht⟩) (by rw [hAe]; exact hS.2.2) d_Md_newPensioner_36
