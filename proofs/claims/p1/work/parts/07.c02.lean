def f_WM_join (p_0 : Int32) (p_1 : Int32) : Int32 := if p_1 < 0 then ((-1)) else (if 40 ≤ p_1 then ((-1)) else (if p_0 < 0 then ((-1)) else ((-1))))
set_option maxHeartbeats 4000000 in
set_option maxRecDepth 100000 in
theorem c_WM_join (l : Launch) (dC : Nat → ClassId) (dI : Nat → Nat → Nat) (a : Nat → Nat) (k : Nat → ClassId) (L : List Nat) (hL : L.length = 40)  (p_0 : Int32) (p_1 : Int32)  : Met l y_WM_join (.code y_WM_join b_WM_join 4 (some .int) :: TB) ({ frames := 1, cells := 0, slots := 0, locals := 21 }) (va_Pc [.ref (a 0), .int p_0, .int p_1] (PR dC dI (XW a k L) (XT k))) (vp_Si (fun r => r = f_WM_join p_0 p_1)) 0 0 (fun _ => False) := by
  refine Met.ofW (cc := b_WM_join) (maxL := 4) (ret := (some .int)) (by decide) rfl ?_
  intro p e s m args below meth c s₁ B hml hv
  obtain ⟨rfl, hP, hK, hN⟩ := hv
  have hx := B.exec
  have hb := B.bytes
  have hr := B.returns
  have hts := atoms_spec (ws := (.code y_WM_join b_WM_join 4 (some .int) :: TB)) B.pre
  have htb := fun w (h : w ∈ TB) => hts w (List.mem_cons_of_mem _ h)
  have hown : s.vm.findClass R_WM = some m.cls := findClass_of_methodNamed B.named
  have hlocks := B.notSynchronized
  have hl := lv_entry ([.ref (a 0), .int p_0, .int p_1]) (n := 4) (Nat.le_of_ble_eq_true rfl)
  rw [lg_entry_eq]
  generalize (lg_sl ([.ref (a 0), .int p_0, .int p_1]) ++ List.replicate (4 - (lg_sl ([.ref (a 0), .int p_0, .int p_1])).length) Slot.unset).toArray = ls at hl ⊢
  have hl : lv_has ls 4 [(0, .ref (a 0)), (1, .int p_0), (2, .int p_1)] := hl
  refine lv_aload_n hx hb d_WM_join_0 rfl (lv_at hl 0 rfl) ?_
  refine lv_iload_n hx hb d_WM_join_1 rfl (lv_at hl 2 rfl) ?_
  refine va_csq (va_Run.run (va_runV (As := [.int p_1]) (rest := []) ⟨hx, hb, hml, hown, htb⟩ (c_WM_manAt l dC dI a k L hL p_1) (cwV 1 htb (gd_V tw_53 tw_54 tw_55 tw_15 tw_52) rfl rfl rfl (by decide +kernel) ⟨Nat.le_of_ble_eq_true rfl, Nat.le_of_ble_eq_true rfl⟩) ⟨pr_blind, va_recv hK hP (ci := 0) (q0 := 0) rfl rfl, pr_pre hP hK hN⟩ rfl rfl hl.1 rfl (lv_room (Nat.le_of_ble_eq_true rfl)) d_WM_join_2 ⟨Nat.le_of_ble_eq_true rfl, Nat.le_of_ble_eq_true rfl⟩)) (fun rr_2 hq_1 => ?_)
  unfold f_WM_manAt at hq_1
  by_cases c_3 : p_1 < 0
  · rw [if_pos c_3] at hq_1
    subst hq_1
    refine hb_tv .null rfl ?_
    refine lv_astore_nN (lv' := [(3, .null), (0, .ref (a 0)), (1, .int p_0), (2, .int p_1)]) hx hb d_WM_join_5 rfl hl (by decide) rfl (fun ls hl => ?_)
    refine lv_aload_nN hx hb d_WM_join_6 rfl (lv_at hl 0 rfl) ?_
    refine lv_ifnullN (tgt := 21) hx hb d_WM_join_7 (by decide) ?_
    refine lv_iconst (v := (-1)) hx hb d_WM_join_21 (by decide +kernel) ?_
    exact W.iret (v := (-1)) hx hb hr (fun t ht hW => ⟨(-1), rfl, (by unfold f_WM_join; rw [if_pos c_3]), ht⟩) t_nil d_WM_join_22
  · by_cases c_4 : 40 ≤ p_1
    · rw [if_neg c_3, if_pos c_4] at hq_1
      subst hq_1
      refine hb_tv .null rfl ?_
      refine lv_astore_nN (lv' := [(3, .null), (0, .ref (a 0)), (1, .int p_0), (2, .int p_1)]) hx hb d_WM_join_5 rfl hl (by decide) rfl (fun ls hl => ?_)
      refine lv_aload_nN hx hb d_WM_join_6 rfl (lv_at hl 0 rfl) ?_
      refine lv_ifnullN (tgt := 21) hx hb d_WM_join_7 (by decide) ?_
      refine lv_iconst (v := (-1)) hx hb d_WM_join_21 (by decide +kernel) ?_
      exact W.iret (v := (-1)) hx hb hr (fun t ht hW => ⟨(-1), rfl, (by unfold f_WM_join; rw [if_neg c_3, if_pos c_4]), ht⟩) t_nil d_WM_join_22
    · rw [if_neg c_3, if_neg c_4] at hq_1
      obtain ⟨q_5, x_6, rfl, hk_7⟩ := hq_1
      refine hb_tv (.ref q_5) rfl ?_
      refine lv_astore_n (lv' := [(3, .ref q_5), (0, .ref (a 0)), (1, .int p_0), (2, .int p_1)]) hx hb d_WM_join_5 rfl hl (by decide) rfl (fun ls hl => ?_)
      refine lv_aload_n hx hb d_WM_join_6 rfl (lv_at hl 0 rfl) ?_
      refine lv_ifnull hx hb d_WM_join_7 ?_
      refine lv_aload_n hx hb d_WM_join_10 rfl (lv_at hl 1 rfl) ?_
      refine va_get (D := (dC, dI)) (ci := 0) (v := .ref (a 1)) (C := R_WM) (T := F_WM) (N := 13) hx hb htb i_WM hown hK hP 0 rfl rfl 0 (by decide) (htb (.fieldLink R_WM 12 "WaterMen" "river" "LWaterMen$River;") tw_0) (fun _ h9 => h9) rfl d_WM_join_11 ?_
      refine lv_iload_n hx hb d_WM_join_14 rfl (lv_at hl 2 rfl) ?_
      refine vp_callSi (va_Run.run (va_runV (As := [.int p_0]) (rest := []) ⟨hx, hb, hml, hown, htb⟩ (c_Rv_hasStairs l dC dI a k L hL p_0) (cwV 1 htb (gd_V tw_79 tw_80 tw_81 tw_3 tw_78) rfl rfl rfl (by decide +kernel) ⟨Nat.le_of_ble_eq_true rfl, Nat.le_of_ble_eq_true rfl⟩) ⟨pr_blind, va_recv hK hP (ci := 1) (q0 := 1) rfl rfl, pr_pre hP hK hN⟩ rfl rfl hl.1 rfl (lv_room (Nat.le_of_ble_eq_true rfl)) d_WM_join_15 ⟨Nat.le_of_ble_eq_true rfl, Nat.le_of_ble_eq_true rfl⟩)) (fun r er => ?_)
      subst er
      by_cases c_8 : p_0 < 0
      · refine hb_ti 0 (by unfold f_Rv_hasStairs; rw [if_pos c_8]) ?_
        refine lv_if_ne (tgt := 23) hx hb d_WM_join_18 (by decide) (fun h => absurd (by decide +kernel) h) (fun _ => ?_)
        refine lv_iconst (v := (-1)) hx hb d_WM_join_21 (by decide +kernel) ?_
        exact W.iret (v := (-1)) hx hb hr (fun t ht hW => ⟨(-1), rfl, (by unfold f_WM_join; rw [if_neg c_3, if_neg c_4, if_pos c_8]), ht⟩) t_nil d_WM_join_22
      · refine hb_ti 0 (by unfold f_Rv_hasStairs; rw [if_neg c_8]) ?_
        refine lv_if_ne (tgt := 23) hx hb d_WM_join_18 (by decide) (fun h => absurd (by decide +kernel) h) (fun _ => ?_)
        refine lv_iconst (v := (-1)) hx hb d_WM_join_21 (by decide +kernel) ?_
        exact W.iret (v := (-1)) hx hb hr (fun t ht hW => ⟨(-1), rfl, (by unfold f_WM_join; rw [if_neg c_3, if_neg c_4, if_neg c_8]), ht⟩) t_nil d_WM_join_22
def f_WM_leave (p_0 : Int32) : Int32 := if p_0 < 0 then ((-1)) else (if 40 ≤ p_0 then ((-1)) else ((-2)))
set_option maxHeartbeats 4000000 in
set_option maxRecDepth 100000 in
theorem c_WM_leave (l : Launch) (dC : Nat → ClassId) (dI : Nat → Nat → Nat) (a : Nat → Nat) (k : Nat → ClassId) (L : List Nat) (hL : L.length = 40)  (p_0 : Int32)  : Met l y_WM_leave (.code y_WM_leave b_WM_leave 3 (some .int) :: TB) ({ frames := 1, cells := 0, slots := 0, locals := 21 }) (va_Pc [.ref (a 0), .int p_0] (PR dC dI (XW a k L) (XT k))) (vp_Si (fun r => r = f_WM_leave p_0)) 0 0 (fun _ => False) := by
  refine Met.ofW (cc := b_WM_leave) (maxL := 3) (ret := (some .int)) (by decide) rfl ?_
  intro p e s m args below meth c s₁ B hml hv
  obtain ⟨rfl, hP, hK, hN⟩ := hv
  have hx := B.exec
  have hb := B.bytes
  have hr := B.returns
  have hts := atoms_spec (ws := (.code y_WM_leave b_WM_leave 3 (some .int) :: TB)) B.pre
  have htb := fun w (h : w ∈ TB) => hts w (List.mem_cons_of_mem _ h)
  have hown : s.vm.findClass R_WM = some m.cls := findClass_of_methodNamed B.named
  have hlocks := B.notSynchronized
  have hl := lv_entry ([.ref (a 0), .int p_0]) (n := 3) (Nat.le_of_ble_eq_true rfl)
  rw [lg_entry_eq]
  generalize (lg_sl ([.ref (a 0), .int p_0]) ++ List.replicate (3 - (lg_sl ([.ref (a 0), .int p_0])).length) Slot.unset).toArray = ls at hl ⊢
  have hl : lv_has ls 3 [(0, .ref (a 0)), (1, .int p_0)] := hl
  refine lv_aload_n hx hb d_WM_leave_0 rfl (lv_at hl 0 rfl) ?_
  refine lv_iload_n hx hb d_WM_leave_1 rfl (lv_at hl 1 rfl) ?_
  refine va_csq (va_Run.run (va_runV (As := [.int p_0]) (rest := []) ⟨hx, hb, hml, hown, htb⟩ (c_WM_manAt l dC dI a k L hL p_0) (cwV 1 htb (gd_V tw_53 tw_54 tw_55 tw_15 tw_52) rfl rfl rfl (by decide +kernel) ⟨Nat.le_of_ble_eq_true rfl, Nat.le_of_ble_eq_true rfl⟩) ⟨pr_blind, va_recv hK hP (ci := 0) (q0 := 0) rfl rfl, pr_pre hP hK hN⟩ rfl rfl hl.1 rfl (lv_room (Nat.le_of_ble_eq_true rfl)) d_WM_leave_2 ⟨Nat.le_of_ble_eq_true rfl, Nat.le_of_ble_eq_true rfl⟩)) (fun rr_2 hq_1 => ?_)
  unfold f_WM_manAt at hq_1
  by_cases c_3 : p_0 < 0
  · rw [if_pos c_3] at hq_1
    subst hq_1
    refine hb_tv .null rfl ?_
    refine lv_astore_nN (lv' := [(2, .null), (0, .ref (a 0)), (1, .int p_0)]) hx hb d_WM_leave_5 rfl hl (by decide) rfl (fun ls hl => ?_)
    refine lv_aload_nN hx hb d_WM_leave_6 rfl (lv_at hl 0 rfl) ?_
    refine lv_ifnonnullN hx hb d_WM_leave_7 ?_
    refine lv_iconst (v := (-1)) hx hb d_WM_leave_10 (by decide +kernel) ?_
    exact W.iret (v := (-1)) hx hb hr (fun t ht hW => ⟨(-1), rfl, (by unfold f_WM_leave; rw [if_pos c_3]), ht⟩) t_nil d_WM_leave_11
  · by_cases c_4 : 40 ≤ p_0
    · rw [if_neg c_3, if_pos c_4] at hq_1
      subst hq_1
      refine hb_tv .null rfl ?_
      refine lv_astore_nN (lv' := [(2, .null), (0, .ref (a 0)), (1, .int p_0)]) hx hb d_WM_leave_5 rfl hl (by decide) rfl (fun ls hl => ?_)
      refine lv_aload_nN hx hb d_WM_leave_6 rfl (lv_at hl 0 rfl) ?_
      refine lv_ifnonnullN hx hb d_WM_leave_7 ?_
      refine lv_iconst (v := (-1)) hx hb d_WM_leave_10 (by decide +kernel) ?_
      exact W.iret (v := (-1)) hx hb hr (fun t ht hW => ⟨(-1), rfl, (by unfold f_WM_leave; rw [if_neg c_3, if_pos c_4]), ht⟩) t_nil d_WM_leave_11
    · rw [if_neg c_3, if_neg c_4] at hq_1
      obtain ⟨q_5, x_6, rfl, hk_7⟩ := hq_1
      refine hb_tv (.ref q_5) rfl ?_
      refine lv_astore_n (lv' := [(2, .ref q_5), (0, .ref (a 0)), (1, .int p_0)]) hx hb d_WM_leave_5 rfl hl (by decide) rfl (fun ls hl => ?_)
      refine lv_aload_n hx hb d_WM_leave_6 rfl (lv_at hl 0 rfl) ?_
      refine lv_ifnonnull (tgt := 12) hx hb d_WM_leave_7 (by decide) ?_
      refine lv_aload_n hx hb d_WM_leave_12 rfl (lv_at hl 0 rfl) ?_
      refine va_get (D := (dC, dI)) (ci := 2) (v := .int (-1)) (C := R_Mn) (T := F_Mn) (N := 8) hx hb htb i_Mn hown hK hP x_6 hk_7 rfl 2 (by decide) (htb (.fieldLink R_WM 145 "WaterMen$Man" "turnStairs" "I") tw_62) (fun _ h9 => h9) rfl d_WM_leave_13 ?_
      refine lv_iconst (v := (-1)) hx hb d_WM_leave_16 (by decide +kernel) ?_
      refine lv_icmp_ne (tgt := 23) hx hb d_WM_leave_17 (by decide) (fun h => absurd (by decide +kernel) h) (fun _ => ?_)
      refine lv_bipush (v := (-2)) hx hb d_WM_leave_20 (by decide +kernel) ?_
      exact W.iret (v := (-2)) hx hb hr (fun t ht hW => ⟨(-2), rfl, (by unfold f_WM_leave; rw [if_neg c_3, if_neg c_4]), ht⟩) t_nil d_WM_leave_22
def f_Tp_hasRoomForFive  : Int32 := 1
set_option maxHeartbeats 4000000 in
set_option maxRecDepth 100000 in
theorem c_Tp_hasRoomForFive (l : Launch) (dC : Nat → ClassId) (dI : Nat → Nat → Nat) (a : Nat → Nat) (k : Nat → ClassId) (L : List Nat) (hL : L.length = 40)    : Met l y_Tp_hasRoomForFive (.code y_Tp_hasRoomForFive b_Tp_hasRoomForFive 1 (some .boolean) :: TB) ({ frames := 0, cells := 0, slots := 0, locals := 0 }) (va_Pc [.ref (a 10)] (PR dC dI (XW a k L) (XT k))) (vp_Si (fun r => r = f_Tp_hasRoomForFive)) 0 0 (fun _ => False) := by
  refine Met.ofW (cc := b_Tp_hasRoomForFive) (maxL := 1) (ret := (some .boolean)) (by decide) rfl ?_
  intro p e s m args below meth c s₁ B hml hv
  obtain ⟨rfl, hP, hK, hN⟩ := hv
  have hx := B.exec
  have hb := B.bytes
  have hr := B.returns
  have hts := atoms_spec (ws := (.code y_Tp_hasRoomForFive b_Tp_hasRoomForFive 1 (some .boolean) :: TB)) B.pre
  have htb := fun w (h : w ∈ TB) => hts w (List.mem_cons_of_mem _ h)
  have hown : s.vm.findClass R_Tp = some m.cls := findClass_of_methodNamed B.named
  have hlocks := B.notSynchronized
  have hl := lv_entry ([.ref (a 10)]) (n := 1) (Nat.le_of_ble_eq_true rfl)
  rw [lg_entry_eq]
  generalize (lg_sl ([.ref (a 10)]) ++ List.replicate (1 - (lg_sl ([.ref (a 10)])).length) Slot.unset).toArray = ls at hl ⊢
  have hl : lv_has ls 1 [(0, .ref (a 10))] := hl
  refine lv_aload_n hx hb d_Tp_hasRoomForFive_0 rfl (lv_at hl 0 rfl) ?_
  refine va_get (D := (dC, dI)) (ci := 4) (v := .int 0) (C := R_Tp) (T := F_Tp) (N := 6) hx hb htb i_Tp hown hK hP 10 rfl rfl 1 (by decide) (htb (.fieldLink R_Tp 15 "WaterMen$Tape" "length" "I") tw_88) (fun _ h9 => h9) rfl d_Tp_hasRoomForFive_1 ?_
  refine lv_sipush (v := 380) hx hb d_Tp_hasRoomForFive_4 (by decide +kernel) ?_
  refine lv_icmp_gt (tgt := 14) hx hb d_Tp_hasRoomForFive_7 (by decide) (fun h => absurd h (by decide +kernel)) (fun _ => ?_)
  refine lv_iconst (v := 1) hx hb d_Tp_hasRoomForFive_10 (by decide +kernel) ?_
  refine lv_goto (tgt := 15) hx hb d_Tp_hasRoomForFive_11 (by decide) ?_
  exact W.zret (v := 1) hx hb hr (by decide +kernel) (fun t ht hW => ⟨1, rfl, rfl, ht⟩) t_nil d_Tp_hasRoomForFive_15
set_option maxHeartbeats 4000000 in
set_option maxRecDepth 100000 in
theorem c_Tp_append_c0 (l : Launch) (dC : Nat → ClassId) (dI : Nat → Nat → Nat) (h_0 h_1 : Nat) (kk_1 : ClassId) (sz : Nat) (p_0 : Int32)  : Met l y_Tp_append (.code y_Tp_append b_Tp_append 2 none :: TB) ({ frames := 0, cells := 0, slots := 0, locals := 0 }) (va_Pc [.ref h_0, .int p_0] (PC dC dI [(h_0, .inr (4, [.ref h_1, .int 0, .int 0, .int 0, .int 0, .int 0])), (h_1, .inl (kk_1, 400, .inl (fun _ => 0)))] [(kk_1, .byte)] sz)) (va_Qv (fun (_ : Unit) => True) (fun (_ : Unit) t => ∃ (g_1 : Nat → Int32) , va_P (dC, dI) vwCl [(h_0, .inr (4, [.ref h_1, .int 4, .int 0, .int 0, .int 0, .int 0])), (h_1, .inl (kk_1, 400, .inl g_1))] t.heap ∧ va_K (dC, dI) vwCl [(kk_1, .byte)] t ∧ va_D (va_A [(h_0, .inr (4, [.ref h_1, .int 0, .int 0, .int 0, .int 0, .int 0])), (h_1, .inl (kk_1, 400, .inl (fun _ => 0)))] sz) [(h_0, .inr (4, [.ref h_1, .int 4, .int 0, .int 0, .int 0, .int 0])), (h_1, .inl (kk_1, 400, .inl g_1))]) (va_A [(h_0, .inr (4, [.ref h_1, .int 0, .int 0, .int 0, .int 0, .int 0])), (h_1, .inl (kk_1, 400, .inl (fun _ => 0)))] sz)) 0 0 (va_A [(h_0, .inr (4, [.ref h_1, .int 0, .int 0, .int 0, .int 0, .int 0])), (h_1, .inl (kk_1, 400, .inl (fun _ => 0)))] sz) := by
  refine Met.ofW (cc := b_Tp_append) (maxL := 2) (ret := none) (by decide) rfl ?_
  intro p e s m args below meth c s₁ B hml hv
  obtain ⟨rfl, hsz, hP, hK, hD0, hN⟩ := hv
  have hx := B.exec
  have hb := B.bytes
  have hr := B.returns
  have hts := atoms_spec (ws := (.code y_Tp_append b_Tp_append 2 none :: TB)) B.pre
  have htb := fun w (h : w ∈ TB) => hts w (List.mem_cons_of_mem _ h)
  have hown : s.vm.findClass R_Tp = some m.cls := findClass_of_methodNamed B.named
  have hlocks := B.notSynchronized
  have hl := lv_entry ([.ref h_0, .int p_0]) (n := 2) (Nat.le_of_ble_eq_true rfl)
  rw [lg_entry_eq]
  generalize (lg_sl ([.ref h_0, .int p_0]) ++ List.replicate (2 - (lg_sl ([.ref h_0, .int p_0])).length) Slot.unset).toArray = ls at hl ⊢
  have hl : lv_has ls 2 [(0, .ref h_0), (1, .int p_0)] := hl
  subst hsz
  have hD := hD0.self (sz := s.heap.size)
  obtain ⟨A, hAe⟩ : ∃ A, va_A [(h_0, .inr (4, [.ref h_1, .int 0, .int 0, .int 0, .int 0, .int 0])), (h_1, .inl (kk_1, 400, .inl (fun _ => 0)))] s.heap.size = A := ⟨_, rfl⟩
  rw [hAe] at hD
  have hA : ∀ q : Nat, s.heap.size ≤ q → A q := fun q h => by rw [← hAe]; exact Or.inr h
  have hS : va_S A s.heap s.heap [] := va_S.rf
  have hP := hP
  refine lv_aload_n hx hb d_Tp_append_0 rfl (lv_at hl 0 rfl) ?_
  refine va_get (D := (dC, dI)) (ci := 4) (v := .int 0) (C := R_Tp) (T := F_Tp) (N := 6) hx hb htb i_Tp hown hK hP 0 rfl rfl 1 (by decide) (htb (.fieldLink R_Tp 15 "WaterMen$Tape" "length" "I") tw_88) (fun _ h9 => h9) rfl d_Tp_append_1 ?_
  refine lv_sipush (v := 396) hx hb d_Tp_append_4 (by decide +kernel) ?_
  refine lv_icmp_le (tgt := 11) hx hb d_Tp_append_7 (by decide) (fun _ => ?_) (fun h => absurd (by decide +kernel) h)
  refine lv_aload_n hx hb d_Tp_append_11 rfl (lv_at hl 0 rfl) ?_
  refine va_get (D := (dC, dI)) (ci := 4) (v := .ref h_1) (C := R_Tp) (T := F_Tp) (N := 6) hx hb htb i_Tp hown hK hP 0 rfl rfl 0 (by decide) (htb (.fieldLink R_Tp 9 "WaterMen$Tape" "bytes" "[B") tw_94) (fun _ h9 => h9) rfl d_Tp_append_12 ?_
  refine lv_aload_n hx hb d_Tp_append_15 rfl (lv_at hl 0 rfl) ?_
  refine va_get (D := (dC, dI)) (ci := 4) (v := .int 0) (C := R_Tp) (T := F_Tp) (N := 6) hx hb htb i_Tp hown hK hP 0 rfl rfl 1 (by decide) (htb (.fieldLink R_Tp 15 "WaterMen$Tape" "length" "I") tw_88) (fun _ h9 => h9) rfl d_Tp_append_16 ?_
  refine lv_iload_n hx hb d_Tp_append_19 rfl (lv_at hl 1 rfl) ?_
  refine lv_bipush (v := 24) hx hb d_Tp_append_20 (by decide +kernel) ?_
  refine lv_iushr hx hb d_Tp_append_22 rfl ?_
  refine lv_i2b hx hb d_Tp_append_23 rfl ?_
  refine va_bast hx hb hK hP hD hS 1 0 rfl rfl (by unfold vp_in; decide +kernel) d_Tp_append_24 (fun H locs hP hD hS => ?_)
  have hP : va_P (dC, dI) vwCl [(h_0, .inr (4, [.ref h_1, .int 0, .int 0, .int 0, .int 0, .int 0])), (h_1, .inl (kk_1, 400, .inl (upd (fun _ => 0) (0 : Int32).toNatClampNeg (vp_nar .byte ((((p_0).toUInt32 >>> ((24 : Int32).toUInt32 &&& Int32.toUInt32 31)).toInt32).toInt8.toInt32)))))] H := hP
  have hD : va_D A [(h_0, .inr (4, [.ref h_1, .int 0, .int 0, .int 0, .int 0, .int 0])), (h_1, .inl (kk_1, 400, .inl (upd (fun _ => 0) (0 : Int32).toNatClampNeg (vp_nar .byte ((((p_0).toUInt32 >>> ((24 : Int32).toUInt32 &&& Int32.toUInt32 31)).toInt32).toInt8.toInt32)))))] := hD
  refine lv_aload_n hx hb d_Tp_append_25 rfl (lv_at hl 0 rfl) ?_
  refine va_get (D := (dC, dI)) (ci := 4) (v := .ref h_1) (C := R_Tp) (T := F_Tp) (N := 6) hx hb htb i_Tp hown hK hP 0 rfl rfl 0 (by decide) (htb (.fieldLink R_Tp 9 "WaterMen$Tape" "bytes" "[B") tw_94) (fun _ h9 => h9) rfl d_Tp_append_26 ?_
  refine lv_aload_n hx hb d_Tp_append_29 rfl (lv_at hl 0 rfl) ?_
  refine va_get (D := (dC, dI)) (ci := 4) (v := .int 0) (C := R_Tp) (T := F_Tp) (N := 6) hx hb htb i_Tp hown hK hP 0 rfl rfl 1 (by decide) (htb (.fieldLink R_Tp 15 "WaterMen$Tape" "length" "I") tw_88) (fun _ h9 => h9) rfl d_Tp_append_30 ?_
  refine lv_iconst (v := 1) hx hb d_Tp_append_33 (by decide +kernel) ?_
  refine lv_iadd hx hb d_Tp_append_34 ?_
  refine hb_ti 1 (by decide +kernel) ?_
  refine lv_iload_n hx hb d_Tp_append_35 rfl (lv_at hl 1 rfl) ?_
  refine lv_bipush (v := 16) hx hb d_Tp_append_36 (by decide +kernel) ?_
  refine lv_iushr hx hb d_Tp_append_38 rfl ?_
  refine lv_i2b hx hb d_Tp_append_39 rfl ?_
  refine va_bast hx hb hK hP hD hS 1 0 rfl rfl (by unfold vp_in; decide +kernel) d_Tp_append_40 (fun H locs hP hD hS => ?_)
  have hP : va_P (dC, dI) vwCl [(h_0, .inr (4, [.ref h_1, .int 0, .int 0, .int 0, .int 0, .int 0])), (h_1, .inl (kk_1, 400, .inl (upd (upd (fun _ => 0) (0 : Int32).toNatClampNeg (vp_nar .byte ((((p_0).toUInt32 >>> ((24 : Int32).toUInt32 &&& Int32.toUInt32 31)).toInt32).toInt8.toInt32))) (1 : Int32).toNatClampNeg (vp_nar .byte ((((p_0).toUInt32 >>> ((16 : Int32).toUInt32 &&& Int32.toUInt32 31)).toInt32).toInt8.toInt32)))))] H := hP
  have hD : va_D A [(h_0, .inr (4, [.ref h_1, .int 0, .int 0, .int 0, .int 0, .int 0])), (h_1, .inl (kk_1, 400, .inl (upd (upd (fun _ => 0) (0 : Int32).toNatClampNeg (vp_nar .byte ((((p_0).toUInt32 >>> ((24 : Int32).toUInt32 &&& Int32.toUInt32 31)).toInt32).toInt8.toInt32))) (1 : Int32).toNatClampNeg (vp_nar .byte ((((p_0).toUInt32 >>> ((16 : Int32).toUInt32 &&& Int32.toUInt32 31)).toInt32).toInt8.toInt32)))))] := hD
  refine lv_aload_n hx hb d_Tp_append_41 rfl (lv_at hl 0 rfl) ?_
  refine va_get (D := (dC, dI)) (ci := 4) (v := .ref h_1) (C := R_Tp) (T := F_Tp) (N := 6) hx hb htb i_Tp hown hK hP 0 rfl rfl 0 (by decide) (htb (.fieldLink R_Tp 9 "WaterMen$Tape" "bytes" "[B") tw_94) (fun _ h9 => h9) rfl d_Tp_append_42 ?_
  refine lv_aload_n hx hb d_Tp_append_45 rfl (lv_at hl 0 rfl) ?_
  refine va_get (D := (dC, dI)) (ci := 4) (v := .int 0) (C := R_Tp) (T := F_Tp) (N := 6) hx hb htb i_Tp hown hK hP 0 rfl rfl 1 (by decide) (htb (.fieldLink R_Tp 15 "WaterMen$Tape" "length" "I") tw_88) (fun _ h9 => h9) rfl d_Tp_append_46 ?_
  refine lv_iconst (v := 2) hx hb d_Tp_append_49 (by decide +kernel) ?_
  refine lv_iadd hx hb d_Tp_append_50 ?_
  refine hb_ti 2 (by decide +kernel) ?_
  refine lv_iload_n hx hb d_Tp_append_51 rfl (lv_at hl 1 rfl) ?_
  refine lv_bipush (v := 8) hx hb d_Tp_append_52 (by decide +kernel) ?_
  refine lv_iushr hx hb d_Tp_append_54 rfl ?_
  refine lv_i2b hx hb d_Tp_append_55 rfl ?_
  refine va_bast hx hb hK hP hD hS 1 0 rfl rfl (by unfold vp_in; decide +kernel) d_Tp_append_56 (fun H locs hP hD hS => ?_)
  have hP : va_P (dC, dI) vwCl [(h_0, .inr (4, [.ref h_1, .int 0, .int 0, .int 0, .int 0, .int 0])), (h_1, .inl (kk_1, 400, .inl (upd (upd (upd (fun _ => 0) (0 : Int32).toNatClampNeg (vp_nar .byte ((((p_0).toUInt32 >>> ((24 : Int32).toUInt32 &&& Int32.toUInt32 31)).toInt32).toInt8.toInt32))) (1 : Int32).toNatClampNeg (vp_nar .byte ((((p_0).toUInt32 >>> ((16 : Int32).toUInt32 &&& Int32.toUInt32 31)).toInt32).toInt8.toInt32))) (2 : Int32).toNatClampNeg (vp_nar .byte ((((p_0).toUInt32 >>> ((8 : Int32).toUInt32 &&& Int32.toUInt32 31)).toInt32).toInt8.toInt32)))))] H := hP
  have hD : va_D A [(h_0, .inr (4, [.ref h_1, .int 0, .int 0, .int 0, .int 0, .int 0])), (h_1, .inl (kk_1, 400, .inl (upd (upd (upd (fun _ => 0) (0 : Int32).toNatClampNeg (vp_nar .byte ((((p_0).toUInt32 >>> ((24 : Int32).toUInt32 &&& Int32.toUInt32 31)).toInt32).toInt8.toInt32))) (1 : Int32).toNatClampNeg (vp_nar .byte ((((p_0).toUInt32 >>> ((16 : Int32).toUInt32 &&& Int32.toUInt32 31)).toInt32).toInt8.toInt32))) (2 : Int32).toNatClampNeg (vp_nar .byte ((((p_0).toUInt32 >>> ((8 : Int32).toUInt32 &&& Int32.toUInt32 31)).toInt32).toInt8.toInt32)))))] := hD
  refine lv_aload_n hx hb d_Tp_append_57 rfl (lv_at hl 0 rfl) ?_
  refine va_get (D := (dC, dI)) (ci := 4) (v := .ref h_1) (C := R_Tp) (T := F_Tp) (N := 6) hx hb htb i_Tp hown hK hP 0 rfl rfl 0 (by decide) (htb (.fieldLink R_Tp 9 "WaterMen$Tape" "bytes" "[B") tw_94) (fun _ h9 => h9) rfl d_Tp_append_58 ?_
  refine lv_aload_n hx hb d_Tp_append_61 rfl (lv_at hl 0 rfl) ?_
  refine va_get (D := (dC, dI)) (ci := 4) (v := .int 0) (C := R_Tp) (T := F_Tp) (N := 6) hx hb htb i_Tp hown hK hP 0 rfl rfl 1 (by decide) (htb (.fieldLink R_Tp 15 "WaterMen$Tape" "length" "I") tw_88) (fun _ h9 => h9) rfl d_Tp_append_62 ?_
  refine lv_iconst (v := 3) hx hb d_Tp_append_65 (by decide +kernel) ?_
  refine lv_iadd hx hb d_Tp_append_66 ?_
  refine hb_ti 3 (by decide +kernel) ?_
  refine lv_iload_n hx hb d_Tp_append_67 rfl (lv_at hl 1 rfl) ?_
  refine lv_i2b hx hb d_Tp_append_68 rfl ?_
  refine va_bast hx hb hK hP hD hS 1 0 rfl rfl (by unfold vp_in; decide +kernel) d_Tp_append_69 (fun H locs hP hD hS => ?_)
  have hP : va_P (dC, dI) vwCl [(h_0, .inr (4, [.ref h_1, .int 0, .int 0, .int 0, .int 0, .int 0])), (h_1, .inl (kk_1, 400, .inl (upd (upd (upd (upd (fun _ => 0) (0 : Int32).toNatClampNeg (vp_nar .byte ((((p_0).toUInt32 >>> ((24 : Int32).toUInt32 &&& Int32.toUInt32 31)).toInt32).toInt8.toInt32))) (1 : Int32).toNatClampNeg (vp_nar .byte ((((p_0).toUInt32 >>> ((16 : Int32).toUInt32 &&& Int32.toUInt32 31)).toInt32).toInt8.toInt32))) (2 : Int32).toNatClampNeg (vp_nar .byte ((((p_0).toUInt32 >>> ((8 : Int32).toUInt32 &&& Int32.toUInt32 31)).toInt32).toInt8.toInt32))) (3 : Int32).toNatClampNeg (vp_nar .byte ((p_0).toInt8.toInt32)))))] H := hP
  have hD : va_D A [(h_0, .inr (4, [.ref h_1, .int 0, .int 0, .int 0, .int 0, .int 0])), (h_1, .inl (kk_1, 400, .inl (upd (upd (upd (upd (fun _ => 0) (0 : Int32).toNatClampNeg (vp_nar .byte ((((p_0).toUInt32 >>> ((24 : Int32).toUInt32 &&& Int32.toUInt32 31)).toInt32).toInt8.toInt32))) (1 : Int32).toNatClampNeg (vp_nar .byte ((((p_0).toUInt32 >>> ((16 : Int32).toUInt32 &&& Int32.toUInt32 31)).toInt32).toInt8.toInt32))) (2 : Int32).toNatClampNeg (vp_nar .byte ((((p_0).toUInt32 >>> ((8 : Int32).toUInt32 &&& Int32.toUInt32 31)).toInt32).toInt8.toInt32))) (3 : Int32).toNatClampNeg (vp_nar .byte ((p_0).toInt8.toInt32)))))] := hD
  refine lv_aload_n hx hb d_Tp_append_70 rfl (lv_at hl 0 rfl) ?_
  refine lv_dup hx hb d_Tp_append_71 rfl ?_
  refine va_get (D := (dC, dI)) (ci := 4) (v := .int 0) (C := R_Tp) (T := F_Tp) (N := 6) hx hb htb i_Tp hown hK hP 0 rfl rfl 1 (by decide) (htb (.fieldLink R_Tp 15 "WaterMen$Tape" "length" "I") tw_88) (fun _ h9 => h9) rfl d_Tp_append_72 ?_
  refine lv_iconst (v := 4) hx hb d_Tp_append_75 (by decide +kernel) ?_
  refine lv_iadd hx hb d_Tp_append_76 ?_
  refine hb_ti 4 (by decide +kernel) ?_
  refine va_put (D := (dC, dI)) (ci := 4) (v := .int 4) (ty := .int) (C := R_Tp) (T := F_Tp) (N := 6) hx hb htb i_Tp t_Tp t_Tp_ok n_Tp hown hK hP hD hS 0 rfl rfl 1 (by decide) (htb (.fieldLink R_Tp 15 "WaterMen$Tape" "length" "I") tw_88) (fun _ h9 => h9) rfl (by decide +kernel) rfl rfl (Nat.le_of_ble_eq_true rfl) d_Tp_append_77 (fun H locs hP hD hS => ?_)
  have hP : va_P (dC, dI) vwCl [(h_0, .inr (4, [.ref h_1, .int 4, .int 0, .int 0, .int 0, .int 0])), (h_1, .inl (kk_1, 400, .inl (upd (upd (upd (upd (fun _ => 0) (0 : Int32).toNatClampNeg (vp_nar .byte ((((p_0).toUInt32 >>> ((24 : Int32).toUInt32 &&& Int32.toUInt32 31)).toInt32).toInt8.toInt32))) (1 : Int32).toNatClampNeg (vp_nar .byte ((((p_0).toUInt32 >>> ((16 : Int32).toUInt32 &&& Int32.toUInt32 31)).toInt32).toInt8.toInt32))) (2 : Int32).toNatClampNeg (vp_nar .byte ((((p_0).toUInt32 >>> ((8 : Int32).toUInt32 &&& Int32.toUInt32 31)).toInt32).toInt8.toInt32))) (3 : Int32).toNatClampNeg (vp_nar .byte ((p_0).toInt8.toInt32)))))] H := hP
  have hD : va_D A [(h_0, .inr (4, [.ref h_1, .int 4, .int 0, .int 0, .int 0, .int 0])), (h_1, .inl (kk_1, 400, .inl (upd (upd (upd (upd (fun _ => 0) (0 : Int32).toNatClampNeg (vp_nar .byte ((((p_0).toUInt32 >>> ((24 : Int32).toUInt32 &&& Int32.toUInt32 31)).toInt32).toInt8.toInt32))) (1 : Int32).toNatClampNeg (vp_nar .byte ((((p_0).toUInt32 >>> ((16 : Int32).toUInt32 &&& Int32.toUInt32 31)).toInt32).toInt8.toInt32))) (2 : Int32).toNatClampNeg (vp_nar .byte ((((p_0).toUInt32 >>> ((8 : Int32).toUInt32 &&& Int32.toUInt32 31)).toInt32).toInt8.toInt32))) (3 : Int32).toNatClampNeg (vp_nar .byte ((p_0).toInt8.toInt32)))))] := hD
  refine W.widen (k := 0) (n := 0) (Nat.le_of_ble_eq_true rfl) (Nat.le_of_ble_eq_true rfl) ?_
  exact W.vret hx hb hr (fun t ht hW => ⟨⟨(), rfl, trivial, upd (upd (upd (upd (fun _ => 0) (0 : Int32).toNatClampNeg (vp_nar .byte ((((p_0).toUInt32 >>> ((24 : Int32).toUInt32 &&& Int32.toUInt32 31)).toInt32).toInt8.toInt32))) (1 : Int32).toNatClampNeg (vp_nar .byte ((((p_0).toUInt32 >>> ((16 : Int32).toUInt32 &&& Int32.toUInt32 31)).toInt32).toInt8.toInt32))) (2 : Int32).toNatClampNeg (vp_nar .byte ((((p_0).toUInt32 >>> ((8 : Int32).toUInt32 &&& Int32.toUInt32 31)).toInt32).toInt8.toInt32))) (3 : Int32).toNatClampNeg (vp_nar .byte ((p_0).toInt8.toInt32)), by rw [ht]; exact hP, va_K.moved hW.alike hK, by rw [hAe]; exact hD⟩, by rw [hAe]; exact hS.F ht⟩) (by rw [hAe]; exact hS.2.2) d_Tp_append_80
set_option maxHeartbeats 4000000 in
set_option maxRecDepth 100000 in
theorem c_Tp_append_c1 (l : Launch) (dC : Nat → ClassId) (dI : Nat → Nat → Nat) (h_0 h_1 : Nat) (kk_1 : ClassId) (gg_1 : Nat → Int32) (sz : Nat) (p_0 : Int32)  : Met l y_Tp_append (.code y_Tp_append b_Tp_append 2 none :: TB) ({ frames := 0, cells := 0, slots := 0, locals := 0 }) (va_Pc [.ref h_0, .int p_0] (PC dC dI [(h_0, .inr (4, [.ref h_1, .int 4, .int 0, .int 0, .int 0, .int 0])), (h_1, .inl (kk_1, 400, .inl gg_1))] [(kk_1, .byte)] sz)) (va_Qv (fun (_ : Unit) => True) (fun (_ : Unit) t => ∃ (g_1 : Nat → Int32) , va_P (dC, dI) vwCl [(h_0, .inr (4, [.ref h_1, .int 8, .int 0, .int 0, .int 0, .int 0])), (h_1, .inl (kk_1, 400, .inl g_1))] t.heap ∧ va_K (dC, dI) vwCl [(kk_1, .byte)] t ∧ va_D (va_A [(h_0, .inr (4, [.ref h_1, .int 4, .int 0, .int 0, .int 0, .int 0])), (h_1, .inl (kk_1, 400, .inl gg_1))] sz) [(h_0, .inr (4, [.ref h_1, .int 8, .int 0, .int 0, .int 0, .int 0])), (h_1, .inl (kk_1, 400, .inl g_1))]) (va_A [(h_0, .inr (4, [.ref h_1, .int 4, .int 0, .int 0, .int 0, .int 0])), (h_1, .inl (kk_1, 400, .inl gg_1))] sz)) 0 0 (va_A [(h_0, .inr (4, [.ref h_1, .int 4, .int 0, .int 0, .int 0, .int 0])), (h_1, .inl (kk_1, 400, .inl gg_1))] sz) := by
  refine Met.ofW (cc := b_Tp_append) (maxL := 2) (ret := none) (by decide) rfl ?_
  intro p e s m args below meth c s₁ B hml hv
  obtain ⟨rfl, hsz, hP, hK, hD0, hN⟩ := hv
  have hx := B.exec
  have hb := B.bytes
  have hr := B.returns
  have hts := atoms_spec (ws := (.code y_Tp_append b_Tp_append 2 none :: TB)) B.pre
  have htb := fun w (h : w ∈ TB) => hts w (List.mem_cons_of_mem _ h)
  have hown : s.vm.findClass R_Tp = some m.cls := findClass_of_methodNamed B.named
  have hlocks := B.notSynchronized
  have hl := lv_entry ([.ref h_0, .int p_0]) (n := 2) (Nat.le_of_ble_eq_true rfl)
  rw [lg_entry_eq]
  generalize (lg_sl ([.ref h_0, .int p_0]) ++ List.replicate (2 - (lg_sl ([.ref h_0, .int p_0])).length) Slot.unset).toArray = ls at hl ⊢
  have hl : lv_has ls 2 [(0, .ref h_0), (1, .int p_0)] := hl
  subst hsz
  have hD := hD0.self (sz := s.heap.size)
  obtain ⟨A, hAe⟩ : ∃ A, va_A [(h_0, .inr (4, [.ref h_1, .int 4, .int 0, .int 0, .int 0, .int 0])), (h_1, .inl (kk_1, 400, .inl gg_1))] s.heap.size = A := ⟨_, rfl⟩
  rw [hAe] at hD
  have hA : ∀ q : Nat, s.heap.size ≤ q → A q := fun q h => by rw [← hAe]; exact Or.inr h
  have hS : va_S A s.heap s.heap [] := va_S.rf
  have hP := hP
  refine lv_aload_n hx hb d_Tp_append_0 rfl (lv_at hl 0 rfl) ?_
  refine va_get (D := (dC, dI)) (ci := 4) (v := .int 4) (C := R_Tp) (T := F_Tp) (N := 6) hx hb htb i_Tp hown hK hP 0 rfl rfl 1 (by decide) (htb (.fieldLink R_Tp 15 "WaterMen$Tape" "length" "I") tw_88) (fun _ h9 => h9) rfl d_Tp_append_1 ?_
  refine lv_sipush (v := 396) hx hb d_Tp_append_4 (by decide +kernel) ?_
  refine lv_icmp_le (tgt := 11) hx hb d_Tp_append_7 (by decide) (fun _ => ?_) (fun h => absurd (by decide +kernel) h)
  refine lv_aload_n hx hb d_Tp_append_11 rfl (lv_at hl 0 rfl) ?_
  refine va_get (D := (dC, dI)) (ci := 4) (v := .ref h_1) (C := R_Tp) (T := F_Tp) (N := 6) hx hb htb i_Tp hown hK hP 0 rfl rfl 0 (by decide) (htb (.fieldLink R_Tp 9 "WaterMen$Tape" "bytes" "[B") tw_94) (fun _ h9 => h9) rfl d_Tp_append_12 ?_
  refine lv_aload_n hx hb d_Tp_append_15 rfl (lv_at hl 0 rfl) ?_
  refine va_get (D := (dC, dI)) (ci := 4) (v := .int 4) (C := R_Tp) (T := F_Tp) (N := 6) hx hb htb i_Tp hown hK hP 0 rfl rfl 1 (by decide) (htb (.fieldLink R_Tp 15 "WaterMen$Tape" "length" "I") tw_88) (fun _ h9 => h9) rfl d_Tp_append_16 ?_
  refine lv_iload_n hx hb d_Tp_append_19 rfl (lv_at hl 1 rfl) ?_
  refine lv_bipush (v := 24) hx hb d_Tp_append_20 (by decide +kernel) ?_
  refine lv_iushr hx hb d_Tp_append_22 rfl ?_
  refine lv_i2b hx hb d_Tp_append_23 rfl ?_
  refine va_bast hx hb hK hP hD hS 1 0 rfl rfl (by unfold vp_in; decide +kernel) d_Tp_append_24 (fun H locs hP hD hS => ?_)
  have hP : va_P (dC, dI) vwCl [(h_0, .inr (4, [.ref h_1, .int 4, .int 0, .int 0, .int 0, .int 0])), (h_1, .inl (kk_1, 400, .inl (upd gg_1 (4 : Int32).toNatClampNeg (vp_nar .byte ((((p_0).toUInt32 >>> ((24 : Int32).toUInt32 &&& Int32.toUInt32 31)).toInt32).toInt8.toInt32)))))] H := hP
  have hD : va_D A [(h_0, .inr (4, [.ref h_1, .int 4, .int 0, .int 0, .int 0, .int 0])), (h_1, .inl (kk_1, 400, .inl (upd gg_1 (4 : Int32).toNatClampNeg (vp_nar .byte ((((p_0).toUInt32 >>> ((24 : Int32).toUInt32 &&& Int32.toUInt32 31)).toInt32).toInt8.toInt32)))))] := hD
  refine lv_aload_n hx hb d_Tp_append_25 rfl (lv_at hl 0 rfl) ?_
  refine va_get (D := (dC, dI)) (ci := 4) (v := .ref h_1) (C := R_Tp) (T := F_Tp) (N := 6) hx hb htb i_Tp hown hK hP 0 rfl rfl 0 (by decide) (htb (.fieldLink R_Tp 9 "WaterMen$Tape" "bytes" "[B") tw_94) (fun _ h9 => h9) rfl d_Tp_append_26 ?_
  refine lv_aload_n hx hb d_Tp_append_29 rfl (lv_at hl 0 rfl) ?_
  refine va_get (D := (dC, dI)) (ci := 4) (v := .int 4) (C := R_Tp) (T := F_Tp) (N := 6) hx hb htb i_Tp hown hK hP 0 rfl rfl 1 (by decide) (htb (.fieldLink R_Tp 15 "WaterMen$Tape" "length" "I") tw_88) (fun _ h9 => h9) rfl d_Tp_append_30 ?_
  refine lv_iconst (v := 1) hx hb d_Tp_append_33 (by decide +kernel) ?_
  refine lv_iadd hx hb d_Tp_append_34 ?_
  refine hb_ti 5 (by decide +kernel) ?_
  refine lv_iload_n hx hb d_Tp_append_35 rfl (lv_at hl 1 rfl) ?_
  refine lv_bipush (v := 16) hx hb d_Tp_append_36 (by decide +kernel) ?_
  refine lv_iushr hx hb d_Tp_append_38 rfl ?_
  refine lv_i2b hx hb d_Tp_append_39 rfl ?_
  refine va_bast hx hb hK hP hD hS 1 0 rfl rfl (by unfold vp_in; decide +kernel) d_Tp_append_40 (fun H locs hP hD hS => ?_)
  have hP : va_P (dC, dI) vwCl [(h_0, .inr (4, [.ref h_1, .int 4, .int 0, .int 0, .int 0, .int 0])), (h_1, .inl (kk_1, 400, .inl (upd (upd gg_1 (4 : Int32).toNatClampNeg (vp_nar .byte ((((p_0).toUInt32 >>> ((24 : Int32).toUInt32 &&& Int32.toUInt32 31)).toInt32).toInt8.toInt32))) (5 : Int32).toNatClampNeg (vp_nar .byte ((((p_0).toUInt32 >>> ((16 : Int32).toUInt32 &&& Int32.toUInt32 31)).toInt32).toInt8.toInt32)))))] H := hP
  have hD : va_D A [(h_0, .inr (4, [.ref h_1, .int 4, .int 0, .int 0, .int 0, .int 0])), (h_1, .inl (kk_1, 400, .inl (upd (upd gg_1 (4 : Int32).toNatClampNeg (vp_nar .byte ((((p_0).toUInt32 >>> ((24 : Int32).toUInt32 &&& Int32.toUInt32 31)).toInt32).toInt8.toInt32))) (5 : Int32).toNatClampNeg (vp_nar .byte ((((p_0).toUInt32 >>> ((16 : Int32).toUInt32 &&& Int32.toUInt32 31)).toInt32).toInt8.toInt32)))))] := hD
  refine lv_aload_n hx hb d_Tp_append_41 rfl (lv_at hl 0 rfl) ?_
  refine va_get (D := (dC, dI)) (ci := 4) (v := .ref h_1) (C := R_Tp) (T := F_Tp) (N := 6) hx hb htb i_Tp hown hK hP 0 rfl rfl 0 (by decide) (htb (.fieldLink R_Tp 9 "WaterMen$Tape" "bytes" "[B") tw_94) (fun _ h9 => h9) rfl d_Tp_append_42 ?_
  refine lv_aload_n hx hb d_Tp_append_45 rfl (lv_at hl 0 rfl) ?_
  refine va_get (D := (dC, dI)) (ci := 4) (v := .int 4) (C := R_Tp) (T := F_Tp) (N := 6) hx hb htb i_Tp hown hK hP 0 rfl rfl 1 (by decide) (htb (.fieldLink R_Tp 15 "WaterMen$Tape" "length" "I") tw_88) (fun _ h9 => h9) rfl d_Tp_append_46 ?_
  refine lv_iconst (v := 2) hx hb d_Tp_append_49 (by decide +kernel) ?_
  refine lv_iadd hx hb d_Tp_append_50 ?_
  refine hb_ti 6 (by decide +kernel) ?_
  refine lv_iload_n hx hb d_Tp_append_51 rfl (lv_at hl 1 rfl) ?_
  refine lv_bipush (v := 8) hx hb d_Tp_append_52 (by decide +kernel) ?_
  refine lv_iushr hx hb d_Tp_append_54 rfl ?_
  refine lv_i2b hx hb d_Tp_append_55 rfl ?_
  refine va_bast hx hb hK hP hD hS 1 0 rfl rfl (by unfold vp_in; decide +kernel) d_Tp_append_56 (fun H locs hP hD hS => ?_)
  have hP : va_P (dC, dI) vwCl [(h_0, .inr (4, [.ref h_1, .int 4, .int 0, .int 0, .int 0, .int 0])), (h_1, .inl (kk_1, 400, .inl (upd (upd (upd gg_1 (4 : Int32).toNatClampNeg (vp_nar .byte ((((p_0).toUInt32 >>> ((24 : Int32).toUInt32 &&& Int32.toUInt32 31)).toInt32).toInt8.toInt32))) (5 : Int32).toNatClampNeg (vp_nar .byte ((((p_0).toUInt32 >>> ((16 : Int32).toUInt32 &&& Int32.toUInt32 31)).toInt32).toInt8.toInt32))) (6 : Int32).toNatClampNeg (vp_nar .byte ((((p_0).toUInt32 >>> ((8 : Int32).toUInt32 &&& Int32.toUInt32 31)).toInt32).toInt8.toInt32)))))] H := hP
  have hD : va_D A [(h_0, .inr (4, [.ref h_1, .int 4, .int 0, .int 0, .int 0, .int 0])), (h_1, .inl (kk_1, 400, .inl (upd (upd (upd gg_1 (4 : Int32).toNatClampNeg (vp_nar .byte ((((p_0).toUInt32 >>> ((24 : Int32).toUInt32 &&& Int32.toUInt32 31)).toInt32).toInt8.toInt32))) (5 : Int32).toNatClampNeg (vp_nar .byte ((((p_0).toUInt32 >>> ((16 : Int32).toUInt32 &&& Int32.toUInt32 31)).toInt32).toInt8.toInt32))) (6 : Int32).toNatClampNeg (vp_nar .byte ((((p_0).toUInt32 >>> ((8 : Int32).toUInt32 &&& Int32.toUInt32 31)).toInt32).toInt8.toInt32)))))] := hD
  refine lv_aload_n hx hb d_Tp_append_57 rfl (lv_at hl 0 rfl) ?_
  refine va_get (D := (dC, dI)) (ci := 4) (v := .ref h_1) (C := R_Tp) (T := F_Tp) (N := 6) hx hb htb i_Tp hown hK hP 0 rfl rfl 0 (by decide) (htb (.fieldLink R_Tp 9 "WaterMen$Tape" "bytes" "[B") tw_94) (fun _ h9 => h9) rfl d_Tp_append_58 ?_
  refine lv_aload_n hx hb d_Tp_append_61 rfl (lv_at hl 0 rfl) ?_
  refine va_get (D := (dC, dI)) (ci := 4) (v := .int 4) (C := R_Tp) (T := F_Tp) (N := 6) hx hb htb i_Tp hown hK hP 0 rfl rfl 1 (by decide) (htb (.fieldLink R_Tp 15 "WaterMen$Tape" "length" "I") tw_88) (fun _ h9 => h9) rfl d_Tp_append_62 ?_
  refine lv_iconst (v := 3) hx hb d_Tp_append_65 (by decide +kernel) ?_
  refine lv_iadd hx hb d_Tp_append_66 ?_
  refine hb_ti 7 (by decide +kernel) ?_
  refine lv_iload_n hx hb d_Tp_append_67 rfl (lv_at hl 1 rfl) ?_
  refine lv_i2b hx hb d_Tp_append_68 rfl ?_
  refine va_bast hx hb hK hP hD hS 1 0 rfl rfl (by unfold vp_in; decide +kernel) d_Tp_append_69 (fun H locs hP hD hS => ?_)
  have hP : va_P (dC, dI) vwCl [(h_0, .inr (4, [.ref h_1, .int 4, .int 0, .int 0, .int 0, .int 0])), (h_1, .inl (kk_1, 400, .inl (upd (upd (upd (upd gg_1 (4 : Int32).toNatClampNeg (vp_nar .byte ((((p_0).toUInt32 >>> ((24 : Int32).toUInt32 &&& Int32.toUInt32 31)).toInt32).toInt8.toInt32))) (5 : Int32).toNatClampNeg (vp_nar .byte ((((p_0).toUInt32 >>> ((16 : Int32).toUInt32 &&& Int32.toUInt32 31)).toInt32).toInt8.toInt32))) (6 : Int32).toNatClampNeg (vp_nar .byte ((((p_0).toUInt32 >>> ((8 : Int32).toUInt32 &&& Int32.toUInt32 31)).toInt32).toInt8.toInt32))) (7 : Int32).toNatClampNeg (vp_nar .byte ((p_0).toInt8.toInt32)))))] H := hP
  have hD : va_D A [(h_0, .inr (4, [.ref h_1, .int 4, .int 0, .int 0, .int 0, .int 0])), (h_1, .inl (kk_1, 400, .inl (upd (upd (upd (upd gg_1 (4 : Int32).toNatClampNeg (vp_nar .byte ((((p_0).toUInt32 >>> ((24 : Int32).toUInt32 &&& Int32.toUInt32 31)).toInt32).toInt8.toInt32))) (5 : Int32).toNatClampNeg (vp_nar .byte ((((p_0).toUInt32 >>> ((16 : Int32).toUInt32 &&& Int32.toUInt32 31)).toInt32).toInt8.toInt32))) (6 : Int32).toNatClampNeg (vp_nar .byte ((((p_0).toUInt32 >>> ((8 : Int32).toUInt32 &&& Int32.toUInt32 31)).toInt32).toInt8.toInt32))) (7 : Int32).toNatClampNeg (vp_nar .byte ((p_0).toInt8.toInt32)))))] := hD
  refine lv_aload_n hx hb d_Tp_append_70 rfl (lv_at hl 0 rfl) ?_
  refine lv_dup hx hb d_Tp_append_71 rfl ?_
  refine va_get (D := (dC, dI)) (ci := 4) (v := .int 4) (C := R_Tp) (T := F_Tp) (N := 6) hx hb htb i_Tp hown hK hP 0 rfl rfl 1 (by decide) (htb (.fieldLink R_Tp 15 "WaterMen$Tape" "length" "I") tw_88) (fun _ h9 => h9) rfl d_Tp_append_72 ?_
  refine lv_iconst (v := 4) hx hb d_Tp_append_75 (by decide +kernel) ?_
  refine lv_iadd hx hb d_Tp_append_76 ?_
  refine hb_ti 8 (by decide +kernel) ?_
  refine va_put (D := (dC, dI)) (ci := 4) (v := .int 8) (ty := .int) (C := R_Tp) (T := F_Tp) (N := 6) hx hb htb i_Tp t_Tp t_Tp_ok n_Tp hown hK hP hD hS 0 rfl rfl 1 (by decide) (htb (.fieldLink R_Tp 15 "WaterMen$Tape" "length" "I") tw_88) (fun _ h9 => h9) rfl (by decide +kernel) rfl rfl (Nat.le_of_ble_eq_true rfl) d_Tp_append_77 (fun H locs hP hD hS => ?_)
  have hP : va_P (dC, dI) vwCl [(h_0, .inr (4, [.ref h_1, .int 8, .int 0, .int 0, .int 0, .int 0])), (h_1, .inl (kk_1, 400, .inl (upd (upd (upd (upd gg_1 (4 : Int32).toNatClampNeg (vp_nar .byte ((((p_0).toUInt32 >>> ((24 : Int32).toUInt32 &&& Int32.toUInt32 31)).toInt32).toInt8.toInt32))) (5 : Int32).toNatClampNeg (vp_nar .byte ((((p_0).toUInt32 >>> ((16 : Int32).toUInt32 &&& Int32.toUInt32 31)).toInt32).toInt8.toInt32))) (6 : Int32).toNatClampNeg (vp_nar .byte ((((p_0).toUInt32 >>> ((8 : Int32).toUInt32 &&& Int32.toUInt32 31)).toInt32).toInt8.toInt32))) (7 : Int32).toNatClampNeg (vp_nar .byte ((p_0).toInt8.toInt32)))))] H := hP
  have hD : va_D A [(h_0, .inr (4, [.ref h_1, .int 8, .int 0, .int 0, .int 0, .int 0])), (h_1, .inl (kk_1, 400, .inl (upd (upd (upd (upd gg_1 (4 : Int32).toNatClampNeg (vp_nar .byte ((((p_0).toUInt32 >>> ((24 : Int32).toUInt32 &&& Int32.toUInt32 31)).toInt32).toInt8.toInt32))) (5 : Int32).toNatClampNeg (vp_nar .byte ((((p_0).toUInt32 >>> ((16 : Int32).toUInt32 &&& Int32.toUInt32 31)).toInt32).toInt8.toInt32))) (6 : Int32).toNatClampNeg (vp_nar .byte ((((p_0).toUInt32 >>> ((8 : Int32).toUInt32 &&& Int32.toUInt32 31)).toInt32).toInt8.toInt32))) (7 : Int32).toNatClampNeg (vp_nar .byte ((p_0).toInt8.toInt32)))))] := hD
  refine W.widen (k := 0) (n := 0) (Nat.le_of_ble_eq_true rfl) (Nat.le_of_ble_eq_true rfl) ?_
  exact W.vret hx hb hr (fun t ht hW => ⟨⟨(), rfl, trivial, upd (upd (upd (upd gg_1 (4 : Int32).toNatClampNeg (vp_nar .byte ((((p_0).toUInt32 >>> ((24 : Int32).toUInt32 &&& Int32.toUInt32 31)).toInt32).toInt8.toInt32))) (5 : Int32).toNatClampNeg (vp_nar .byte ((((p_0).toUInt32 >>> ((16 : Int32).toUInt32 &&& Int32.toUInt32 31)).toInt32).toInt8.toInt32))) (6 : Int32).toNatClampNeg (vp_nar .byte ((((p_0).toUInt32 >>> ((8 : Int32).toUInt32 &&& Int32.toUInt32 31)).toInt32).toInt8.toInt32))) (7 : Int32).toNatClampNeg (vp_nar .byte ((p_0).toInt8.toInt32)), by rw [ht]; exact hP, va_K.moved hW.alike hK, by rw [hAe]; exact hD⟩, by rw [hAe]; exact hS.F ht⟩) (by rw [hAe]; exact hS.2.2) d_Tp_append_80
set_option maxHeartbeats 4000000 in
set_option maxRecDepth 100000 in
theorem c_Tp_append_c2 (l : Launch) (dC : Nat → ClassId) (dI : Nat → Nat → Nat) (h_0 h_1 : Nat) (kk_1 : ClassId) (gg_1 : Nat → Int32) (sz : Nat) (p_0 : Int32)  : Met l y_Tp_append (.code y_Tp_append b_Tp_append 2 none :: TB) ({ frames := 0, cells := 0, slots := 0, locals := 0 }) (va_Pc [.ref h_0, .int p_0] (PC dC dI [(h_0, .inr (4, [.ref h_1, .int 8, .int 0, .int 0, .int 0, .int 0])), (h_1, .inl (kk_1, 400, .inl gg_1))] [(kk_1, .byte)] sz)) (va_Qv (fun (_ : Unit) => True) (fun (_ : Unit) t => ∃ (g_1 : Nat → Int32) , va_P (dC, dI) vwCl [(h_0, .inr (4, [.ref h_1, .int 12, .int 0, .int 0, .int 0, .int 0])), (h_1, .inl (kk_1, 400, .inl g_1))] t.heap ∧ va_K (dC, dI) vwCl [(kk_1, .byte)] t ∧ va_D (va_A [(h_0, .inr (4, [.ref h_1, .int 8, .int 0, .int 0, .int 0, .int 0])), (h_1, .inl (kk_1, 400, .inl gg_1))] sz) [(h_0, .inr (4, [.ref h_1, .int 12, .int 0, .int 0, .int 0, .int 0])), (h_1, .inl (kk_1, 400, .inl g_1))]) (va_A [(h_0, .inr (4, [.ref h_1, .int 8, .int 0, .int 0, .int 0, .int 0])), (h_1, .inl (kk_1, 400, .inl gg_1))] sz)) 0 0 (va_A [(h_0, .inr (4, [.ref h_1, .int 8, .int 0, .int 0, .int 0, .int 0])), (h_1, .inl (kk_1, 400, .inl gg_1))] sz) := by
  refine Met.ofW (cc := b_Tp_append) (maxL := 2) (ret := none) (by decide) rfl ?_
  intro p e s m args below meth c s₁ B hml hv
  obtain ⟨rfl, hsz, hP, hK, hD0, hN⟩ := hv
  have hx := B.exec
  have hb := B.bytes
  have hr := B.returns
  have hts := atoms_spec (ws := (.code y_Tp_append b_Tp_append 2 none :: TB)) B.pre
  have htb := fun w (h : w ∈ TB) => hts w (List.mem_cons_of_mem _ h)
  have hown : s.vm.findClass R_Tp = some m.cls := findClass_of_methodNamed B.named
  have hlocks := B.notSynchronized
  have hl := lv_entry ([.ref h_0, .int p_0]) (n := 2) (Nat.le_of_ble_eq_true rfl)
  rw [lg_entry_eq]
  generalize (lg_sl ([.ref h_0, .int p_0]) ++ List.replicate (2 - (lg_sl ([.ref h_0, .int p_0])).length) Slot.unset).toArray = ls at hl ⊢
  have hl : lv_has ls 2 [(0, .ref h_0), (1, .int p_0)] := hl
  subst hsz
  have hD := hD0.self (sz := s.heap.size)
  obtain ⟨A, hAe⟩ : ∃ A, va_A [(h_0, .inr (4, [.ref h_1, .int 8, .int 0, .int 0, .int 0, .int 0])), (h_1, .inl (kk_1, 400, .inl gg_1))] s.heap.size = A := ⟨_, rfl⟩
  rw [hAe] at hD
  have hA : ∀ q : Nat, s.heap.size ≤ q → A q := fun q h => by rw [← hAe]; exact Or.inr h
  have hS : va_S A s.heap s.heap [] := va_S.rf
  have hP := hP
  refine lv_aload_n hx hb d_Tp_append_0 rfl (lv_at hl 0 rfl) ?_
  refine va_get (D := (dC, dI)) (ci := 4) (v := .int 8) (C := R_Tp) (T := F_Tp) (N := 6) hx hb htb i_Tp hown hK hP 0 rfl rfl 1 (by decide) (htb (.fieldLink R_Tp 15 "WaterMen$Tape" "length" "I") tw_88) (fun _ h9 => h9) rfl d_Tp_append_1 ?_
  refine lv_sipush (v := 396) hx hb d_Tp_append_4 (by decide +kernel) ?_
  refine lv_icmp_le (tgt := 11) hx hb d_Tp_append_7 (by decide) (fun _ => ?_) (fun h => absurd (by decide +kernel) h)
  refine lv_aload_n hx hb d_Tp_append_11 rfl (lv_at hl 0 rfl) ?_
  refine va_get (D := (dC, dI)) (ci := 4) (v := .ref h_1) (C := R_Tp) (T := F_Tp) (N := 6) hx hb htb i_Tp hown hK hP 0 rfl rfl 0 (by decide) (htb (.fieldLink R_Tp 9 "WaterMen$Tape" "bytes" "[B") tw_94) (fun _ h9 => h9) rfl d_Tp_append_12 ?_
  refine lv_aload_n hx hb d_Tp_append_15 rfl (lv_at hl 0 rfl) ?_
  refine va_get (D := (dC, dI)) (ci := 4) (v := .int 8) (C := R_Tp) (T := F_Tp) (N := 6) hx hb htb i_Tp hown hK hP 0 rfl rfl 1 (by decide) (htb (.fieldLink R_Tp 15 "WaterMen$Tape" "length" "I") tw_88) (fun _ h9 => h9) rfl d_Tp_append_16 ?_
  refine lv_iload_n hx hb d_Tp_append_19 rfl (lv_at hl 1 rfl) ?_
  refine lv_bipush (v := 24) hx hb d_Tp_append_20 (by decide +kernel) ?_
  refine lv_iushr hx hb d_Tp_append_22 rfl ?_
  refine lv_i2b hx hb d_Tp_append_23 rfl ?_
  refine va_bast hx hb hK hP hD hS 1 0 rfl rfl (by unfold vp_in; decide +kernel) d_Tp_append_24 (fun H locs hP hD hS => ?_)
  have hP : va_P (dC, dI) vwCl [(h_0, .inr (4, [.ref h_1, .int 8, .int 0, .int 0, .int 0, .int 0])), (h_1, .inl (kk_1, 400, .inl (upd gg_1 (8 : Int32).toNatClampNeg (vp_nar .byte ((((p_0).toUInt32 >>> ((24 : Int32).toUInt32 &&& Int32.toUInt32 31)).toInt32).toInt8.toInt32)))))] H := hP
  have hD : va_D A [(h_0, .inr (4, [.ref h_1, .int 8, .int 0, .int 0, .int 0, .int 0])), (h_1, .inl (kk_1, 400, .inl (upd gg_1 (8 : Int32).toNatClampNeg (vp_nar .byte ((((p_0).toUInt32 >>> ((24 : Int32).toUInt32 &&& Int32.toUInt32 31)).toInt32).toInt8.toInt32)))))] := hD
  refine lv_aload_n hx hb d_Tp_append_25 rfl (lv_at hl 0 rfl) ?_
  refine va_get (D := (dC, dI)) (ci := 4) (v := .ref h_1) (C := R_Tp) (T := F_Tp) (N := 6) hx hb htb i_Tp hown hK hP 0 rfl rfl 0 (by decide) (htb (.fieldLink R_Tp 9 "WaterMen$Tape" "bytes" "[B") tw_94) (fun _ h9 => h9) rfl d_Tp_append_26 ?_
  refine lv_aload_n hx hb d_Tp_append_29 rfl (lv_at hl 0 rfl) ?_
  refine va_get (D := (dC, dI)) (ci := 4) (v := .int 8) (C := R_Tp) (T := F_Tp) (N := 6) hx hb htb i_Tp hown hK hP 0 rfl rfl 1 (by decide) (htb (.fieldLink R_Tp 15 "WaterMen$Tape" "length" "I") tw_88) (fun _ h9 => h9) rfl d_Tp_append_30 ?_
  refine lv_iconst (v := 1) hx hb d_Tp_append_33 (by decide +kernel) ?_
  refine lv_iadd hx hb d_Tp_append_34 ?_
  refine hb_ti 9 (by decide +kernel) ?_
  refine lv_iload_n hx hb d_Tp_append_35 rfl (lv_at hl 1 rfl) ?_
  refine lv_bipush (v := 16) hx hb d_Tp_append_36 (by decide +kernel) ?_
  refine lv_iushr hx hb d_Tp_append_38 rfl ?_
  refine lv_i2b hx hb d_Tp_append_39 rfl ?_
  refine va_bast hx hb hK hP hD hS 1 0 rfl rfl (by unfold vp_in; decide +kernel) d_Tp_append_40 (fun H locs hP hD hS => ?_)
  have hP : va_P (dC, dI) vwCl [(h_0, .inr (4, [.ref h_1, .int 8, .int 0, .int 0, .int 0, .int 0])), (h_1, .inl (kk_1, 400, .inl (upd (upd gg_1 (8 : Int32).toNatClampNeg (vp_nar .byte ((((p_0).toUInt32 >>> ((24 : Int32).toUInt32 &&& Int32.toUInt32 31)).toInt32).toInt8.toInt32))) (9 : Int32).toNatClampNeg (vp_nar .byte ((((p_0).toUInt32 >>> ((16 : Int32).toUInt32 &&& Int32.toUInt32 31)).toInt32).toInt8.toInt32)))))] H := hP
  have hD : va_D A [(h_0, .inr (4, [.ref h_1, .int 8, .int 0, .int 0, .int 0, .int 0])), (h_1, .inl (kk_1, 400, .inl (upd (upd gg_1 (8 : Int32).toNatClampNeg (vp_nar .byte ((((p_0).toUInt32 >>> ((24 : Int32).toUInt32 &&& Int32.toUInt32 31)).toInt32).toInt8.toInt32))) (9 : Int32).toNatClampNeg (vp_nar .byte ((((p_0).toUInt32 >>> ((16 : Int32).toUInt32 &&& Int32.toUInt32 31)).toInt32).toInt8.toInt32)))))] := hD
  refine lv_aload_n hx hb d_Tp_append_41 rfl (lv_at hl 0 rfl) ?_
  refine va_get (D := (dC, dI)) (ci := 4) (v := .ref h_1) (C := R_Tp) (T := F_Tp) (N := 6) hx hb htb i_Tp hown hK hP 0 rfl rfl 0 (by decide) (htb (.fieldLink R_Tp 9 "WaterMen$Tape" "bytes" "[B") tw_94) (fun _ h9 => h9) rfl d_Tp_append_42 ?_
  refine lv_aload_n hx hb d_Tp_append_45 rfl (lv_at hl 0 rfl) ?_
  refine va_get (D := (dC, dI)) (ci := 4) (v := .int 8) (C := R_Tp) (T := F_Tp) (N := 6) hx hb htb i_Tp hown hK hP 0 rfl rfl 1 (by decide) (htb (.fieldLink R_Tp 15 "WaterMen$Tape" "length" "I") tw_88) (fun _ h9 => h9) rfl d_Tp_append_46 ?_
  refine lv_iconst (v := 2) hx hb d_Tp_append_49 (by decide +kernel) ?_
  refine lv_iadd hx hb d_Tp_append_50 ?_
  refine hb_ti 10 (by decide +kernel) ?_
  refine lv_iload_n hx hb d_Tp_append_51 rfl (lv_at hl 1 rfl) ?_
  refine lv_bipush (v := 8) hx hb d_Tp_append_52 (by decide +kernel) ?_
  refine lv_iushr hx hb d_Tp_append_54 rfl ?_
  refine lv_i2b hx hb d_Tp_append_55 rfl ?_
  refine va_bast hx hb hK hP hD hS 1 0 rfl rfl (by unfold vp_in; decide +kernel) d_Tp_append_56 (fun H locs hP hD hS => ?_)
  have hP : va_P (dC, dI) vwCl [(h_0, .inr (4, [.ref h_1, .int 8, .int 0, .int 0, .int 0, .int 0])), (h_1, .inl (kk_1, 400, .inl (upd (upd (upd gg_1 (8 : Int32).toNatClampNeg (vp_nar .byte ((((p_0).toUInt32 >>> ((24 : Int32).toUInt32 &&& Int32.toUInt32 31)).toInt32).toInt8.toInt32))) (9 : Int32).toNatClampNeg (vp_nar .byte ((((p_0).toUInt32 >>> ((16 : Int32).toUInt32 &&& Int32.toUInt32 31)).toInt32).toInt8.toInt32))) (10 : Int32).toNatClampNeg (vp_nar .byte ((((p_0).toUInt32 >>> ((8 : Int32).toUInt32 &&& Int32.toUInt32 31)).toInt32).toInt8.toInt32)))))] H := hP
  have hD : va_D A [(h_0, .inr (4, [.ref h_1, .int 8, .int 0, .int 0, .int 0, .int 0])), (h_1, .inl (kk_1, 400, .inl (upd (upd (upd gg_1 (8 : Int32).toNatClampNeg (vp_nar .byte ((((p_0).toUInt32 >>> ((24 : Int32).toUInt32 &&& Int32.toUInt32 31)).toInt32).toInt8.toInt32))) (9 : Int32).toNatClampNeg (vp_nar .byte ((((p_0).toUInt32 >>> ((16 : Int32).toUInt32 &&& Int32.toUInt32 31)).toInt32).toInt8.toInt32))) (10 : Int32).toNatClampNeg (vp_nar .byte ((((p_0).toUInt32 >>> ((8 : Int32).toUInt32 &&& Int32.toUInt32 31)).toInt32).toInt8.toInt32)))))] := hD
  refine lv_aload_n hx hb d_Tp_append_57 rfl (lv_at hl 0 rfl) ?_
  refine va_get (D := (dC, dI)) (ci := 4) (v := .ref h_1) (C := R_Tp) (T := F_Tp) (N := 6) hx hb htb i_Tp hown hK hP 0 rfl rfl 0 (by decide) (htb (.fieldLink R_Tp 9 "WaterMen$Tape" "bytes" "[B") tw_94) (fun _ h9 => h9) rfl d_Tp_append_58 ?_
  refine lv_aload_n hx hb d_Tp_append_61 rfl (lv_at hl 0 rfl) ?_
  refine va_get (D := (dC, dI)) (ci := 4) (v := .int 8) (C := R_Tp) (T := F_Tp) (N := 6) hx hb htb i_Tp hown hK hP 0 rfl rfl 1 (by decide) (htb (.fieldLink R_Tp 15 "WaterMen$Tape" "length" "I") tw_88) (fun _ h9 => h9) rfl d_Tp_append_62 ?_
  refine lv_iconst (v := 3) hx hb d_Tp_append_65 (by decide +kernel) ?_
  refine lv_iadd hx hb d_Tp_append_66 ?_
  refine hb_ti 11 (by decide +kernel) ?_
  refine lv_iload_n hx hb d_Tp_append_67 rfl (lv_at hl 1 rfl) ?_
  refine lv_i2b hx hb d_Tp_append_68 rfl ?_
  refine va_bast hx hb hK hP hD hS 1 0 rfl rfl (by unfold vp_in; decide +kernel) d_Tp_append_69 (fun H locs hP hD hS => ?_)
  have hP : va_P (dC, dI) vwCl [(h_0, .inr (4, [.ref h_1, .int 8, .int 0, .int 0, .int 0, .int 0])), (h_1, .inl (kk_1, 400, .inl (upd (upd (upd (upd gg_1 (8 : Int32).toNatClampNeg (vp_nar .byte ((((p_0).toUInt32 >>> ((24 : Int32).toUInt32 &&& Int32.toUInt32 31)).toInt32).toInt8.toInt32))) (9 : Int32).toNatClampNeg (vp_nar .byte ((((p_0).toUInt32 >>> ((16 : Int32).toUInt32 &&& Int32.toUInt32 31)).toInt32).toInt8.toInt32))) (10 : Int32).toNatClampNeg (vp_nar .byte ((((p_0).toUInt32 >>> ((8 : Int32).toUInt32 &&& Int32.toUInt32 31)).toInt32).toInt8.toInt32))) (11 : Int32).toNatClampNeg (vp_nar .byte ((p_0).toInt8.toInt32)))))] H := hP
  have hD : va_D A [(h_0, .inr (4, [.ref h_1, .int 8, .int 0, .int 0, .int 0, .int 0])), (h_1, .inl (kk_1, 400, .inl (upd (upd (upd (upd gg_1 (8 : Int32).toNatClampNeg (vp_nar .byte ((((p_0).toUInt32 >>> ((24 : Int32).toUInt32 &&& Int32.toUInt32 31)).toInt32).toInt8.toInt32))) (9 : Int32).toNatClampNeg (vp_nar .byte ((((p_0).toUInt32 >>> ((16 : Int32).toUInt32 &&& Int32.toUInt32 31)).toInt32).toInt8.toInt32))) (10 : Int32).toNatClampNeg (vp_nar .byte ((((p_0).toUInt32 >>> ((8 : Int32).toUInt32 &&& Int32.toUInt32 31)).toInt32).toInt8.toInt32))) (11 : Int32).toNatClampNeg (vp_nar .byte ((p_0).toInt8.toInt32)))))] := hD
  refine lv_aload_n hx hb d_Tp_append_70 rfl (lv_at hl 0 rfl) ?_
  refine lv_dup hx hb d_Tp_append_71 rfl ?_
  refine va_get (D := (dC, dI)) (ci := 4) (v := .int 8) (C := R_Tp) (T := F_Tp) (N := 6) hx hb htb i_Tp hown hK hP 0 rfl rfl 1 (by decide) (htb (.fieldLink R_Tp 15 "WaterMen$Tape" "length" "I") tw_88) (fun _ h9 => h9) rfl d_Tp_append_72 ?_
  refine lv_iconst (v := 4) hx hb d_Tp_append_75 (by decide +kernel) ?_
  refine lv_iadd hx hb d_Tp_append_76 ?_
  refine hb_ti 12 (by decide +kernel) ?_
  refine va_put (D := (dC, dI)) (ci := 4) (v := .int 12) (ty := .int) (C := R_Tp) (T := F_Tp) (N := 6) hx hb htb i_Tp t_Tp t_Tp_ok n_Tp hown hK hP hD hS 0 rfl rfl 1 (by decide) (htb (.fieldLink R_Tp 15 "WaterMen$Tape" "length" "I") tw_88) (fun _ h9 => h9) rfl (by decide +kernel) rfl rfl (Nat.le_of_ble_eq_true rfl) d_Tp_append_77 (fun H locs hP hD hS => ?_)
  have hP : va_P (dC, dI) vwCl [(h_0, .inr (4, [.ref h_1, .int 12, .int 0, .int 0, .int 0, .int 0])), (h_1, .inl (kk_1, 400, .inl (upd (upd (upd (upd gg_1 (8 : Int32).toNatClampNeg (vp_nar .byte ((((p_0).toUInt32 >>> ((24 : Int32).toUInt32 &&& Int32.toUInt32 31)).toInt32).toInt8.toInt32))) (9 : Int32).toNatClampNeg (vp_nar .byte ((((p_0).toUInt32 >>> ((16 : Int32).toUInt32 &&& Int32.toUInt32 31)).toInt32).toInt8.toInt32))) (10 : Int32).toNatClampNeg (vp_nar .byte ((((p_0).toUInt32 >>> ((8 : Int32).toUInt32 &&& Int32.toUInt32 31)).toInt32).toInt8.toInt32))) (11 : Int32).toNatClampNeg (vp_nar .byte ((p_0).toInt8.toInt32)))))] H := hP
  have hD : va_D A [(h_0, .inr (4, [.ref h_1, .int 12, .int 0, .int 0, .int 0, .int 0])), (h_1, .inl (kk_1, 400, .inl (upd (upd (upd (upd gg_1 (8 : Int32).toNatClampNeg (vp_nar .byte ((((p_0).toUInt32 >>> ((24 : Int32).toUInt32 &&& Int32.toUInt32 31)).toInt32).toInt8.toInt32))) (9 : Int32).toNatClampNeg (vp_nar .byte ((((p_0).toUInt32 >>> ((16 : Int32).toUInt32 &&& Int32.toUInt32 31)).toInt32).toInt8.toInt32))) (10 : Int32).toNatClampNeg (vp_nar .byte ((((p_0).toUInt32 >>> ((8 : Int32).toUInt32 &&& Int32.toUInt32 31)).toInt32).toInt8.toInt32))) (11 : Int32).toNatClampNeg (vp_nar .byte ((p_0).toInt8.toInt32)))))] := hD
  refine W.widen (k := 0) (n := 0) (Nat.le_of_ble_eq_true rfl) (Nat.le_of_ble_eq_true rfl) ?_
  exact W.vret hx hb hr (fun t ht hW => ⟨⟨(), rfl, trivial, upd (upd (upd (upd gg_1 (8 : Int32).toNatClampNeg (vp_nar .byte ((((p_0).toUInt32 >>> ((24 : Int32).toUInt32 &&& Int32.toUInt32 31)).toInt32).toInt8.toInt32))) (9 : Int32).toNatClampNeg (vp_nar .byte ((((p_0).toUInt32 >>> ((16 : Int32).toUInt32 &&& Int32.toUInt32 31)).toInt32).toInt8.toInt32))) (10 : Int32).toNatClampNeg (vp_nar .byte ((((p_0).toUInt32 >>> ((8 : Int32).toUInt32 &&& Int32.toUInt32 31)).toInt32).toInt8.toInt32))) (11 : Int32).toNatClampNeg (vp_nar .byte ((p_0).toInt8.toInt32)), by rw [ht]; exact hP, va_K.moved hW.alike hK, by rw [hAe]; exact hD⟩, by rw [hAe]; exact hS.F ht⟩) (by rw [hAe]; exact hS.2.2) d_Tp_append_80
set_option maxHeartbeats 4000000 in
set_option maxRecDepth 100000 in
theorem c_Tp_append_c3 (l : Launch) (dC : Nat → ClassId) (dI : Nat → Nat → Nat) (h_0 h_1 : Nat) (kk_1 : ClassId) (gg_1 : Nat → Int32) (sz : Nat) (p_0 : Int32)  : Met l y_Tp_append (.code y_Tp_append b_Tp_append 2 none :: TB) ({ frames := 0, cells := 0, slots := 0, locals := 0 }) (va_Pc [.ref h_0, .int p_0] (PC dC dI [(h_0, .inr (4, [.ref h_1, .int 12, .int 0, .int 0, .int 0, .int 0])), (h_1, .inl (kk_1, 400, .inl gg_1))] [(kk_1, .byte)] sz)) (va_Qv (fun (_ : Unit) => True) (fun (_ : Unit) t => ∃ (g_1 : Nat → Int32) , va_P (dC, dI) vwCl [(h_0, .inr (4, [.ref h_1, .int 16, .int 0, .int 0, .int 0, .int 0])), (h_1, .inl (kk_1, 400, .inl g_1))] t.heap ∧ va_K (dC, dI) vwCl [(kk_1, .byte)] t ∧ va_D (va_A [(h_0, .inr (4, [.ref h_1, .int 12, .int 0, .int 0, .int 0, .int 0])), (h_1, .inl (kk_1, 400, .inl gg_1))] sz) [(h_0, .inr (4, [.ref h_1, .int 16, .int 0, .int 0, .int 0, .int 0])), (h_1, .inl (kk_1, 400, .inl g_1))]) (va_A [(h_0, .inr (4, [.ref h_1, .int 12, .int 0, .int 0, .int 0, .int 0])), (h_1, .inl (kk_1, 400, .inl gg_1))] sz)) 0 0 (va_A [(h_0, .inr (4, [.ref h_1, .int 12, .int 0, .int 0, .int 0, .int 0])), (h_1, .inl (kk_1, 400, .inl gg_1))] sz) := by
  refine Met.ofW (cc := b_Tp_append) (maxL := 2) (ret := none) (by decide) rfl ?_
  intro p e s m args below meth c s₁ B hml hv
  obtain ⟨rfl, hsz, hP, hK, hD0, hN⟩ := hv
  have hx := B.exec
  have hb := B.bytes
  have hr := B.returns
  have hts := atoms_spec (ws := (.code y_Tp_append b_Tp_append 2 none :: TB)) B.pre
  have htb := fun w (h : w ∈ TB) => hts w (List.mem_cons_of_mem _ h)
  have hown : s.vm.findClass R_Tp = some m.cls := findClass_of_methodNamed B.named
  have hlocks := B.notSynchronized
  have hl := lv_entry ([.ref h_0, .int p_0]) (n := 2) (Nat.le_of_ble_eq_true rfl)
  rw [lg_entry_eq]
  generalize (lg_sl ([.ref h_0, .int p_0]) ++ List.replicate (2 - (lg_sl ([.ref h_0, .int p_0])).length) Slot.unset).toArray = ls at hl ⊢
  have hl : lv_has ls 2 [(0, .ref h_0), (1, .int p_0)] := hl
  subst hsz
  have hD := hD0.self (sz := s.heap.size)
  obtain ⟨A, hAe⟩ : ∃ A, va_A [(h_0, .inr (4, [.ref h_1, .int 12, .int 0, .int 0, .int 0, .int 0])), (h_1, .inl (kk_1, 400, .inl gg_1))] s.heap.size = A := ⟨_, rfl⟩
  rw [hAe] at hD
  have hA : ∀ q : Nat, s.heap.size ≤ q → A q := fun q h => by rw [← hAe]; exact Or.inr h
  have hS : va_S A s.heap s.heap [] := va_S.rf
  have hP := hP
  refine lv_aload_n hx hb d_Tp_append_0 rfl (lv_at hl 0 rfl) ?_
  refine va_get (D := (dC, dI)) (ci := 4) (v := .int 12) (C := R_Tp) (T := F_Tp) (N := 6) hx hb htb i_Tp hown hK hP 0 rfl rfl 1 (by decide) (htb (.fieldLink R_Tp 15 "WaterMen$Tape" "length" "I") tw_88) (fun _ h9 => h9) rfl d_Tp_append_1 ?_
  refine lv_sipush (v := 396) hx hb d_Tp_append_4 (by decide +kernel) ?_
  refine lv_icmp_le (tgt := 11) hx hb d_Tp_append_7 (by decide) (fun _ => ?_) (fun h => absurd (by decide +kernel) h)
  refine lv_aload_n hx hb d_Tp_append_11 rfl (lv_at hl 0 rfl) ?_
  refine va_get (D := (dC, dI)) (ci := 4) (v := .ref h_1) (C := R_Tp) (T := F_Tp) (N := 6) hx hb htb i_Tp hown hK hP 0 rfl rfl 0 (by decide) (htb (.fieldLink R_Tp 9 "WaterMen$Tape" "bytes" "[B") tw_94) (fun _ h9 => h9) rfl d_Tp_append_12 ?_
  refine lv_aload_n hx hb d_Tp_append_15 rfl (lv_at hl 0 rfl) ?_
  refine va_get (D := (dC, dI)) (ci := 4) (v := .int 12) (C := R_Tp) (T := F_Tp) (N := 6) hx hb htb i_Tp hown hK hP 0 rfl rfl 1 (by decide) (htb (.fieldLink R_Tp 15 "WaterMen$Tape" "length" "I") tw_88) (fun _ h9 => h9) rfl d_Tp_append_16 ?_
  refine lv_iload_n hx hb d_Tp_append_19 rfl (lv_at hl 1 rfl) ?_
  refine lv_bipush (v := 24) hx hb d_Tp_append_20 (by decide +kernel) ?_
  refine lv_iushr hx hb d_Tp_append_22 rfl ?_
  refine lv_i2b hx hb d_Tp_append_23 rfl ?_
  refine va_bast hx hb hK hP hD hS 1 0 rfl rfl (by unfold vp_in; decide +kernel) d_Tp_append_24 (fun H locs hP hD hS => ?_)
  have hP : va_P (dC, dI) vwCl [(h_0, .inr (4, [.ref h_1, .int 12, .int 0, .int 0, .int 0, .int 0])), (h_1, .inl (kk_1, 400, .inl (upd gg_1 (12 : Int32).toNatClampNeg (vp_nar .byte ((((p_0).toUInt32 >>> ((24 : Int32).toUInt32 &&& Int32.toUInt32 31)).toInt32).toInt8.toInt32)))))] H := hP
  have hD : va_D A [(h_0, .inr (4, [.ref h_1, .int 12, .int 0, .int 0, .int 0, .int 0])), (h_1, .inl (kk_1, 400, .inl (upd gg_1 (12 : Int32).toNatClampNeg (vp_nar .byte ((((p_0).toUInt32 >>> ((24 : Int32).toUInt32 &&& Int32.toUInt32 31)).toInt32).toInt8.toInt32)))))] := hD
  refine lv_aload_n hx hb d_Tp_append_25 rfl (lv_at hl 0 rfl) ?_
  refine va_get (D := (dC, dI)) (ci := 4) (v := .ref h_1) (C := R_Tp) (T := F_Tp) (N := 6) hx hb htb i_Tp hown hK hP 0 rfl rfl 0 (by decide) (htb (.fieldLink R_Tp 9 "WaterMen$Tape" "bytes" "[B") tw_94) (fun _ h9 => h9) rfl d_Tp_append_26 ?_
  refine lv_aload_n hx hb d_Tp_append_29 rfl (lv_at hl 0 rfl) ?_
  refine va_get (D := (dC, dI)) (ci := 4) (v := .int 12) (C := R_Tp) (T := F_Tp) (N := 6) hx hb htb i_Tp hown hK hP 0 rfl rfl 1 (by decide) (htb (.fieldLink R_Tp 15 "WaterMen$Tape" "length" "I") tw_88) (fun _ h9 => h9) rfl d_Tp_append_30 ?_
  refine lv_iconst (v := 1) hx hb d_Tp_append_33 (by decide +kernel) ?_
  refine lv_iadd hx hb d_Tp_append_34 ?_
  refine hb_ti 13 (by decide +kernel) ?_
  refine lv_iload_n hx hb d_Tp_append_35 rfl (lv_at hl 1 rfl) ?_
  refine lv_bipush (v := 16) hx hb d_Tp_append_36 (by decide +kernel) ?_
  refine lv_iushr hx hb d_Tp_append_38 rfl ?_
  refine lv_i2b hx hb d_Tp_append_39 rfl ?_
  refine va_bast hx hb hK hP hD hS 1 0 rfl rfl (by unfold vp_in; decide +kernel) d_Tp_append_40 (fun H locs hP hD hS => ?_)
  have hP : va_P (dC, dI) vwCl [(h_0, .inr (4, [.ref h_1, .int 12, .int 0, .int 0, .int 0, .int 0])), (h_1, .inl (kk_1, 400, .inl (upd (upd gg_1 (12 : Int32).toNatClampNeg (vp_nar .byte ((((p_0).toUInt32 >>> ((24 : Int32).toUInt32 &&& Int32.toUInt32 31)).toInt32).toInt8.toInt32))) (13 : Int32).toNatClampNeg (vp_nar .byte ((((p_0).toUInt32 >>> ((16 : Int32).toUInt32 &&& Int32.toUInt32 31)).toInt32).toInt8.toInt32)))))] H := hP
  have hD : va_D A [(h_0, .inr (4, [.ref h_1, .int 12, .int 0, .int 0, .int 0, .int 0])), (h_1, .inl (kk_1, 400, .inl (upd (upd gg_1 (12 : Int32).toNatClampNeg (vp_nar .byte ((((p_0).toUInt32 >>> ((24 : Int32).toUInt32 &&& Int32.toUInt32 31)).toInt32).toInt8.toInt32))) (13 : Int32).toNatClampNeg (vp_nar .byte ((((p_0).toUInt32 >>> ((16 : Int32).toUInt32 &&& Int32.toUInt32 31)).toInt32).toInt8.toInt32)))))] := hD
  refine lv_aload_n hx hb d_Tp_append_41 rfl (lv_at hl 0 rfl) ?_
  refine va_get (D := (dC, dI)) (ci := 4) (v := .ref h_1) (C := R_Tp) (T := F_Tp) (N := 6) hx hb htb i_Tp hown hK hP 0 rfl rfl 0 (by decide) (htb (.fieldLink R_Tp 9 "WaterMen$Tape" "bytes" "[B") tw_94) (fun _ h9 => h9) rfl d_Tp_append_42 ?_
  refine lv_aload_n hx hb d_Tp_append_45 rfl (lv_at hl 0 rfl) ?_
  refine va_get (D := (dC, dI)) (ci := 4) (v := .int 12) (C := R_Tp) (T := F_Tp) (N := 6) hx hb htb i_Tp hown hK hP 0 rfl rfl 1 (by decide) (htb (.fieldLink R_Tp 15 "WaterMen$Tape" "length" "I") tw_88) (fun _ h9 => h9) rfl d_Tp_append_46 ?_
  refine lv_iconst (v := 2) hx hb d_Tp_append_49 (by decide +kernel) ?_
  refine lv_iadd hx hb d_Tp_append_50 ?_
  refine hb_ti 14 (by decide +kernel) ?_
  refine lv_iload_n hx hb d_Tp_append_51 rfl (lv_at hl 1 rfl) ?_
  refine lv_bipush (v := 8) hx hb d_Tp_append_52 (by decide +kernel) ?_
  refine lv_iushr hx hb d_Tp_append_54 rfl ?_
  refine lv_i2b hx hb d_Tp_append_55 rfl ?_
  refine va_bast hx hb hK hP hD hS 1 0 rfl rfl (by unfold vp_in; decide +kernel) d_Tp_append_56 (fun H locs hP hD hS => ?_)
  have hP : va_P (dC, dI) vwCl [(h_0, .inr (4, [.ref h_1, .int 12, .int 0, .int 0, .int 0, .int 0])), (h_1, .inl (kk_1, 400, .inl (upd (upd (upd gg_1 (12 : Int32).toNatClampNeg (vp_nar .byte ((((p_0).toUInt32 >>> ((24 : Int32).toUInt32 &&& Int32.toUInt32 31)).toInt32).toInt8.toInt32))) (13 : Int32).toNatClampNeg (vp_nar .byte ((((p_0).toUInt32 >>> ((16 : Int32).toUInt32 &&& Int32.toUInt32 31)).toInt32).toInt8.toInt32))) (14 : Int32).toNatClampNeg (vp_nar .byte ((((p_0).toUInt32 >>> ((8 : Int32).toUInt32 &&& Int32.toUInt32 31)).toInt32).toInt8.toInt32)))))] H := hP
  have hD : va_D A [(h_0, .inr (4, [.ref h_1, .int 12, .int 0, .int 0, .int 0, .int 0])), (h_1, .inl (kk_1, 400, .inl (upd (upd (upd gg_1 (12 : Int32).toNatClampNeg (vp_nar .byte ((((p_0).toUInt32 >>> ((24 : Int32).toUInt32 &&& Int32.toUInt32 31)).toInt32).toInt8.toInt32))) (13 : Int32).toNatClampNeg (vp_nar .byte ((((p_0).toUInt32 >>> ((16 : Int32).toUInt32 &&& Int32.toUInt32 31)).toInt32).toInt8.toInt32))) (14 : Int32).toNatClampNeg (vp_nar .byte ((((p_0).toUInt32 >>> ((8 : Int32).toUInt32 &&& Int32.toUInt32 31)).toInt32).toInt8.toInt32)))))] := hD
  refine lv_aload_n hx hb d_Tp_append_57 rfl (lv_at hl 0 rfl) ?_
  refine va_get (D := (dC, dI)) (ci := 4) (v := .ref h_1) (C := R_Tp) (T := F_Tp) (N := 6) hx hb htb i_Tp hown hK hP 0 rfl rfl 0 (by decide) (htb (.fieldLink R_Tp 9 "WaterMen$Tape" "bytes" "[B") tw_94) (fun _ h9 => h9) rfl d_Tp_append_58 ?_
  refine lv_aload_n hx hb d_Tp_append_61 rfl (lv_at hl 0 rfl) ?_
  refine va_get (D := (dC, dI)) (ci := 4) (v := .int 12) (C := R_Tp) (T := F_Tp) (N := 6) hx hb htb i_Tp hown hK hP 0 rfl rfl 1 (by decide) (htb (.fieldLink R_Tp 15 "WaterMen$Tape" "length" "I") tw_88) (fun _ h9 => h9) rfl d_Tp_append_62 ?_
  refine lv_iconst (v := 3) hx hb d_Tp_append_65 (by decide +kernel) ?_
  refine lv_iadd hx hb d_Tp_append_66 ?_
  refine hb_ti 15 (by decide +kernel) ?_
  refine lv_iload_n hx hb d_Tp_append_67 rfl (lv_at hl 1 rfl) ?_
  refine lv_i2b hx hb d_Tp_append_68 rfl ?_
  refine va_bast hx hb hK hP hD hS 1 0 rfl rfl (by unfold vp_in; decide +kernel) d_Tp_append_69 (fun H locs hP hD hS => ?_)
  have hP : va_P (dC, dI) vwCl [(h_0, .inr (4, [.ref h_1, .int 12, .int 0, .int 0, .int 0, .int 0])), (h_1, .inl (kk_1, 400, .inl (upd (upd (upd (upd gg_1 (12 : Int32).toNatClampNeg (vp_nar .byte ((((p_0).toUInt32 >>> ((24 : Int32).toUInt32 &&& Int32.toUInt32 31)).toInt32).toInt8.toInt32))) (13 : Int32).toNatClampNeg (vp_nar .byte ((((p_0).toUInt32 >>> ((16 : Int32).toUInt32 &&& Int32.toUInt32 31)).toInt32).toInt8.toInt32))) (14 : Int32).toNatClampNeg (vp_nar .byte ((((p_0).toUInt32 >>> ((8 : Int32).toUInt32 &&& Int32.toUInt32 31)).toInt32).toInt8.toInt32))) (15 : Int32).toNatClampNeg (vp_nar .byte ((p_0).toInt8.toInt32)))))] H := hP
  have hD : va_D A [(h_0, .inr (4, [.ref h_1, .int 12, .int 0, .int 0, .int 0, .int 0])), (h_1, .inl (kk_1, 400, .inl (upd (upd (upd (upd gg_1 (12 : Int32).toNatClampNeg (vp_nar .byte ((((p_0).toUInt32 >>> ((24 : Int32).toUInt32 &&& Int32.toUInt32 31)).toInt32).toInt8.toInt32))) (13 : Int32).toNatClampNeg (vp_nar .byte ((((p_0).toUInt32 >>> ((16 : Int32).toUInt32 &&& Int32.toUInt32 31)).toInt32).toInt8.toInt32))) (14 : Int32).toNatClampNeg (vp_nar .byte ((((p_0).toUInt32 >>> ((8 : Int32).toUInt32 &&& Int32.toUInt32 31)).toInt32).toInt8.toInt32))) (15 : Int32).toNatClampNeg (vp_nar .byte ((p_0).toInt8.toInt32)))))] := hD
  refine lv_aload_n hx hb d_Tp_append_70 rfl (lv_at hl 0 rfl) ?_
  refine lv_dup hx hb d_Tp_append_71 rfl ?_
  refine va_get (D := (dC, dI)) (ci := 4) (v := .int 12) (C := R_Tp) (T := F_Tp) (N := 6) hx hb htb i_Tp hown hK hP 0 rfl rfl 1 (by decide) (htb (.fieldLink R_Tp 15 "WaterMen$Tape" "length" "I") tw_88) (fun _ h9 => h9) rfl d_Tp_append_72 ?_
  refine lv_iconst (v := 4) hx hb d_Tp_append_75 (by decide +kernel) ?_
  refine lv_iadd hx hb d_Tp_append_76 ?_
  refine hb_ti 16 (by decide +kernel) ?_
  refine va_put (D := (dC, dI)) (ci := 4) (v := .int 16) (ty := .int) (C := R_Tp) (T := F_Tp) (N := 6) hx hb htb i_Tp t_Tp t_Tp_ok n_Tp hown hK hP hD hS 0 rfl rfl 1 (by decide) (htb (.fieldLink R_Tp 15 "WaterMen$Tape" "length" "I") tw_88) (fun _ h9 => h9) rfl (by decide +kernel) rfl rfl (Nat.le_of_ble_eq_true rfl) d_Tp_append_77 (fun H locs hP hD hS => ?_)
  have hP : va_P (dC, dI) vwCl [(h_0, .inr (4, [.ref h_1, .int 16, .int 0, .int 0, .int 0, .int 0])), (h_1, .inl (kk_1, 400, .inl (upd (upd (upd (upd gg_1 (12 : Int32).toNatClampNeg (vp_nar .byte ((((p_0).toUInt32 >>> ((24 : Int32).toUInt32 &&& Int32.toUInt32 31)).toInt32).toInt8.toInt32))) (13 : Int32).toNatClampNeg (vp_nar .byte ((((p_0).toUInt32 >>> ((16 : Int32).toUInt32 &&& Int32.toUInt32 31)).toInt32).toInt8.toInt32))) (14 : Int32).toNatClampNeg (vp_nar .byte ((((p_0).toUInt32 >>> ((8 : Int32).toUInt32 &&& Int32.toUInt32 31)).toInt32).toInt8.toInt32))) (15 : Int32).toNatClampNeg (vp_nar .byte ((p_0).toInt8.toInt32)))))] H := hP
  have hD : va_D A [(h_0, .inr (4, [.ref h_1, .int 16, .int 0, .int 0, .int 0, .int 0])), (h_1, .inl (kk_1, 400, .inl (upd (upd (upd (upd gg_1 (12 : Int32).toNatClampNeg (vp_nar .byte ((((p_0).toUInt32 >>> ((24 : Int32).toUInt32 &&& Int32.toUInt32 31)).toInt32).toInt8.toInt32))) (13 : Int32).toNatClampNeg (vp_nar .byte ((((p_0).toUInt32 >>> ((16 : Int32).toUInt32 &&& Int32.toUInt32 31)).toInt32).toInt8.toInt32))) (14 : Int32).toNatClampNeg (vp_nar .byte ((((p_0).toUInt32 >>> ((8 : Int32).toUInt32 &&& Int32.toUInt32 31)).toInt32).toInt8.toInt32))) (15 : Int32).toNatClampNeg (vp_nar .byte ((p_0).toInt8.toInt32)))))] := hD
  refine W.widen (k := 0) (n := 0) (Nat.le_of_ble_eq_true rfl) (Nat.le_of_ble_eq_true rfl) ?_
  exact W.vret hx hb hr (fun t ht hW => ⟨⟨(), rfl, trivial, upd (upd (upd (upd gg_1 (12 : Int32).toNatClampNeg (vp_nar .byte ((((p_0).toUInt32 >>> ((24 : Int32).toUInt32 &&& Int32.toUInt32 31)).toInt32).toInt8.toInt32))) (13 : Int32).toNatClampNeg (vp_nar .byte ((((p_0).toUInt32 >>> ((16 : Int32).toUInt32 &&& Int32.toUInt32 31)).toInt32).toInt8.toInt32))) (14 : Int32).toNatClampNeg (vp_nar .byte ((((p_0).toUInt32 >>> ((8 : Int32).toUInt32 &&& Int32.toUInt32 31)).toInt32).toInt8.toInt32))) (15 : Int32).toNatClampNeg (vp_nar .byte ((p_0).toInt8.toInt32)), by rw [ht]; exact hP, va_K.moved hW.alike hK, by rw [hAe]; exact hD⟩, by rw [hAe]; exact hS.F ht⟩) (by rw [hAe]; exact hS.2.2) d_Tp_append_80
set_option maxHeartbeats 4000000 in
set_option maxRecDepth 100000 in
theorem c_Tp_append_c4 (l : Launch) (dC : Nat → ClassId) (dI : Nat → Nat → Nat) (h_0 h_1 : Nat) (kk_1 : ClassId) (gg_1 : Nat → Int32) (sz : Nat) (p_0 : Int32)  : Met l y_Tp_append (.code y_Tp_append b_Tp_append 2 none :: TB) ({ frames := 0, cells := 0, slots := 0, locals := 0 }) (va_Pc [.ref h_0, .int p_0] (PC dC dI [(h_0, .inr (4, [.ref h_1, .int 16, .int 0, .int 0, .int 0, .int 0])), (h_1, .inl (kk_1, 400, .inl gg_1))] [(kk_1, .byte)] sz)) (va_Qv (fun (_ : Unit) => True) (fun (_ : Unit) t => ∃ (g_1 : Nat → Int32) , va_P (dC, dI) vwCl [(h_0, .inr (4, [.ref h_1, .int 20, .int 0, .int 0, .int 0, .int 0])), (h_1, .inl (kk_1, 400, .inl g_1))] t.heap ∧ va_K (dC, dI) vwCl [(kk_1, .byte)] t ∧ va_D (va_A [(h_0, .inr (4, [.ref h_1, .int 16, .int 0, .int 0, .int 0, .int 0])), (h_1, .inl (kk_1, 400, .inl gg_1))] sz) [(h_0, .inr (4, [.ref h_1, .int 20, .int 0, .int 0, .int 0, .int 0])), (h_1, .inl (kk_1, 400, .inl g_1))]) (va_A [(h_0, .inr (4, [.ref h_1, .int 16, .int 0, .int 0, .int 0, .int 0])), (h_1, .inl (kk_1, 400, .inl gg_1))] sz)) 0 0 (va_A [(h_0, .inr (4, [.ref h_1, .int 16, .int 0, .int 0, .int 0, .int 0])), (h_1, .inl (kk_1, 400, .inl gg_1))] sz) := by
  refine Met.ofW (cc := b_Tp_append) (maxL := 2) (ret := none) (by decide) rfl ?_
  intro p e s m args below meth c s₁ B hml hv
  obtain ⟨rfl, hsz, hP, hK, hD0, hN⟩ := hv
  have hx := B.exec
  have hb := B.bytes
  have hr := B.returns
  have hts := atoms_spec (ws := (.code y_Tp_append b_Tp_append 2 none :: TB)) B.pre
  have htb := fun w (h : w ∈ TB) => hts w (List.mem_cons_of_mem _ h)
  have hown : s.vm.findClass R_Tp = some m.cls := findClass_of_methodNamed B.named
  have hlocks := B.notSynchronized
  have hl := lv_entry ([.ref h_0, .int p_0]) (n := 2) (Nat.le_of_ble_eq_true rfl)
  rw [lg_entry_eq]
  generalize (lg_sl ([.ref h_0, .int p_0]) ++ List.replicate (2 - (lg_sl ([.ref h_0, .int p_0])).length) Slot.unset).toArray = ls at hl ⊢
  have hl : lv_has ls 2 [(0, .ref h_0), (1, .int p_0)] := hl
  subst hsz
  have hD := hD0.self (sz := s.heap.size)
  obtain ⟨A, hAe⟩ : ∃ A, va_A [(h_0, .inr (4, [.ref h_1, .int 16, .int 0, .int 0, .int 0, .int 0])), (h_1, .inl (kk_1, 400, .inl gg_1))] s.heap.size = A := ⟨_, rfl⟩
  rw [hAe] at hD
  have hA : ∀ q : Nat, s.heap.size ≤ q → A q := fun q h => by rw [← hAe]; exact Or.inr h
  have hS : va_S A s.heap s.heap [] := va_S.rf
  have hP := hP
  refine lv_aload_n hx hb d_Tp_append_0 rfl (lv_at hl 0 rfl) ?_
  refine va_get (D := (dC, dI)) (ci := 4) (v := .int 16) (C := R_Tp) (T := F_Tp) (N := 6) hx hb htb i_Tp hown hK hP 0 rfl rfl 1 (by decide) (htb (.fieldLink R_Tp 15 "WaterMen$Tape" "length" "I") tw_88) (fun _ h9 => h9) rfl d_Tp_append_1 ?_
  refine lv_sipush (v := 396) hx hb d_Tp_append_4 (by decide +kernel) ?_
  refine lv_icmp_le (tgt := 11) hx hb d_Tp_append_7 (by decide) (fun _ => ?_) (fun h => absurd (by decide +kernel) h)
  refine lv_aload_n hx hb d_Tp_append_11 rfl (lv_at hl 0 rfl) ?_
  refine va_get (D := (dC, dI)) (ci := 4) (v := .ref h_1) (C := R_Tp) (T := F_Tp) (N := 6) hx hb htb i_Tp hown hK hP 0 rfl rfl 0 (by decide) (htb (.fieldLink R_Tp 9 "WaterMen$Tape" "bytes" "[B") tw_94) (fun _ h9 => h9) rfl d_Tp_append_12 ?_
  refine lv_aload_n hx hb d_Tp_append_15 rfl (lv_at hl 0 rfl) ?_
  refine va_get (D := (dC, dI)) (ci := 4) (v := .int 16) (C := R_Tp) (T := F_Tp) (N := 6) hx hb htb i_Tp hown hK hP 0 rfl rfl 1 (by decide) (htb (.fieldLink R_Tp 15 "WaterMen$Tape" "length" "I") tw_88) (fun _ h9 => h9) rfl d_Tp_append_16 ?_
  refine lv_iload_n hx hb d_Tp_append_19 rfl (lv_at hl 1 rfl) ?_
  refine lv_bipush (v := 24) hx hb d_Tp_append_20 (by decide +kernel) ?_
  refine lv_iushr hx hb d_Tp_append_22 rfl ?_
  refine lv_i2b hx hb d_Tp_append_23 rfl ?_
  refine va_bast hx hb hK hP hD hS 1 0 rfl rfl (by unfold vp_in; decide +kernel) d_Tp_append_24 (fun H locs hP hD hS => ?_)
  have hP : va_P (dC, dI) vwCl [(h_0, .inr (4, [.ref h_1, .int 16, .int 0, .int 0, .int 0, .int 0])), (h_1, .inl (kk_1, 400, .inl (upd gg_1 (16 : Int32).toNatClampNeg (vp_nar .byte ((((p_0).toUInt32 >>> ((24 : Int32).toUInt32 &&& Int32.toUInt32 31)).toInt32).toInt8.toInt32)))))] H := hP
  have hD : va_D A [(h_0, .inr (4, [.ref h_1, .int 16, .int 0, .int 0, .int 0, .int 0])), (h_1, .inl (kk_1, 400, .inl (upd gg_1 (16 : Int32).toNatClampNeg (vp_nar .byte ((((p_0).toUInt32 >>> ((24 : Int32).toUInt32 &&& Int32.toUInt32 31)).toInt32).toInt8.toInt32)))))] := hD
  refine lv_aload_n hx hb d_Tp_append_25 rfl (lv_at hl 0 rfl) ?_
  refine va_get (D := (dC, dI)) (ci := 4) (v := .ref h_1) (C := R_Tp) (T := F_Tp) (N := 6) hx hb htb i_Tp hown hK hP 0 rfl rfl 0 (by decide) (htb (.fieldLink R_Tp 9 "WaterMen$Tape" "bytes" "[B") tw_94) (fun _ h9 => h9) rfl d_Tp_append_26 ?_
  refine lv_aload_n hx hb d_Tp_append_29 rfl (lv_at hl 0 rfl) ?_
  refine va_get (D := (dC, dI)) (ci := 4) (v := .int 16) (C := R_Tp) (T := F_Tp) (N := 6) hx hb htb i_Tp hown hK hP 0 rfl rfl 1 (by decide) (htb (.fieldLink R_Tp 15 "WaterMen$Tape" "length" "I") tw_88) (fun _ h9 => h9) rfl d_Tp_append_30 ?_
  refine lv_iconst (v := 1) hx hb d_Tp_append_33 (by decide +kernel) ?_
  refine lv_iadd hx hb d_Tp_append_34 ?_
  refine hb_ti 17 (by decide +kernel) ?_
  refine lv_iload_n hx hb d_Tp_append_35 rfl (lv_at hl 1 rfl) ?_
  refine lv_bipush (v := 16) hx hb d_Tp_append_36 (by decide +kernel) ?_
  refine lv_iushr hx hb d_Tp_append_38 rfl ?_
  refine lv_i2b hx hb d_Tp_append_39 rfl ?_
  refine va_bast hx hb hK hP hD hS 1 0 rfl rfl (by unfold vp_in; decide +kernel) d_Tp_append_40 (fun H locs hP hD hS => ?_)
  have hP : va_P (dC, dI) vwCl [(h_0, .inr (4, [.ref h_1, .int 16, .int 0, .int 0, .int 0, .int 0])), (h_1, .inl (kk_1, 400, .inl (upd (upd gg_1 (16 : Int32).toNatClampNeg (vp_nar .byte ((((p_0).toUInt32 >>> ((24 : Int32).toUInt32 &&& Int32.toUInt32 31)).toInt32).toInt8.toInt32))) (17 : Int32).toNatClampNeg (vp_nar .byte ((((p_0).toUInt32 >>> ((16 : Int32).toUInt32 &&& Int32.toUInt32 31)).toInt32).toInt8.toInt32)))))] H := hP
  have hD : va_D A [(h_0, .inr (4, [.ref h_1, .int 16, .int 0, .int 0, .int 0, .int 0])), (h_1, .inl (kk_1, 400, .inl (upd (upd gg_1 (16 : Int32).toNatClampNeg (vp_nar .byte ((((p_0).toUInt32 >>> ((24 : Int32).toUInt32 &&& Int32.toUInt32 31)).toInt32).toInt8.toInt32))) (17 : Int32).toNatClampNeg (vp_nar .byte ((((p_0).toUInt32 >>> ((16 : Int32).toUInt32 &&& Int32.toUInt32 31)).toInt32).toInt8.toInt32)))))] := hD
  refine lv_aload_n hx hb d_Tp_append_41 rfl (lv_at hl 0 rfl) ?_
  refine va_get (D := (dC, dI)) (ci := 4) (v := .ref h_1) (C := R_Tp) (T := F_Tp) (N := 6) hx hb htb i_Tp hown hK hP 0 rfl rfl 0 (by decide) (htb (.fieldLink R_Tp 9 "WaterMen$Tape" "bytes" "[B") tw_94) (fun _ h9 => h9) rfl d_Tp_append_42 ?_
  refine lv_aload_n hx hb d_Tp_append_45 rfl (lv_at hl 0 rfl) ?_
  refine va_get (D := (dC, dI)) (ci := 4) (v := .int 16) (C := R_Tp) (T := F_Tp) (N := 6) hx hb htb i_Tp hown hK hP 0 rfl rfl 1 (by decide) (htb (.fieldLink R_Tp 15 "WaterMen$Tape" "length" "I") tw_88) (fun _ h9 => h9) rfl d_Tp_append_46 ?_
  refine lv_iconst (v := 2) hx hb d_Tp_append_49 (by decide +kernel) ?_
  refine lv_iadd hx hb d_Tp_append_50 ?_
  refine hb_ti 18 (by decide +kernel) ?_
  refine lv_iload_n hx hb d_Tp_append_51 rfl (lv_at hl 1 rfl) ?_
  refine lv_bipush (v := 8) hx hb d_Tp_append_52 (by decide +kernel) ?_
  refine lv_iushr hx hb d_Tp_append_54 rfl ?_
  refine lv_i2b hx hb d_Tp_append_55 rfl ?_
  refine va_bast hx hb hK hP hD hS 1 0 rfl rfl (by unfold vp_in; decide +kernel) d_Tp_append_56 (fun H locs hP hD hS => ?_)
  have hP : va_P (dC, dI) vwCl [(h_0, .inr (4, [.ref h_1, .int 16, .int 0, .int 0, .int 0, .int 0])), (h_1, .inl (kk_1, 400, .inl (upd (upd (upd gg_1 (16 : Int32).toNatClampNeg (vp_nar .byte ((((p_0).toUInt32 >>> ((24 : Int32).toUInt32 &&& Int32.toUInt32 31)).toInt32).toInt8.toInt32))) (17 : Int32).toNatClampNeg (vp_nar .byte ((((p_0).toUInt32 >>> ((16 : Int32).toUInt32 &&& Int32.toUInt32 31)).toInt32).toInt8.toInt32))) (18 : Int32).toNatClampNeg (vp_nar .byte ((((p_0).toUInt32 >>> ((8 : Int32).toUInt32 &&& Int32.toUInt32 31)).toInt32).toInt8.toInt32)))))] H := hP
  have hD : va_D A [(h_0, .inr (4, [.ref h_1, .int 16, .int 0, .int 0, .int 0, .int 0])), (h_1, .inl (kk_1, 400, .inl (upd (upd (upd gg_1 (16 : Int32).toNatClampNeg (vp_nar .byte ((((p_0).toUInt32 >>> ((24 : Int32).toUInt32 &&& Int32.toUInt32 31)).toInt32).toInt8.toInt32))) (17 : Int32).toNatClampNeg (vp_nar .byte ((((p_0).toUInt32 >>> ((16 : Int32).toUInt32 &&& Int32.toUInt32 31)).toInt32).toInt8.toInt32))) (18 : Int32).toNatClampNeg (vp_nar .byte ((((p_0).toUInt32 >>> ((8 : Int32).toUInt32 &&& Int32.toUInt32 31)).toInt32).toInt8.toInt32)))))] := hD
  refine lv_aload_n hx hb d_Tp_append_57 rfl (lv_at hl 0 rfl) ?_
  refine va_get (D := (dC, dI)) (ci := 4) (v := .ref h_1) (C := R_Tp) (T := F_Tp) (N := 6) hx hb htb i_Tp hown hK hP 0 rfl rfl 0 (by decide) (htb (.fieldLink R_Tp 9 "WaterMen$Tape" "bytes" "[B") tw_94) (fun _ h9 => h9) rfl d_Tp_append_58 ?_
  refine lv_aload_n hx hb d_Tp_append_61 rfl (lv_at hl 0 rfl) ?_
  refine va_get (D := (dC, dI)) (ci := 4) (v := .int 16) (C := R_Tp) (T := F_Tp) (N := 6) hx hb htb i_Tp hown hK hP 0 rfl rfl 1 (by decide) (htb (.fieldLink R_Tp 15 "WaterMen$Tape" "length" "I") tw_88) (fun _ h9 => h9) rfl d_Tp_append_62 ?_
  refine lv_iconst (v := 3) hx hb d_Tp_append_65 (by decide +kernel) ?_
  refine lv_iadd hx hb d_Tp_append_66 ?_
  refine hb_ti 19 (by decide +kernel) ?_
  refine lv_iload_n hx hb d_Tp_append_67 rfl (lv_at hl 1 rfl) ?_
  refine lv_i2b hx hb d_Tp_append_68 rfl ?_
  refine va_bast hx hb hK hP hD hS 1 0 rfl rfl (by unfold vp_in; decide +kernel) d_Tp_append_69 (fun H locs hP hD hS => ?_)
  have hP : va_P (dC, dI) vwCl [(h_0, .inr (4, [.ref h_1, .int 16, .int 0, .int 0, .int 0, .int 0])), (h_1, .inl (kk_1, 400, .inl (upd (upd (upd (upd gg_1 (16 : Int32).toNatClampNeg (vp_nar .byte ((((p_0).toUInt32 >>> ((24 : Int32).toUInt32 &&& Int32.toUInt32 31)).toInt32).toInt8.toInt32))) (17 : Int32).toNatClampNeg (vp_nar .byte ((((p_0).toUInt32 >>> ((16 : Int32).toUInt32 &&& Int32.toUInt32 31)).toInt32).toInt8.toInt32))) (18 : Int32).toNatClampNeg (vp_nar .byte ((((p_0).toUInt32 >>> ((8 : Int32).toUInt32 &&& Int32.toUInt32 31)).toInt32).toInt8.toInt32))) (19 : Int32).toNatClampNeg (vp_nar .byte ((p_0).toInt8.toInt32)))))] H := hP
  have hD : va_D A [(h_0, .inr (4, [.ref h_1, .int 16, .int 0, .int 0, .int 0, .int 0])), (h_1, .inl (kk_1, 400, .inl (upd (upd (upd (upd gg_1 (16 : Int32).toNatClampNeg (vp_nar .byte ((((p_0).toUInt32 >>> ((24 : Int32).toUInt32 &&& Int32.toUInt32 31)).toInt32).toInt8.toInt32))) (17 : Int32).toNatClampNeg (vp_nar .byte ((((p_0).toUInt32 >>> ((16 : Int32).toUInt32 &&& Int32.toUInt32 31)).toInt32).toInt8.toInt32))) (18 : Int32).toNatClampNeg (vp_nar .byte ((((p_0).toUInt32 >>> ((8 : Int32).toUInt32 &&& Int32.toUInt32 31)).toInt32).toInt8.toInt32))) (19 : Int32).toNatClampNeg (vp_nar .byte ((p_0).toInt8.toInt32)))))] := hD
  refine lv_aload_n hx hb d_Tp_append_70 rfl (lv_at hl 0 rfl) ?_
  refine lv_dup hx hb d_Tp_append_71 rfl ?_
  refine va_get (D := (dC, dI)) (ci := 4) (v := .int 16) (C := R_Tp) (T := F_Tp) (N := 6) hx hb htb i_Tp hown hK hP 0 rfl rfl 1 (by decide) (htb (.fieldLink R_Tp 15 "WaterMen$Tape" "length" "I") tw_88) (fun _ h9 => h9) rfl d_Tp_append_72 ?_
  refine lv_iconst (v := 4) hx hb d_Tp_append_75 (by decide +kernel) ?_
  refine lv_iadd hx hb d_Tp_append_76 ?_
  refine hb_ti 20 (by decide +kernel) ?_
  refine va_put (D := (dC, dI)) (ci := 4) (v := .int 20) (ty := .int) (C := R_Tp) (T := F_Tp) (N := 6) hx hb htb i_Tp t_Tp t_Tp_ok n_Tp hown hK hP hD hS 0 rfl rfl 1 (by decide) (htb (.fieldLink R_Tp 15 "WaterMen$Tape" "length" "I") tw_88) (fun _ h9 => h9) rfl (by decide +kernel) rfl rfl (Nat.le_of_ble_eq_true rfl) d_Tp_append_77 (fun H locs hP hD hS => ?_)
  have hP : va_P (dC, dI) vwCl [(h_0, .inr (4, [.ref h_1, .int 20, .int 0, .int 0, .int 0, .int 0])), (h_1, .inl (kk_1, 400, .inl (upd (upd (upd (upd gg_1 (16 : Int32).toNatClampNeg (vp_nar .byte ((((p_0).toUInt32 >>> ((24 : Int32).toUInt32 &&& Int32.toUInt32 31)).toInt32).toInt8.toInt32))) (17 : Int32).toNatClampNeg (vp_nar .byte ((((p_0).toUInt32 >>> ((16 : Int32).toUInt32 &&& Int32.toUInt32 31)).toInt32).toInt8.toInt32))) (18 : Int32).toNatClampNeg (vp_nar .byte ((((p_0).toUInt32 >>> ((8 : Int32).toUInt32 &&& Int32.toUInt32 31)).toInt32).toInt8.toInt32))) (19 : Int32).toNatClampNeg (vp_nar .byte ((p_0).toInt8.toInt32)))))] H := hP
  have hD : va_D A [(h_0, .inr (4, [.ref h_1, .int 20, .int 0, .int 0, .int 0, .int 0])), (h_1, .inl (kk_1, 400, .inl (upd (upd (upd (upd gg_1 (16 : Int32).toNatClampNeg (vp_nar .byte ((((p_0).toUInt32 >>> ((24 : Int32).toUInt32 &&& Int32.toUInt32 31)).toInt32).toInt8.toInt32))) (17 : Int32).toNatClampNeg (vp_nar .byte ((((p_0).toUInt32 >>> ((16 : Int32).toUInt32 &&& Int32.toUInt32 31)).toInt32).toInt8.toInt32))) (18 : Int32).toNatClampNeg (vp_nar .byte ((((p_0).toUInt32 >>> ((8 : Int32).toUInt32 &&& Int32.toUInt32 31)).toInt32).toInt8.toInt32))) (19 : Int32).toNatClampNeg (vp_nar .byte ((p_0).toInt8.toInt32)))))] := hD
  refine W.widen (k := 0) (n := 0) (Nat.le_of_ble_eq_true rfl) (Nat.le_of_ble_eq_true rfl) ?_
  exact W.vret hx hb hr (fun t ht hW => ⟨⟨(), rfl, trivial, upd (upd (upd (upd gg_1 (16 : Int32).toNatClampNeg (vp_nar .byte ((((p_0).toUInt32 >>> ((24 : Int32).toUInt32 &&& Int32.toUInt32 31)).toInt32).toInt8.toInt32))) (17 : Int32).toNatClampNeg (vp_nar .byte ((((p_0).toUInt32 >>> ((16 : Int32).toUInt32 &&& Int32.toUInt32 31)).toInt32).toInt8.toInt32))) (18 : Int32).toNatClampNeg (vp_nar .byte ((((p_0).toUInt32 >>> ((8 : Int32).toUInt32 &&& Int32.toUInt32 31)).toInt32).toInt8.toInt32))) (19 : Int32).toNatClampNeg (vp_nar .byte ((p_0).toInt8.toInt32)), by rw [ht]; exact hP, va_K.moved hW.alike hK, by rw [hAe]; exact hD⟩, by rw [hAe]; exact hS.F ht⟩) (by rw [hAe]; exact hS.2.2) d_Tp_append_80
def f_WM_feed (p_0 : Int32) (p_1 : Int32) (p_2 : Int32) (p_3 : Int32) (p_4 : Int32) : Int32 := 20
set_option maxHeartbeats 4000000 in
set_option maxRecDepth 100000 in
theorem c_WM_feed (l : Launch) (dC : Nat → ClassId) (dI : Nat → Nat → Nat) (a : Nat → Nat) (k : Nat → ClassId) (L : List Nat) (hL : L.length = 40) (sz : Nat) (p_0 : Int32) (p_1 : Int32) (p_2 : Int32) (p_3 : Int32) (p_4 : Int32)  : Met l y_WM_feed (.code y_WM_feed b_WM_feed 6 (some .int) :: TB) ({ frames := 1, cells := 0, slots := 0, locals := 21 }) (va_Pc [.ref (a 0), .int p_0, .int p_1, .int p_2, .int p_3, .int p_4] (PC dC dI (XW a k L) (XT k) sz)) (va_Qi (fun r (_ : Unit) => r = f_WM_feed p_0 p_1 p_2 p_3 p_4) (fun (_ : Unit) (_ : State) => True) (va_A (XW a k L) sz)) 0 0 (va_A (XW a k L) sz) := by
  refine Met.ofW (cc := b_WM_feed) (maxL := 6) (ret := (some .int)) (by decide) rfl ?_
  intro p e s m args below meth c s₁ B hml hv
  obtain ⟨rfl, hsz, hP, hK, hD0, hN⟩ := hv
  have hx := B.exec
  have hb := B.bytes
  have hr := B.returns
  have hts := atoms_spec (ws := (.code y_WM_feed b_WM_feed 6 (some .int) :: TB)) B.pre
  have htb := fun w (h : w ∈ TB) => hts w (List.mem_cons_of_mem _ h)
  have hown : s.vm.findClass R_WM = some m.cls := findClass_of_methodNamed B.named
  have hlocks := B.notSynchronized
  have hl := lv_entry ([.ref (a 0), .int p_0, .int p_1, .int p_2, .int p_3, .int p_4]) (n := 6) (Nat.le_of_ble_eq_true rfl)
  rw [lg_entry_eq]
  generalize (lg_sl ([.ref (a 0), .int p_0, .int p_1, .int p_2, .int p_3, .int p_4]) ++ List.replicate (6 - (lg_sl ([.ref (a 0), .int p_0, .int p_1, .int p_2, .int p_3, .int p_4])).length) Slot.unset).toArray = ls at hl ⊢
  have hl : lv_has ls 6 [(0, .ref (a 0)), (1, .int p_0), (2, .int p_1), (3, .int p_2), (4, .int p_3), (5, .int p_4)] := hl
  subst hsz
  have hD := hD0.self (sz := s.heap.size)
  obtain ⟨A, hAe⟩ : ∃ A, va_A (XW a k L) s.heap.size = A := ⟨_, rfl⟩
  rw [hAe] at hD
  have hA : ∀ q : Nat, s.heap.size ≤ q → A q := fun q h => by rw [← hAe]; exact Or.inr h
  have hS : va_S A s.heap s.heap [] := va_S.rf
  have hP := hP
  refine lv_aload_n hx hb d_WM_feed_0 rfl (lv_at hl 0 rfl) ?_
  refine va_get (D := (dC, dI)) (ci := 0) (v := .ref (a 10)) (C := R_WM) (T := F_WM) (N := 13) hx hb htb i_WM hown hK hP 0 rfl rfl 5 (by decide) (htb (.fieldLink R_WM 43 "WaterMen" "tape" "LWaterMen$Tape;") tw_87) (fun _ h9 => h9) rfl d_WM_feed_1 ?_
  refine vp_callSi (va_Run.run (va_runV (As := []) (rest := []) ⟨hx, hb, hml, hown, htb⟩ (c_Tp_hasRoomForFive l dC dI a k L hL) (cwV 0 htb (gd_V tw_91 tw_92 tw_93 tw_90 tw_89) rfl rfl rfl (by decide +kernel) ⟨Nat.le_of_ble_eq_true rfl, Nat.le_of_ble_eq_true rfl⟩) ⟨pr_blind, va_recv hK hP (ci := 4) (q0 := 10) rfl rfl, pr_pre hP hK hN⟩ rfl rfl hl.1 rfl (lv_room (Nat.le_of_ble_eq_true rfl)) d_WM_feed_4 ⟨Nat.le_of_ble_eq_true rfl, Nat.le_of_ble_eq_true rfl⟩)) (fun r er => ?_)
  subst er
  refine hb_ti 1 rfl ?_
  refine lv_if_ne (tgt := 13) hx hb d_WM_feed_7 (by decide) (fun _ => ?_) (fun h => absurd h (by decide +kernel))
  have hP := hP.sub (ws' := [((a 0), .inr (0, [.ref (a 1), .ref (a 6), .ref (a 7), .ref (a 8), .ref (a 9), .ref (a 10), .ref (a 12), .int 0, .int 0, .int 0, .int 0, .int 0, .ref (a 15)])), ((a 10), .inr (4, [.ref (a 11), .int 0, .int 0, .int 0, .int 0, .int 0])), ((a 11), .inl ((k 11), 400, .inl (fun _ => 0)))]) [0, 10, 11] rfl
  have hD := hD.sub (ws' := [((a 0), .inr (0, [.ref (a 1), .ref (a 6), .ref (a 7), .ref (a 8), .ref (a 9), .ref (a 10), .ref (a 12), .int 0, .int 0, .int 0, .int 0, .int 0, .ref (a 15)])), ((a 10), .inr (4, [.ref (a 11), .int 0, .int 0, .int 0, .int 0, .int 0])), ((a 11), .inl ((k 11), 400, .inl (fun _ => 0)))]) [0, 10, 11] (by decide) rfl
  have hK := hK.sub (tys' := [((k 11), .byte)]) [8] rfl
  refine lv_aload_n hx hb d_WM_feed_13 rfl (lv_at hl 0 rfl) ?_
  refine va_get (D := (dC, dI)) (ci := 0) (v := .ref (a 10)) (C := R_WM) (T := F_WM) (N := 13) hx hb htb i_WM hown hK hP 0 rfl rfl 5 (by decide) (htb (.fieldLink R_WM 43 "WaterMen" "tape" "LWaterMen$Tape;") tw_87) (fun _ h9 => h9) rfl d_WM_feed_14 ?_
  refine lv_iload_n hx hb d_WM_feed_17 rfl (lv_at hl 1 rfl) ?_
  have hPc := hP.sub (ws' := [((a 10), .inr (4, [.ref (a 11), .int 0, .int 0, .int 0, .int 0, .int 0])), ((a 11), .inl ((k 11), 400, .inl (fun _ => 0)))]) [1, 2] rfl
  have hDc := hD.sub (ws' := [((a 10), .inr (4, [.ref (a 11), .int 0, .int 0, .int 0, .int 0, .int 0])), ((a 11), .inl ((k 11), 400, .inl (fun _ => 0)))]) [1, 2] (by decide) rfl
  have hKc := hK.sub (tys' := [((k 11), .byte)]) [0] rfl
  have hFc := va_free (wc := [((a 10), .inr (4, [.ref (a 11), .int 0, .int 0, .int 0, .int 0, .int 0])), ((a 11), .inl ((k 11), 400, .inl (fun _ => 0)))]) hD hS hA [1, 2] rfl
  refine va_callv (va_runV (As := [.int p_0]) (rest := []) ⟨hx, hb, hml, hown, htb⟩ (c_Tp_append_c0 l dC dI (a 10) (a 11) (k 11) _ p_0) (cwV 1 htb (gd_V tw_96 tw_97 tw_98 tw_90 tw_95) rfl rfl rfl (by decide +kernel) ⟨Nat.le_of_ble_eq_true rfl, Nat.le_of_ble_eq_true rfl⟩) ⟨pc_blind, va_recv hKc hPc (ci := 4) (q0 := 0) rfl rfl, pc_pre hPc hKc hDc hN⟩ rfl rfl hl.1 rfl (lv_room (Nat.le_of_ble_eq_true rfl)) d_WM_feed_18 ⟨Nat.le_of_ble_eq_true rfl, Nat.le_of_ble_eq_true rfl⟩) hS (fun q _ h => hFc q h) hFc (fun u t H1 locs ht hvm hw hB hz1 hk1 hS => ?_)
  obtain ⟨z_1, hP1, hK1, hD1⟩ := hB
  rw [ht] at hP1
  have hK1 := va_K.moved hvm.symm hK1
  obtain ⟨hP, hD⟩ := va_join (wr := [((a 0), .inr (0, [.ref (a 1), .ref (a 6), .ref (a 7), .ref (a 8), .ref (a 9), .ref (a 10), .ref (a 12), .int 0, .int 0, .int 0, .int 0, .int 0, .ref (a 15)]))]) (w1 := [((a 10), .inr (4, [.ref (a 11), .int 4, .int 0, .int 0, .int 0, .int 0])), ((a 11), .inl ((k 11), 400, .inl z_1))]) hP hD [1, 2] [0] rfl rfl (by decide) (by decide) hk1 hFc hP1 hD1
  have hK := (hK.sub (tys' := []) [] rfl).app hK1
  generalize H1 = H at hP hS ⊢
  have hP : va_P (dC, dI) vwCl [((a 0), .inr (0, [.ref (a 1), .ref (a 6), .ref (a 7), .ref (a 8), .ref (a 9), .ref (a 10), .ref (a 12), .int 0, .int 0, .int 0, .int 0, .int 0, .ref (a 15)])), ((a 10), .inr (4, [.ref (a 11), .int 4, .int 0, .int 0, .int 0, .int 0])), ((a 11), .inl ((k 11), 400, .inl z_1))] H := hP
  have hD : va_D A [((a 0), .inr (0, [.ref (a 1), .ref (a 6), .ref (a 7), .ref (a 8), .ref (a 9), .ref (a 10), .ref (a 12), .int 0, .int 0, .int 0, .int 0, .int 0, .ref (a 15)])), ((a 10), .inr (4, [.ref (a 11), .int 4, .int 0, .int 0, .int 0, .int 0])), ((a 11), .inl ((k 11), 400, .inl z_1))] := hD
  have hK : va_K (dC, dI) vwCl [((k 11), .byte)] s := hK
  refine lv_aload_n hx hb d_WM_feed_21 rfl (lv_at hl 0 rfl) ?_
  refine va_get (D := (dC, dI)) (ci := 0) (v := .ref (a 10)) (C := R_WM) (T := F_WM) (N := 13) hx hb htb i_WM hown hK hP 0 rfl rfl 5 (by decide) (htb (.fieldLink R_WM 43 "WaterMen" "tape" "LWaterMen$Tape;") tw_87) (fun _ h9 => h9) rfl d_WM_feed_22 ?_
  refine lv_iload_n hx hb d_WM_feed_25 rfl (lv_at hl 2 rfl) ?_
  have hPc := hP.sub (ws' := [((a 10), .inr (4, [.ref (a 11), .int 4, .int 0, .int 0, .int 0, .int 0])), ((a 11), .inl ((k 11), 400, .inl z_1))]) [1, 2] rfl
  have hDc := hD.sub (ws' := [((a 10), .inr (4, [.ref (a 11), .int 4, .int 0, .int 0, .int 0, .int 0])), ((a 11), .inl ((k 11), 400, .inl z_1))]) [1, 2] (by decide) rfl
  have hKc := hK.sub (tys' := [((k 11), .byte)]) [0] rfl
  have hFc := va_free (wc := [((a 10), .inr (4, [.ref (a 11), .int 4, .int 0, .int 0, .int 0, .int 0])), ((a 11), .inl ((k 11), 400, .inl z_1))]) hD hS hA [1, 2] rfl
  refine va_callv (va_runV (As := [.int p_1]) (rest := []) ⟨hx, hb, hml, hown, htb⟩ (c_Tp_append_c1 l dC dI (a 10) (a 11) (k 11) z_1 _ p_1) (cwV 1 htb (gd_V tw_96 tw_97 tw_98 tw_90 tw_95) rfl rfl rfl (by decide +kernel) ⟨Nat.le_of_ble_eq_true rfl, Nat.le_of_ble_eq_true rfl⟩) ⟨pc_blind, va_recv hKc hPc (ci := 4) (q0 := 0) rfl rfl, pc_pre hPc hKc hDc hN⟩ rfl rfl hl.1 rfl (lv_room (Nat.le_of_ble_eq_true rfl)) d_WM_feed_26 ⟨Nat.le_of_ble_eq_true rfl, Nat.le_of_ble_eq_true rfl⟩) hS (fun q _ h => hFc q h) hFc (fun u t H1 locs ht hvm hw hB hz1 hk1 hS => ?_)
  obtain ⟨z_2, hP1, hK1, hD1⟩ := hB
  rw [ht] at hP1
  have hK1 := va_K.moved hvm.symm hK1
  obtain ⟨hP, hD⟩ := va_join (wr := [((a 0), .inr (0, [.ref (a 1), .ref (a 6), .ref (a 7), .ref (a 8), .ref (a 9), .ref (a 10), .ref (a 12), .int 0, .int 0, .int 0, .int 0, .int 0, .ref (a 15)]))]) (w1 := [((a 10), .inr (4, [.ref (a 11), .int 8, .int 0, .int 0, .int 0, .int 0])), ((a 11), .inl ((k 11), 400, .inl z_2))]) hP hD [1, 2] [0] rfl rfl (by decide) (by decide) hk1 hFc hP1 hD1
  have hK := (hK.sub (tys' := []) [] rfl).app hK1
  generalize H1 = H at hP hS ⊢
  have hP : va_P (dC, dI) vwCl [((a 0), .inr (0, [.ref (a 1), .ref (a 6), .ref (a 7), .ref (a 8), .ref (a 9), .ref (a 10), .ref (a 12), .int 0, .int 0, .int 0, .int 0, .int 0, .ref (a 15)])), ((a 10), .inr (4, [.ref (a 11), .int 8, .int 0, .int 0, .int 0, .int 0])), ((a 11), .inl ((k 11), 400, .inl z_2))] H := hP
  have hD : va_D A [((a 0), .inr (0, [.ref (a 1), .ref (a 6), .ref (a 7), .ref (a 8), .ref (a 9), .ref (a 10), .ref (a 12), .int 0, .int 0, .int 0, .int 0, .int 0, .ref (a 15)])), ((a 10), .inr (4, [.ref (a 11), .int 8, .int 0, .int 0, .int 0, .int 0])), ((a 11), .inl ((k 11), 400, .inl z_2))] := hD
  have hK : va_K (dC, dI) vwCl [((k 11), .byte)] s := hK
  refine lv_aload_n hx hb d_WM_feed_29 rfl (lv_at hl 0 rfl) ?_
  refine va_get (D := (dC, dI)) (ci := 0) (v := .ref (a 10)) (C := R_WM) (T := F_WM) (N := 13) hx hb htb i_WM hown hK hP 0 rfl rfl 5 (by decide) (htb (.fieldLink R_WM 43 "WaterMen" "tape" "LWaterMen$Tape;") tw_87) (fun _ h9 => h9) rfl d_WM_feed_30 ?_
  refine lv_iload_n hx hb d_WM_feed_33 rfl (lv_at hl 3 rfl) ?_
  have hPc := hP.sub (ws' := [((a 10), .inr (4, [.ref (a 11), .int 8, .int 0, .int 0, .int 0, .int 0])), ((a 11), .inl ((k 11), 400, .inl z_2))]) [1, 2] rfl
  have hDc := hD.sub (ws' := [((a 10), .inr (4, [.ref (a 11), .int 8, .int 0, .int 0, .int 0, .int 0])), ((a 11), .inl ((k 11), 400, .inl z_2))]) [1, 2] (by decide) rfl
  have hKc := hK.sub (tys' := [((k 11), .byte)]) [0] rfl
  have hFc := va_free (wc := [((a 10), .inr (4, [.ref (a 11), .int 8, .int 0, .int 0, .int 0, .int 0])), ((a 11), .inl ((k 11), 400, .inl z_2))]) hD hS hA [1, 2] rfl
  refine va_callv (va_runV (As := [.int p_2]) (rest := []) ⟨hx, hb, hml, hown, htb⟩ (c_Tp_append_c2 l dC dI (a 10) (a 11) (k 11) z_2 _ p_2) (cwV 1 htb (gd_V tw_96 tw_97 tw_98 tw_90 tw_95) rfl rfl rfl (by decide +kernel) ⟨Nat.le_of_ble_eq_true rfl, Nat.le_of_ble_eq_true rfl⟩) ⟨pc_blind, va_recv hKc hPc (ci := 4) (q0 := 0) rfl rfl, pc_pre hPc hKc hDc hN⟩ rfl rfl hl.1 rfl (lv_room (Nat.le_of_ble_eq_true rfl)) d_WM_feed_34 ⟨Nat.le_of_ble_eq_true rfl, Nat.le_of_ble_eq_true rfl⟩) hS (fun q _ h => hFc q h) hFc (fun u t H1 locs ht hvm hw hB hz1 hk1 hS => ?_)
  obtain ⟨z_3, hP1, hK1, hD1⟩ := hB
  rw [ht] at hP1
  have hK1 := va_K.moved hvm.symm hK1
  obtain ⟨hP, hD⟩ := va_join (wr := [((a 0), .inr (0, [.ref (a 1), .ref (a 6), .ref (a 7), .ref (a 8), .ref (a 9), .ref (a 10), .ref (a 12), .int 0, .int 0, .int 0, .int 0, .int 0, .ref (a 15)]))]) (w1 := [((a 10), .inr (4, [.ref (a 11), .int 12, .int 0, .int 0, .int 0, .int 0])), ((a 11), .inl ((k 11), 400, .inl z_3))]) hP hD [1, 2] [0] rfl rfl (by decide) (by decide) hk1 hFc hP1 hD1
  have hK := (hK.sub (tys' := []) [] rfl).app hK1
  generalize H1 = H at hP hS ⊢
  have hP : va_P (dC, dI) vwCl [((a 0), .inr (0, [.ref (a 1), .ref (a 6), .ref (a 7), .ref (a 8), .ref (a 9), .ref (a 10), .ref (a 12), .int 0, .int 0, .int 0, .int 0, .int 0, .ref (a 15)])), ((a 10), .inr (4, [.ref (a 11), .int 12, .int 0, .int 0, .int 0, .int 0])), ((a 11), .inl ((k 11), 400, .inl z_3))] H := hP
  have hD : va_D A [((a 0), .inr (0, [.ref (a 1), .ref (a 6), .ref (a 7), .ref (a 8), .ref (a 9), .ref (a 10), .ref (a 12), .int 0, .int 0, .int 0, .int 0, .int 0, .ref (a 15)])), ((a 10), .inr (4, [.ref (a 11), .int 12, .int 0, .int 0, .int 0, .int 0])), ((a 11), .inl ((k 11), 400, .inl z_3))] := hD
  have hK : va_K (dC, dI) vwCl [((k 11), .byte)] s := hK
  refine lv_aload_n hx hb d_WM_feed_37 rfl (lv_at hl 0 rfl) ?_
  refine va_get (D := (dC, dI)) (ci := 0) (v := .ref (a 10)) (C := R_WM) (T := F_WM) (N := 13) hx hb htb i_WM hown hK hP 0 rfl rfl 5 (by decide) (htb (.fieldLink R_WM 43 "WaterMen" "tape" "LWaterMen$Tape;") tw_87) (fun _ h9 => h9) rfl d_WM_feed_38 ?_
  refine lv_iload hx hb d_WM_feed_41 (lv_at hl 4 rfl) ?_
  have hPc := hP.sub (ws' := [((a 10), .inr (4, [.ref (a 11), .int 12, .int 0, .int 0, .int 0, .int 0])), ((a 11), .inl ((k 11), 400, .inl z_3))]) [1, 2] rfl
  have hDc := hD.sub (ws' := [((a 10), .inr (4, [.ref (a 11), .int 12, .int 0, .int 0, .int 0, .int 0])), ((a 11), .inl ((k 11), 400, .inl z_3))]) [1, 2] (by decide) rfl
  have hKc := hK.sub (tys' := [((k 11), .byte)]) [0] rfl
  have hFc := va_free (wc := [((a 10), .inr (4, [.ref (a 11), .int 12, .int 0, .int 0, .int 0, .int 0])), ((a 11), .inl ((k 11), 400, .inl z_3))]) hD hS hA [1, 2] rfl
  refine va_callv (va_runV (As := [.int p_3]) (rest := []) ⟨hx, hb, hml, hown, htb⟩ (c_Tp_append_c3 l dC dI (a 10) (a 11) (k 11) z_3 _ p_3) (cwV 1 htb (gd_V tw_96 tw_97 tw_98 tw_90 tw_95) rfl rfl rfl (by decide +kernel) ⟨Nat.le_of_ble_eq_true rfl, Nat.le_of_ble_eq_true rfl⟩) ⟨pc_blind, va_recv hKc hPc (ci := 4) (q0 := 0) rfl rfl, pc_pre hPc hKc hDc hN⟩ rfl rfl hl.1 rfl (lv_room (Nat.le_of_ble_eq_true rfl)) d_WM_feed_43 ⟨Nat.le_of_ble_eq_true rfl, Nat.le_of_ble_eq_true rfl⟩) hS (fun q _ h => hFc q h) hFc (fun u t H1 locs ht hvm hw hB hz1 hk1 hS => ?_)
  obtain ⟨z_4, hP1, hK1, hD1⟩ := hB
  rw [ht] at hP1
  have hK1 := va_K.moved hvm.symm hK1
  obtain ⟨hP, hD⟩ := va_join (wr := [((a 0), .inr (0, [.ref (a 1), .ref (a 6), .ref (a 7), .ref (a 8), .ref (a 9), .ref (a 10), .ref (a 12), .int 0, .int 0, .int 0, .int 0, .int 0, .ref (a 15)]))]) (w1 := [((a 10), .inr (4, [.ref (a 11), .int 16, .int 0, .int 0, .int 0, .int 0])), ((a 11), .inl ((k 11), 400, .inl z_4))]) hP hD [1, 2] [0] rfl rfl (by decide) (by decide) hk1 hFc hP1 hD1
  have hK := (hK.sub (tys' := []) [] rfl).app hK1
  generalize H1 = H at hP hS ⊢
  have hP : va_P (dC, dI) vwCl [((a 0), .inr (0, [.ref (a 1), .ref (a 6), .ref (a 7), .ref (a 8), .ref (a 9), .ref (a 10), .ref (a 12), .int 0, .int 0, .int 0, .int 0, .int 0, .ref (a 15)])), ((a 10), .inr (4, [.ref (a 11), .int 16, .int 0, .int 0, .int 0, .int 0])), ((a 11), .inl ((k 11), 400, .inl z_4))] H := hP
  have hD : va_D A [((a 0), .inr (0, [.ref (a 1), .ref (a 6), .ref (a 7), .ref (a 8), .ref (a 9), .ref (a 10), .ref (a 12), .int 0, .int 0, .int 0, .int 0, .int 0, .ref (a 15)])), ((a 10), .inr (4, [.ref (a 11), .int 16, .int 0, .int 0, .int 0, .int 0])), ((a 11), .inl ((k 11), 400, .inl z_4))] := hD
  have hK : va_K (dC, dI) vwCl [((k 11), .byte)] s := hK
  refine lv_aload_n hx hb d_WM_feed_46 rfl (lv_at hl 0 rfl) ?_
  refine va_get (D := (dC, dI)) (ci := 0) (v := .ref (a 10)) (C := R_WM) (T := F_WM) (N := 13) hx hb htb i_WM hown hK hP 0 rfl rfl 5 (by decide) (htb (.fieldLink R_WM 43 "WaterMen" "tape" "LWaterMen$Tape;") tw_87) (fun _ h9 => h9) rfl d_WM_feed_47 ?_
  refine lv_iload hx hb d_WM_feed_50 (lv_at hl 5 rfl) ?_
  have hPc := hP.sub (ws' := [((a 10), .inr (4, [.ref (a 11), .int 16, .int 0, .int 0, .int 0, .int 0])), ((a 11), .inl ((k 11), 400, .inl z_4))]) [1, 2] rfl
  have hDc := hD.sub (ws' := [((a 10), .inr (4, [.ref (a 11), .int 16, .int 0, .int 0, .int 0, .int 0])), ((a 11), .inl ((k 11), 400, .inl z_4))]) [1, 2] (by decide) rfl
  have hKc := hK.sub (tys' := [((k 11), .byte)]) [0] rfl
  have hFc := va_free (wc := [((a 10), .inr (4, [.ref (a 11), .int 16, .int 0, .int 0, .int 0, .int 0])), ((a 11), .inl ((k 11), 400, .inl z_4))]) hD hS hA [1, 2] rfl
  refine va_callv (va_runV (As := [.int p_4]) (rest := []) ⟨hx, hb, hml, hown, htb⟩ (c_Tp_append_c4 l dC dI (a 10) (a 11) (k 11) z_4 _ p_4) (cwV 1 htb (gd_V tw_96 tw_97 tw_98 tw_90 tw_95) rfl rfl rfl (by decide +kernel) ⟨Nat.le_of_ble_eq_true rfl, Nat.le_of_ble_eq_true rfl⟩) ⟨pc_blind, va_recv hKc hPc (ci := 4) (q0 := 0) rfl rfl, pc_pre hPc hKc hDc hN⟩ rfl rfl hl.1 rfl (lv_room (Nat.le_of_ble_eq_true rfl)) d_WM_feed_52 ⟨Nat.le_of_ble_eq_true rfl, Nat.le_of_ble_eq_true rfl⟩) hS (fun q _ h => hFc q h) hFc (fun u t H1 locs ht hvm hw hB hz1 hk1 hS => ?_)
  obtain ⟨z_5, hP1, hK1, hD1⟩ := hB
  rw [ht] at hP1
  have hK1 := va_K.moved hvm.symm hK1
  obtain ⟨hP, hD⟩ := va_join (wr := [((a 0), .inr (0, [.ref (a 1), .ref (a 6), .ref (a 7), .ref (a 8), .ref (a 9), .ref (a 10), .ref (a 12), .int 0, .int 0, .int 0, .int 0, .int 0, .ref (a 15)]))]) (w1 := [((a 10), .inr (4, [.ref (a 11), .int 20, .int 0, .int 0, .int 0, .int 0])), ((a 11), .inl ((k 11), 400, .inl z_5))]) hP hD [1, 2] [0] rfl rfl (by decide) (by decide) hk1 hFc hP1 hD1
  have hK := (hK.sub (tys' := []) [] rfl).app hK1
  generalize H1 = H at hP hS ⊢
  have hP : va_P (dC, dI) vwCl [((a 0), .inr (0, [.ref (a 1), .ref (a 6), .ref (a 7), .ref (a 8), .ref (a 9), .ref (a 10), .ref (a 12), .int 0, .int 0, .int 0, .int 0, .int 0, .ref (a 15)])), ((a 10), .inr (4, [.ref (a 11), .int 20, .int 0, .int 0, .int 0, .int 0])), ((a 11), .inl ((k 11), 400, .inl z_5))] H := hP
  have hD : va_D A [((a 0), .inr (0, [.ref (a 1), .ref (a 6), .ref (a 7), .ref (a 8), .ref (a 9), .ref (a 10), .ref (a 12), .int 0, .int 0, .int 0, .int 0, .int 0, .ref (a 15)])), ((a 10), .inr (4, [.ref (a 11), .int 20, .int 0, .int 0, .int 0, .int 0])), ((a 11), .inl ((k 11), 400, .inl z_5))] := hD
  have hK : va_K (dC, dI) vwCl [((k 11), .byte)] s := hK
  refine lv_aload_n hx hb d_WM_feed_55 rfl (lv_at hl 0 rfl) ?_
  refine va_get (D := (dC, dI)) (ci := 0) (v := .ref (a 10)) (C := R_WM) (T := F_WM) (N := 13) hx hb htb i_WM hown hK hP 0 rfl rfl 5 (by decide) (htb (.fieldLink R_WM 43 "WaterMen" "tape" "LWaterMen$Tape;") tw_87) (fun _ h9 => h9) rfl d_WM_feed_56 ?_
  refine va_get (D := (dC, dI)) (ci := 4) (v := .int 20) (C := R_Tp) (T := F_Tp) (N := 6) hx hb htb i_Tp hown hK hP 1 rfl rfl 1 (by decide) (htb (.fieldLink R_WM 207 "WaterMen$Tape" "length" "I") tw_99) (fun _ h9 => h9) rfl d_WM_feed_59 ?_
  refine W.widen (k := 0) (n := 0) (Nat.le_of_ble_eq_true rfl) (Nat.le_of_ble_eq_true rfl) ?_
  exact W.iret (v := 20) hx hb hr (fun t ht hW => ⟨⟨20, (), rfl, rfl, trivial⟩, by rw [hAe]; exact hS.F ht⟩) (by rw [hAe]; exact hS.2.2) d_WM_feed_62
def f_WM_end (p_0 : Int32) : Int32 := if p_0 < 0 then ((-1)) else (if p_0 ≤ 0 then (p_0) else ((-1)))
set_option maxHeartbeats 4000000 in
set_option maxRecDepth 100000 in
theorem c_WM_end (l : Launch) (dC : Nat → ClassId) (dI : Nat → Nat → Nat) (a : Nat → Nat) (k : Nat → ClassId) (L : List Nat) (hL : L.length = 40) (sz : Nat) (p_0 : Int32)  : Met l y_WM_end (.code y_WM_end b_WM_end 2 (some .int) :: TB) ({ frames := 0, cells := 0, slots := 0, locals := 0 }) (va_Pc [.ref (a 0), .int p_0] (PC dC dI (XW a k L) (XT k) sz)) (va_Qi (fun r (_ : Unit) => r = f_WM_end p_0) (fun (_ : Unit) (_ : State) => True) (va_A (XW a k L) sz)) 0 0 (va_A (XW a k L) sz) := by
  refine Met.ofW (cc := b_WM_end) (maxL := 2) (ret := (some .int)) (by decide) rfl ?_
  intro p e s m args below meth c s₁ B hml hv
  obtain ⟨rfl, hsz, hP, hK, hD0, hN⟩ := hv
  have hx := B.exec
  have hb := B.bytes
  have hr := B.returns
  have hts := atoms_spec (ws := (.code y_WM_end b_WM_end 2 (some .int) :: TB)) B.pre
  have htb := fun w (h : w ∈ TB) => hts w (List.mem_cons_of_mem _ h)
  have hown : s.vm.findClass R_WM = some m.cls := findClass_of_methodNamed B.named
  have hlocks := B.notSynchronized
  have hl := lv_entry ([.ref (a 0), .int p_0]) (n := 2) (Nat.le_of_ble_eq_true rfl)
  rw [lg_entry_eq]
  generalize (lg_sl ([.ref (a 0), .int p_0]) ++ List.replicate (2 - (lg_sl ([.ref (a 0), .int p_0])).length) Slot.unset).toArray = ls at hl ⊢
  have hl : lv_has ls 2 [(0, .ref (a 0)), (1, .int p_0)] := hl
  subst hsz
  have hD := hD0.self (sz := s.heap.size)
  obtain ⟨A, hAe⟩ : ∃ A, va_A (XW a k L) s.heap.size = A := ⟨_, rfl⟩
  rw [hAe] at hD
  have hA : ∀ q : Nat, s.heap.size ≤ q → A q := fun q h => by rw [← hAe]; exact Or.inr h
  have hS : va_S A s.heap s.heap [] := va_S.rf
  have hP := hP
  refine lv_iload_n hx hb d_WM_end_0 rfl (lv_at hl 1 rfl) ?_
  refine lv_if_lt (tgt := 15) hx hb d_WM_end_1 (by decide) (fun c_1 => ?_) (fun c_1 => ?_)
  · refine lv_iconst (v := (-1)) hx hb d_WM_end_15 (by decide +kernel) ?_
    refine W.widen (k := 0) (n := 0) (Nat.le_of_ble_eq_true rfl) (Nat.le_of_ble_eq_true rfl) ?_
    exact W.iret (v := (-1)) hx hb hr (fun t ht hW => ⟨⟨(-1), (), rfl, (by unfold f_WM_end; rw [if_pos c_1]), trivial⟩, by rw [hAe]; exact hS.F ht⟩) (by rw [hAe]; exact hS.2.2) d_WM_end_16
  · refine lv_iload_n hx hb d_WM_end_4 rfl (lv_at hl 1 rfl) ?_
    refine lv_aload_n hx hb d_WM_end_5 rfl (lv_at hl 0 rfl) ?_
    refine va_get (D := (dC, dI)) (ci := 0) (v := .ref (a 10)) (C := R_WM) (T := F_WM) (N := 13) hx hb htb i_WM hown hK hP 0 rfl rfl 5 (by decide) (htb (.fieldLink R_WM 43 "WaterMen" "tape" "LWaterMen$Tape;") tw_87) (fun _ h9 => h9) rfl d_WM_end_6 ?_
    refine va_get (D := (dC, dI)) (ci := 4) (v := .int 0) (C := R_Tp) (T := F_Tp) (N := 6) hx hb htb i_Tp hown hK hP 10 rfl rfl 1 (by decide) (htb (.fieldLink R_WM 207 "WaterMen$Tape" "length" "I") tw_99) (fun _ h9 => h9) rfl d_WM_end_9 ?_
    refine lv_icmp_le (tgt := 17) hx hb d_WM_end_12 (by decide) (fun c_2 => ?_) (fun c_2 => ?_)
    · refine lv_aload_n hx hb d_WM_end_17 rfl (lv_at hl 0 rfl) ?_
      refine va_get (D := (dC, dI)) (ci := 0) (v := .ref (a 10)) (C := R_WM) (T := F_WM) (N := 13) hx hb htb i_WM hown hK hP 0 rfl rfl 5 (by decide) (htb (.fieldLink R_WM 43 "WaterMen" "tape" "LWaterMen$Tape;") tw_87) (fun _ h9 => h9) rfl d_WM_end_18 ?_
      refine lv_iload_n hx hb d_WM_end_21 rfl (lv_at hl 1 rfl) ?_
      refine va_put (D := (dC, dI)) (ci := 4) (v := .int p_0) (ty := .int) (C := R_Tp) (T := F_Tp) (N := 6) hx hb htb i_Tp t_Tp t_Tp_ok n_Tp hown hK hP hD hS 10 rfl rfl 1 (by decide) (htb (.fieldLink R_WM 207 "WaterMen$Tape" "length" "I") tw_99) (fun _ h9 => h9) rfl (by decide +kernel) rfl rfl (Nat.le_of_ble_eq_true rfl) d_WM_end_22 (fun H locs hP hD hS => ?_)
      refine lv_iload_n hx hb d_WM_end_25 rfl (lv_at hl 1 rfl) ?_
      refine W.widen (k := 0) (n := 0) (Nat.le_of_ble_eq_true rfl) (Nat.le_of_ble_eq_true rfl) ?_
      exact W.iret (v := p_0) hx hb hr (fun t ht hW => ⟨⟨p_0, (), rfl, (by unfold f_WM_end; rw [if_neg c_1, if_pos c_2]), trivial⟩, by rw [hAe]; exact hS.F ht⟩) (by rw [hAe]; exact hS.2.2) d_WM_end_26
    · refine lv_iconst (v := (-1)) hx hb d_WM_end_15 (by decide +kernel) ?_
      refine W.widen (k := 0) (n := 0) (Nat.le_of_ble_eq_true rfl) (Nat.le_of_ble_eq_true rfl) ?_
      exact W.iret (v := (-1)) hx hb hr (fun t ht hW => ⟨⟨(-1), (), rfl, (by unfold f_WM_end; rw [if_neg c_1, if_neg c_2]), trivial⟩, by rw [hAe]; exact hS.F ht⟩) (by rw [hAe]; exact hS.2.2) d_WM_end_16
set_option maxHeartbeats 4000000 in
set_option maxRecDepth 100000 in
theorem c_Or_clear_c5 (l : Launch) (dC : Nat → ClassId) (dI : Nat → Nat → Nat) (h_0 y_0_2 y_0_3 h_1 : Nat) (kk_1 : ClassId) (sz : Nat)   : Met l y_Or_clear (.code y_Or_clear b_Or_clear 2 none :: TB) ({ frames := 0, cells := 0, slots := 0, locals := 0 }) (va_Pc [.ref h_0] (PC dC dI [(h_0, .inr (3, [.int 0, .int 0, .ref y_0_2, .ref y_0_3, .ref h_1, .int 0, .int 0, .int 0, .int 0])), (h_1, .inl (kk_1, 9, .inl (fun _ => 0)))] [(kk_1, .int)] sz)) (va_Qv (fun (_ : Unit) => True) (fun (_ : Unit) t => ∃ (g_1 : Nat → Int32) , va_P (dC, dI) vwCl [(h_0, .inr (3, [.int 0, .int 0, .ref y_0_2, .ref y_0_3, .ref h_1, .int 0, .int 0, .int 0, .int 0])), (h_1, .inl (kk_1, 9, .inl g_1))] t.heap ∧ va_K (dC, dI) vwCl [(kk_1, .int)] t ∧ va_D (va_A [(h_0, .inr (3, [.int 0, .int 0, .ref y_0_2, .ref y_0_3, .ref h_1, .int 0, .int 0, .int 0, .int 0])), (h_1, .inl (kk_1, 9, .inl (fun _ => 0)))] sz) [(h_0, .inr (3, [.int 0, .int 0, .ref y_0_2, .ref y_0_3, .ref h_1, .int 0, .int 0, .int 0, .int 0])), (h_1, .inl (kk_1, 9, .inl g_1))]) (va_A [(h_0, .inr (3, [.int 0, .int 0, .ref y_0_2, .ref y_0_3, .ref h_1, .int 0, .int 0, .int 0, .int 0])), (h_1, .inl (kk_1, 9, .inl (fun _ => 0)))] sz)) 0 0 (va_A [(h_0, .inr (3, [.int 0, .int 0, .ref y_0_2, .ref y_0_3, .ref h_1, .int 0, .int 0, .int 0, .int 0])), (h_1, .inl (kk_1, 9, .inl (fun _ => 0)))] sz) := by
  refine Met.ofW (cc := b_Or_clear) (maxL := 2) (ret := none) (by decide) rfl ?_
  intro p e s m args below meth c s₁ B hml hv
  obtain ⟨rfl, hsz, hP, hK, hD0, hN⟩ := hv
  have hx := B.exec
  have hb := B.bytes
  have hr := B.returns
  have hts := atoms_spec (ws := (.code y_Or_clear b_Or_clear 2 none :: TB)) B.pre
  have htb := fun w (h : w ∈ TB) => hts w (List.mem_cons_of_mem _ h)
  have hown : s.vm.findClass R_Or = some m.cls := findClass_of_methodNamed B.named
  have hlocks := B.notSynchronized
  have hl := lv_entry ([.ref h_0]) (n := 2) (Nat.le_of_ble_eq_true rfl)
  rw [lg_entry_eq]
  generalize (lg_sl ([.ref h_0]) ++ List.replicate (2 - (lg_sl ([.ref h_0])).length) Slot.unset).toArray = ls at hl ⊢
  have hl : lv_has ls 2 [(0, .ref h_0)] := hl
  subst hsz
  have hD := hD0.self (sz := s.heap.size)
  obtain ⟨A, hAe⟩ : ∃ A, va_A [(h_0, .inr (3, [.int 0, .int 0, .ref y_0_2, .ref y_0_3, .ref h_1, .int 0, .int 0, .int 0, .int 0])), (h_1, .inl (kk_1, 9, .inl (fun _ => 0)))] s.heap.size = A := ⟨_, rfl⟩
  rw [hAe] at hD
  have hA : ∀ q : Nat, s.heap.size ≤ q → A q := fun q h => by rw [← hAe]; exact Or.inr h
  have hS : va_S A s.heap s.heap [] := va_S.rf
  have hP := hP
  refine lv_iconst (v := 0) hx hb d_Or_clear_0 (by decide +kernel) ?_
  refine lv_istore_n (lv' := [(1, .int 0), (0, .ref h_0)]) hx hb d_Or_clear_1 rfl hl (by decide) rfl (fun ls hl => ?_)
  refine lv_iload_n hx hb d_Or_clear_2 rfl (lv_at hl 0 rfl) ?_
  refine lv_bipush (v := 9) hx hb d_Or_clear_3 (by decide +kernel) ?_
  refine lv_icmp_ge (tgt := 21) hx hb d_Or_clear_5 (by decide) (fun h => absurd h (by decide +kernel)) (fun _ => ?_)
  refine lv_aload_n hx hb d_Or_clear_8 rfl (lv_at hl 1 rfl) ?_
  refine va_get (D := (dC, dI)) (ci := 3) (v := .ref h_1) (C := R_Or) (T := F_Or) (N := 9) hx hb htb i_Or hown hK hP 0 rfl rfl 4 (by decide) (htb (.fieldLink R_Or 20 "WaterMen$Order" "single" "[I") tw_102) (fun _ h9 => h9) rfl d_Or_clear_9 ?_
  refine lv_iload_n hx hb d_Or_clear_12 rfl (lv_at hl 0 rfl) ?_
  refine lv_iconst (v := (-1)) hx hb d_Or_clear_13 (by decide +kernel) ?_
  refine va_iast hx hb hK hP hD hS 1 0 rfl rfl (by unfold vp_in; decide +kernel) d_Or_clear_14 (fun H locs hP hD hS => ?_)
  have hP : va_P (dC, dI) vwCl [(h_0, .inr (3, [.int 0, .int 0, .ref y_0_2, .ref y_0_3, .ref h_1, .int 0, .int 0, .int 0, .int 0])), (h_1, .inl (kk_1, 9, .inl (upd (fun _ => 0) (0 : Int32).toNatClampNeg (-1))))] H := hP
  have hD : va_D A [(h_0, .inr (3, [.int 0, .int 0, .ref y_0_2, .ref y_0_3, .ref h_1, .int 0, .int 0, .int 0, .int 0])), (h_1, .inl (kk_1, 9, .inl (upd (fun _ => 0) (0 : Int32).toNatClampNeg (-1))))] := hD
  refine lv_iinc (v := 1) (lv' := [(1, .int 1), (0, .ref h_0)]) hx hb d_Or_clear_15 hl (k := 0) rfl (by decide +kernel) (by decide) rfl (fun ls hl => ?_)
  refine lv_goto (tgt := 2) hx hb d_Or_clear_18 (by decide) ?_
  refine lv_iload_n hx hb d_Or_clear_2 rfl (lv_at hl 0 rfl) ?_
  refine lv_bipush (v := 9) hx hb d_Or_clear_3 (by decide +kernel) ?_
  refine lv_icmp_ge (tgt := 21) hx hb d_Or_clear_5 (by decide) (fun h => absurd h (by decide +kernel)) (fun _ => ?_)
  refine lv_aload_n hx hb d_Or_clear_8 rfl (lv_at hl 1 rfl) ?_
  refine va_get (D := (dC, dI)) (ci := 3) (v := .ref h_1) (C := R_Or) (T := F_Or) (N := 9) hx hb htb i_Or hown hK hP 0 rfl rfl 4 (by decide) (htb (.fieldLink R_Or 20 "WaterMen$Order" "single" "[I") tw_102) (fun _ h9 => h9) rfl d_Or_clear_9 ?_
  refine lv_iload_n hx hb d_Or_clear_12 rfl (lv_at hl 0 rfl) ?_
  refine lv_iconst (v := (-1)) hx hb d_Or_clear_13 (by decide +kernel) ?_
  refine va_iast hx hb hK hP hD hS 1 0 rfl rfl (by unfold vp_in; decide +kernel) d_Or_clear_14 (fun H locs hP hD hS => ?_)
  have hP : va_P (dC, dI) vwCl [(h_0, .inr (3, [.int 0, .int 0, .ref y_0_2, .ref y_0_3, .ref h_1, .int 0, .int 0, .int 0, .int 0])), (h_1, .inl (kk_1, 9, .inl (upd (upd (fun _ => 0) (0 : Int32).toNatClampNeg (-1)) (1 : Int32).toNatClampNeg (-1))))] H := hP
  have hD : va_D A [(h_0, .inr (3, [.int 0, .int 0, .ref y_0_2, .ref y_0_3, .ref h_1, .int 0, .int 0, .int 0, .int 0])), (h_1, .inl (kk_1, 9, .inl (upd (upd (fun _ => 0) (0 : Int32).toNatClampNeg (-1)) (1 : Int32).toNatClampNeg (-1))))] := hD
  refine lv_iinc (v := 2) (lv' := [(1, .int 2), (0, .ref h_0)]) hx hb d_Or_clear_15 hl (k := 0) rfl (by decide +kernel) (by decide) rfl (fun ls hl => ?_)
  refine lv_goto (tgt := 2) hx hb d_Or_clear_18 (by decide) ?_
  refine lv_iload_n hx hb d_Or_clear_2 rfl (lv_at hl 0 rfl) ?_
  refine lv_bipush (v := 9) hx hb d_Or_clear_3 (by decide +kernel) ?_
  refine lv_icmp_ge (tgt := 21) hx hb d_Or_clear_5 (by decide) (fun h => absurd h (by decide +kernel)) (fun _ => ?_)
  refine lv_aload_n hx hb d_Or_clear_8 rfl (lv_at hl 1 rfl) ?_
  refine va_get (D := (dC, dI)) (ci := 3) (v := .ref h_1) (C := R_Or) (T := F_Or) (N := 9) hx hb htb i_Or hown hK hP 0 rfl rfl 4 (by decide) (htb (.fieldLink R_Or 20 "WaterMen$Order" "single" "[I") tw_102) (fun _ h9 => h9) rfl d_Or_clear_9 ?_
  refine lv_iload_n hx hb d_Or_clear_12 rfl (lv_at hl 0 rfl) ?_
  refine lv_iconst (v := (-1)) hx hb d_Or_clear_13 (by decide +kernel) ?_
  refine va_iast hx hb hK hP hD hS 1 0 rfl rfl (by unfold vp_in; decide +kernel) d_Or_clear_14 (fun H locs hP hD hS => ?_)
  have hP : va_P (dC, dI) vwCl [(h_0, .inr (3, [.int 0, .int 0, .ref y_0_2, .ref y_0_3, .ref h_1, .int 0, .int 0, .int 0, .int 0])), (h_1, .inl (kk_1, 9, .inl (upd (upd (upd (fun _ => 0) (0 : Int32).toNatClampNeg (-1)) (1 : Int32).toNatClampNeg (-1)) (2 : Int32).toNatClampNeg (-1))))] H := hP
  have hD : va_D A [(h_0, .inr (3, [.int 0, .int 0, .ref y_0_2, .ref y_0_3, .ref h_1, .int 0, .int 0, .int 0, .int 0])), (h_1, .inl (kk_1, 9, .inl (upd (upd (upd (fun _ => 0) (0 : Int32).toNatClampNeg (-1)) (1 : Int32).toNatClampNeg (-1)) (2 : Int32).toNatClampNeg (-1))))] := hD
  refine lv_iinc (v := 3) (lv' := [(1, .int 3), (0, .ref h_0)]) hx hb d_Or_clear_15 hl (k := 0) rfl (by decide +kernel) (by decide) rfl (fun ls hl => ?_)
  refine lv_goto (tgt := 2) hx hb d_Or_clear_18 (by decide) ?_
  refine lv_iload_n hx hb d_Or_clear_2 rfl (lv_at hl 0 rfl) ?_
  refine lv_bipush (v := 9) hx hb d_Or_clear_3 (by decide +kernel) ?_
  refine lv_icmp_ge (tgt := 21) hx hb d_Or_clear_5 (by decide) (fun h => absurd h (by decide +kernel)) (fun _ => ?_)
  refine lv_aload_n hx hb d_Or_clear_8 rfl (lv_at hl 1 rfl) ?_
  refine va_get (D := (dC, dI)) (ci := 3) (v := .ref h_1) (C := R_Or) (T := F_Or) (N := 9) hx hb htb i_Or hown hK hP 0 rfl rfl 4 (by decide) (htb (.fieldLink R_Or 20 "WaterMen$Order" "single" "[I") tw_102) (fun _ h9 => h9) rfl d_Or_clear_9 ?_
  refine lv_iload_n hx hb d_Or_clear_12 rfl (lv_at hl 0 rfl) ?_
  refine lv_iconst (v := (-1)) hx hb d_Or_clear_13 (by decide +kernel) ?_
  refine va_iast hx hb hK hP hD hS 1 0 rfl rfl (by unfold vp_in; decide +kernel) d_Or_clear_14 (fun H locs hP hD hS => ?_)
  have hP : va_P (dC, dI) vwCl [(h_0, .inr (3, [.int 0, .int 0, .ref y_0_2, .ref y_0_3, .ref h_1, .int 0, .int 0, .int 0, .int 0])), (h_1, .inl (kk_1, 9, .inl (upd (upd (upd (upd (fun _ => 0) (0 : Int32).toNatClampNeg (-1)) (1 : Int32).toNatClampNeg (-1)) (2 : Int32).toNatClampNeg (-1)) (3 : Int32).toNatClampNeg (-1))))] H := hP
  have hD : va_D A [(h_0, .inr (3, [.int 0, .int 0, .ref y_0_2, .ref y_0_3, .ref h_1, .int 0, .int 0, .int 0, .int 0])), (h_1, .inl (kk_1, 9, .inl (upd (upd (upd (upd (fun _ => 0) (0 : Int32).toNatClampNeg (-1)) (1 : Int32).toNatClampNeg (-1)) (2 : Int32).toNatClampNeg (-1)) (3 : Int32).toNatClampNeg (-1))))] := hD
  refine lv_iinc (v := 4) (lv' := [(1, .int 4), (0, .ref h_0)]) hx hb d_Or_clear_15 hl (k := 0) rfl (by decide +kernel) (by decide) rfl (fun ls hl => ?_)
  refine lv_goto (tgt := 2) hx hb d_Or_clear_18 (by decide) ?_
  refine lv_iload_n hx hb d_Or_clear_2 rfl (lv_at hl 0 rfl) ?_
  refine lv_bipush (v := 9) hx hb d_Or_clear_3 (by decide +kernel) ?_
  refine lv_icmp_ge (tgt := 21) hx hb d_Or_clear_5 (by decide) (fun h => absurd h (by decide +kernel)) (fun _ => ?_)
  refine lv_aload_n hx hb d_Or_clear_8 rfl (lv_at hl 1 rfl) ?_
  refine va_get (D := (dC, dI)) (ci := 3) (v := .ref h_1) (C := R_Or) (T := F_Or) (N := 9) hx hb htb i_Or hown hK hP 0 rfl rfl 4 (by decide) (htb (.fieldLink R_Or 20 "WaterMen$Order" "single" "[I") tw_102) (fun _ h9 => h9) rfl d_Or_clear_9 ?_
  refine lv_iload_n hx hb d_Or_clear_12 rfl (lv_at hl 0 rfl) ?_
  refine lv_iconst (v := (-1)) hx hb d_Or_clear_13 (by decide +kernel) ?_
  refine va_iast hx hb hK hP hD hS 1 0 rfl rfl (by unfold vp_in; decide +kernel) d_Or_clear_14 (fun H locs hP hD hS => ?_)
  have hP : va_P (dC, dI) vwCl [(h_0, .inr (3, [.int 0, .int 0, .ref y_0_2, .ref y_0_3, .ref h_1, .int 0, .int 0, .int 0, .int 0])), (h_1, .inl (kk_1, 9, .inl (upd (upd (upd (upd (upd (fun _ => 0) (0 : Int32).toNatClampNeg (-1)) (1 : Int32).toNatClampNeg (-1)) (2 : Int32).toNatClampNeg (-1)) (3 : Int32).toNatClampNeg (-1)) (4 : Int32).toNatClampNeg (-1))))] H := hP
  have hD : va_D A [(h_0, .inr (3, [.int 0, .int 0, .ref y_0_2, .ref y_0_3, .ref h_1, .int 0, .int 0, .int 0, .int 0])), (h_1, .inl (kk_1, 9, .inl (upd (upd (upd (upd (upd (fun _ => 0) (0 : Int32).toNatClampNeg (-1)) (1 : Int32).toNatClampNeg (-1)) (2 : Int32).toNatClampNeg (-1)) (3 : Int32).toNatClampNeg (-1)) (4 : Int32).toNatClampNeg (-1))))] := hD
  refine lv_iinc (v := 5) (lv' := [(1, .int 5), (0, .ref h_0)]) hx hb d_Or_clear_15 hl (k := 0) rfl (by decide +kernel) (by decide) rfl (fun ls hl => ?_)
  refine lv_goto (tgt := 2) hx hb d_Or_clear_18 (by decide) ?_
  refine lv_iload_n hx hb d_Or_clear_2 rfl (lv_at hl 0 rfl) ?_
  refine lv_bipush (v := 9) hx hb d_Or_clear_3 (by decide +kernel) ?_
  refine lv_icmp_ge (tgt := 21) hx hb d_Or_clear_5 (by decide) (fun h => absurd h (by decide +kernel)) (fun _ => ?_)
  refine lv_aload_n hx hb d_Or_clear_8 rfl (lv_at hl 1 rfl) ?_
  refine va_get (D := (dC, dI)) (ci := 3) (v := .ref h_1) (C := R_Or) (T := F_Or) (N := 9) hx hb htb i_Or hown hK hP 0 rfl rfl 4 (by decide) (htb (.fieldLink R_Or 20 "WaterMen$Order" "single" "[I") tw_102) (fun _ h9 => h9) rfl d_Or_clear_9 ?_
  refine lv_iload_n hx hb d_Or_clear_12 rfl (lv_at hl 0 rfl) ?_
  refine lv_iconst (v := (-1)) hx hb d_Or_clear_13 (by decide +kernel) ?_
  refine va_iast hx hb hK hP hD hS 1 0 rfl rfl (by unfold vp_in; decide +kernel) d_Or_clear_14 (fun H locs hP hD hS => ?_)
  have hP : va_P (dC, dI) vwCl [(h_0, .inr (3, [.int 0, .int 0, .ref y_0_2, .ref y_0_3, .ref h_1, .int 0, .int 0, .int 0, .int 0])), (h_1, .inl (kk_1, 9, .inl (upd (upd (upd (upd (upd (upd (fun _ => 0) (0 : Int32).toNatClampNeg (-1)) (1 : Int32).toNatClampNeg (-1)) (2 : Int32).toNatClampNeg (-1)) (3 : Int32).toNatClampNeg (-1)) (4 : Int32).toNatClampNeg (-1)) (5 : Int32).toNatClampNeg (-1))))] H := hP
  have hD : va_D A [(h_0, .inr (3, [.int 0, .int 0, .ref y_0_2, .ref y_0_3, .ref h_1, .int 0, .int 0, .int 0, .int 0])), (h_1, .inl (kk_1, 9, .inl (upd (upd (upd (upd (upd (upd (fun _ => 0) (0 : Int32).toNatClampNeg (-1)) (1 : Int32).toNatClampNeg (-1)) (2 : Int32).toNatClampNeg (-1)) (3 : Int32).toNatClampNeg (-1)) (4 : Int32).toNatClampNeg (-1)) (5 : Int32).toNatClampNeg (-1))))] := hD
  refine lv_iinc (v := 6) (lv' := [(1, .int 6), (0, .ref h_0)]) hx hb d_Or_clear_15 hl (k := 0) rfl (by decide +kernel) (by decide) rfl (fun ls hl => ?_)
  refine lv_goto (tgt := 2) hx hb d_Or_clear_18 (by decide) ?_
  refine lv_iload_n hx hb d_Or_clear_2 rfl (lv_at hl 0 rfl) ?_
  refine lv_bipush (v := 9) hx hb d_Or_clear_3 (by decide +kernel) ?_
  refine lv_icmp_ge (tgt := 21) hx hb d_Or_clear_5 (by decide) (fun h => absurd h (by decide +kernel)) (fun _ => ?_)
  refine lv_aload_n hx hb d_Or_clear_8 rfl (lv_at hl 1 rfl) ?_
  refine va_get (D := (dC, dI)) (ci := 3) (v := .ref h_1) (C := R_Or) (T := F_Or) (N := 9) hx hb htb i_Or hown hK hP 0 rfl rfl 4 (by decide) (htb (.fieldLink R_Or 20 "WaterMen$Order" "single" "[I") tw_102) (fun _ h9 => h9) rfl d_Or_clear_9 ?_
  refine lv_iload_n hx hb d_Or_clear_12 rfl (lv_at hl 0 rfl) ?_
  refine lv_iconst (v := (-1)) hx hb d_Or_clear_13 (by decide +kernel) ?_
  refine va_iast hx hb hK hP hD hS 1 0 rfl rfl (by unfold vp_in; decide +kernel) d_Or_clear_14 (fun H locs hP hD hS => ?_)
  have hP : va_P (dC, dI) vwCl [(h_0, .inr (3, [.int 0, .int 0, .ref y_0_2, .ref y_0_3, .ref h_1, .int 0, .int 0, .int 0, .int 0])), (h_1, .inl (kk_1, 9, .inl (upd (upd (upd (upd (upd (upd (upd (fun _ => 0) (0 : Int32).toNatClampNeg (-1)) (1 : Int32).toNatClampNeg (-1)) (2 : Int32).toNatClampNeg (-1)) (3 : Int32).toNatClampNeg (-1)) (4 : Int32).toNatClampNeg (-1)) (5 : Int32).toNatClampNeg (-1)) (6 : Int32).toNatClampNeg (-1))))] H := hP
  have hD : va_D A [(h_0, .inr (3, [.int 0, .int 0, .ref y_0_2, .ref y_0_3, .ref h_1, .int 0, .int 0, .int 0, .int 0])), (h_1, .inl (kk_1, 9, .inl (upd (upd (upd (upd (upd (upd (upd (fun _ => 0) (0 : Int32).toNatClampNeg (-1)) (1 : Int32).toNatClampNeg (-1)) (2 : Int32).toNatClampNeg (-1)) (3 : Int32).toNatClampNeg (-1)) (4 : Int32).toNatClampNeg (-1)) (5 : Int32).toNatClampNeg (-1)) (6 : Int32).toNatClampNeg (-1))))] := hD
  refine lv_iinc (v := 7) (lv' := [(1, .int 7), (0, .ref h_0)]) hx hb d_Or_clear_15 hl (k := 0) rfl (by decide +kernel) (by decide) rfl (fun ls hl => ?_)
  refine lv_goto (tgt := 2) hx hb d_Or_clear_18 (by decide) ?_
  refine lv_iload_n hx hb d_Or_clear_2 rfl (lv_at hl 0 rfl) ?_
  refine lv_bipush (v := 9) hx hb d_Or_clear_3 (by decide +kernel) ?_
  refine lv_icmp_ge (tgt := 21) hx hb d_Or_clear_5 (by decide) (fun h => absurd h (by decide +kernel)) (fun _ => ?_)
  refine lv_aload_n hx hb d_Or_clear_8 rfl (lv_at hl 1 rfl) ?_
  refine va_get (D := (dC, dI)) (ci := 3) (v := .ref h_1) (C := R_Or) (T := F_Or) (N := 9) hx hb htb i_Or hown hK hP 0 rfl rfl 4 (by decide) (htb (.fieldLink R_Or 20 "WaterMen$Order" "single" "[I") tw_102) (fun _ h9 => h9) rfl d_Or_clear_9 ?_
  refine lv_iload_n hx hb d_Or_clear_12 rfl (lv_at hl 0 rfl) ?_
  refine lv_iconst (v := (-1)) hx hb d_Or_clear_13 (by decide +kernel) ?_
  refine va_iast hx hb hK hP hD hS 1 0 rfl rfl (by unfold vp_in; decide +kernel) d_Or_clear_14 (fun H locs hP hD hS => ?_)
  have hP : va_P (dC, dI) vwCl [(h_0, .inr (3, [.int 0, .int 0, .ref y_0_2, .ref y_0_3, .ref h_1, .int 0, .int 0, .int 0, .int 0])), (h_1, .inl (kk_1, 9, .inl (upd (upd (upd (upd (upd (upd (upd (upd (fun _ => 0) (0 : Int32).toNatClampNeg (-1)) (1 : Int32).toNatClampNeg (-1)) (2 : Int32).toNatClampNeg (-1)) (3 : Int32).toNatClampNeg (-1)) (4 : Int32).toNatClampNeg (-1)) (5 : Int32).toNatClampNeg (-1)) (6 : Int32).toNatClampNeg (-1)) (7 : Int32).toNatClampNeg (-1))))] H := hP
  have hD : va_D A [(h_0, .inr (3, [.int 0, .int 0, .ref y_0_2, .ref y_0_3, .ref h_1, .int 0, .int 0, .int 0, .int 0])), (h_1, .inl (kk_1, 9, .inl (upd (upd (upd (upd (upd (upd (upd (upd (fun _ => 0) (0 : Int32).toNatClampNeg (-1)) (1 : Int32).toNatClampNeg (-1)) (2 : Int32).toNatClampNeg (-1)) (3 : Int32).toNatClampNeg (-1)) (4 : Int32).toNatClampNeg (-1)) (5 : Int32).toNatClampNeg (-1)) (6 : Int32).toNatClampNeg (-1)) (7 : Int32).toNatClampNeg (-1))))] := hD
  refine lv_iinc (v := 8) (lv' := [(1, .int 8), (0, .ref h_0)]) hx hb d_Or_clear_15 hl (k := 0) rfl (by decide +kernel) (by decide) rfl (fun ls hl => ?_)
  refine lv_goto (tgt := 2) hx hb d_Or_clear_18 (by decide) ?_
  refine lv_iload_n hx hb d_Or_clear_2 rfl (lv_at hl 0 rfl) ?_
  refine lv_bipush (v := 9) hx hb d_Or_clear_3 (by decide +kernel) ?_
  refine lv_icmp_ge (tgt := 21) hx hb d_Or_clear_5 (by decide) (fun h => absurd h (by decide +kernel)) (fun _ => ?_)
  refine lv_aload_n hx hb d_Or_clear_8 rfl (lv_at hl 1 rfl) ?_
  refine va_get (D := (dC, dI)) (ci := 3) (v := .ref h_1) (C := R_Or) (T := F_Or) (N := 9) hx hb htb i_Or hown hK hP 0 rfl rfl 4 (by decide) (htb (.fieldLink R_Or 20 "WaterMen$Order" "single" "[I") tw_102) (fun _ h9 => h9) rfl d_Or_clear_9 ?_
  refine lv_iload_n hx hb d_Or_clear_12 rfl (lv_at hl 0 rfl) ?_
  refine lv_iconst (v := (-1)) hx hb d_Or_clear_13 (by decide +kernel) ?_
  refine va_iast hx hb hK hP hD hS 1 0 rfl rfl (by unfold vp_in; decide +kernel) d_Or_clear_14 (fun H locs hP hD hS => ?_)
  have hP : va_P (dC, dI) vwCl [(h_0, .inr (3, [.int 0, .int 0, .ref y_0_2, .ref y_0_3, .ref h_1, .int 0, .int 0, .int 0, .int 0])), (h_1, .inl (kk_1, 9, .inl (upd (upd (upd (upd (upd (upd (upd (upd (upd (fun _ => 0) (0 : Int32).toNatClampNeg (-1)) (1 : Int32).toNatClampNeg (-1)) (2 : Int32).toNatClampNeg (-1)) (3 : Int32).toNatClampNeg (-1)) (4 : Int32).toNatClampNeg (-1)) (5 : Int32).toNatClampNeg (-1)) (6 : Int32).toNatClampNeg (-1)) (7 : Int32).toNatClampNeg (-1)) (8 : Int32).toNatClampNeg (-1))))] H := hP
  have hD : va_D A [(h_0, .inr (3, [.int 0, .int 0, .ref y_0_2, .ref y_0_3, .ref h_1, .int 0, .int 0, .int 0, .int 0])), (h_1, .inl (kk_1, 9, .inl (upd (upd (upd (upd (upd (upd (upd (upd (upd (fun _ => 0) (0 : Int32).toNatClampNeg (-1)) (1 : Int32).toNatClampNeg (-1)) (2 : Int32).toNatClampNeg (-1)) (3 : Int32).toNatClampNeg (-1)) (4 : Int32).toNatClampNeg (-1)) (5 : Int32).toNatClampNeg (-1)) (6 : Int32).toNatClampNeg (-1)) (7 : Int32).toNatClampNeg (-1)) (8 : Int32).toNatClampNeg (-1))))] := hD
  refine lv_iinc (v := 9) (lv' := [(1, .int 9), (0, .ref h_0)]) hx hb d_Or_clear_15 hl (k := 0) rfl (by decide +kernel) (by decide) rfl (fun ls hl => ?_)
  refine lv_goto (tgt := 2) hx hb d_Or_clear_18 (by decide) ?_
  refine lv_iload_n hx hb d_Or_clear_2 rfl (lv_at hl 0 rfl) ?_
  refine lv_bipush (v := 9) hx hb d_Or_clear_3 (by decide +kernel) ?_
  refine lv_icmp_ge (tgt := 21) hx hb d_Or_clear_5 (by decide) (fun _ => ?_) (fun h => absurd (by decide +kernel) h)
  refine lv_aload_n hx hb d_Or_clear_21 rfl (lv_at hl 1 rfl) ?_
  refine lv_iconst (v := 0) hx hb d_Or_clear_22 (by decide +kernel) ?_
  refine va_put (D := (dC, dI)) (ci := 3) (v := .int 0) (ty := .int) (C := R_Or) (T := F_Or) (N := 9) hx hb htb i_Or t_Or t_Or_ok n_Or hown hK hP hD hS 0 rfl rfl 5 (by decide) (htb (.fieldLink R_Or 23 "WaterMen$Order" "fareCount" "I") tw_103) (fun _ h9 => h9) rfl (by decide +kernel) rfl rfl (Nat.le_of_ble_eq_true rfl) d_Or_clear_23 (fun H locs hP hD hS => ?_)
  have hP : va_P (dC, dI) vwCl [(h_0, .inr (3, [.int 0, .int 0, .ref y_0_2, .ref y_0_3, .ref h_1, .int 0, .int 0, .int 0, .int 0])), (h_1, .inl (kk_1, 9, .inl (upd (upd (upd (upd (upd (upd (upd (upd (upd (fun _ => 0) (0 : Int32).toNatClampNeg (-1)) (1 : Int32).toNatClampNeg (-1)) (2 : Int32).toNatClampNeg (-1)) (3 : Int32).toNatClampNeg (-1)) (4 : Int32).toNatClampNeg (-1)) (5 : Int32).toNatClampNeg (-1)) (6 : Int32).toNatClampNeg (-1)) (7 : Int32).toNatClampNeg (-1)) (8 : Int32).toNatClampNeg (-1))))] H := hP
  have hD : va_D A [(h_0, .inr (3, [.int 0, .int 0, .ref y_0_2, .ref y_0_3, .ref h_1, .int 0, .int 0, .int 0, .int 0])), (h_1, .inl (kk_1, 9, .inl (upd (upd (upd (upd (upd (upd (upd (upd (upd (fun _ => 0) (0 : Int32).toNatClampNeg (-1)) (1 : Int32).toNatClampNeg (-1)) (2 : Int32).toNatClampNeg (-1)) (3 : Int32).toNatClampNeg (-1)) (4 : Int32).toNatClampNeg (-1)) (5 : Int32).toNatClampNeg (-1)) (6 : Int32).toNatClampNeg (-1)) (7 : Int32).toNatClampNeg (-1)) (8 : Int32).toNatClampNeg (-1))))] := hD
  refine lv_aload_n hx hb d_Or_clear_26 rfl (lv_at hl 1 rfl) ?_
  refine lv_iconst (v := 0) hx hb d_Or_clear_27 (by decide +kernel) ?_
  refine va_put (D := (dC, dI)) (ci := 3) (v := .int 0) (ty := .int) (C := R_Or) (T := F_Or) (N := 9) hx hb htb i_Or t_Or t_Or_ok n_Or hown hK hP hD hS 0 rfl rfl 6 (by decide) (htb (.fieldLink R_Or 27 "WaterMen$Order" "hourCount" "I") tw_104) (fun _ h9 => h9) rfl (by decide +kernel) rfl rfl (Nat.le_of_ble_eq_true rfl) d_Or_clear_28 (fun H locs hP hD hS => ?_)
  have hP : va_P (dC, dI) vwCl [(h_0, .inr (3, [.int 0, .int 0, .ref y_0_2, .ref y_0_3, .ref h_1, .int 0, .int 0, .int 0, .int 0])), (h_1, .inl (kk_1, 9, .inl (upd (upd (upd (upd (upd (upd (upd (upd (upd (fun _ => 0) (0 : Int32).toNatClampNeg (-1)) (1 : Int32).toNatClampNeg (-1)) (2 : Int32).toNatClampNeg (-1)) (3 : Int32).toNatClampNeg (-1)) (4 : Int32).toNatClampNeg (-1)) (5 : Int32).toNatClampNeg (-1)) (6 : Int32).toNatClampNeg (-1)) (7 : Int32).toNatClampNeg (-1)) (8 : Int32).toNatClampNeg (-1))))] H := hP
  have hD : va_D A [(h_0, .inr (3, [.int 0, .int 0, .ref y_0_2, .ref y_0_3, .ref h_1, .int 0, .int 0, .int 0, .int 0])), (h_1, .inl (kk_1, 9, .inl (upd (upd (upd (upd (upd (upd (upd (upd (upd (fun _ => 0) (0 : Int32).toNatClampNeg (-1)) (1 : Int32).toNatClampNeg (-1)) (2 : Int32).toNatClampNeg (-1)) (3 : Int32).toNatClampNeg (-1)) (4 : Int32).toNatClampNeg (-1)) (5 : Int32).toNatClampNeg (-1)) (6 : Int32).toNatClampNeg (-1)) (7 : Int32).toNatClampNeg (-1)) (8 : Int32).toNatClampNeg (-1))))] := hD
  refine W.widen (k := 0) (n := 0) (Nat.le_of_ble_eq_true rfl) (Nat.le_of_ble_eq_true rfl) ?_
  exact W.vret hx hb hr (fun t ht hW => ⟨⟨(), rfl, trivial, upd (upd (upd (upd (upd (upd (upd (upd (upd (fun _ => 0) (0 : Int32).toNatClampNeg (-1)) (1 : Int32).toNatClampNeg (-1)) (2 : Int32).toNatClampNeg (-1)) (3 : Int32).toNatClampNeg (-1)) (4 : Int32).toNatClampNeg (-1)) (5 : Int32).toNatClampNeg (-1)) (6 : Int32).toNatClampNeg (-1)) (7 : Int32).toNatClampNeg (-1)) (8 : Int32).toNatClampNeg (-1), by rw [ht]; exact hP, va_K.moved hW.alike hK, by rw [hAe]; exact hD⟩, by rw [hAe]; exact hS.F ht⟩) (by rw [hAe]; exact hS.2.2) d_Or_clear_31
