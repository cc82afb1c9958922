def f_WM_join (p_0 : Int32) (p_1 : Int32) : Int32 := if p_1 < 0 then ((-1)) else (if 40 ≤ p_1 then ((-1)) else (if p_0 < 0 then ((-1)) else ((-1))))
set_option maxHeartbeats 4000000 in
set_option maxRecDepth 100000 in
theorem c_WM_join (l : Launch) (dC : Nat → ClassId) (dI : Nat → Nat → Nat) (a : Nat → Nat) (k : Nat → ClassId) (L : List Nat) (hL : L.length = 40)  (p_0 : Int32) (p_1 : Int32)  : Met l y_WM_join (.code y_WM_join b_WM_join 4 (some .int) :: TB) ({ frames := 1, cells := 0, slots := 0, locals := 21 }) (va_Pc [.ref (a 0), .int p_0, .int p_1] (PR dC dI (XW a k L) (XT k))) (vp_Si (fun r => r = f_WM_join p_0 p_1)) 0 0 (fun _ => False) := by
  refine Met.ofW (cc := b_WM_join) (maxL := 4) (ret := (some .int)) (by decide) rfl ?_
  intro p e s m args below meth c s₁ B hml hv
  obtain ⟨rfl, hP, hK, hN⟩ := hv
  have hx := B.exec
  have hb := B.bytes
  have hr := B.returns
  have hts := atoms_spec (ws := (.code y_WM_join b_WM_join 4 (some .int) :: TB)) B.pre
  have htb := fun w (h : w ∈ TB) => hts w (List.mem_cons_of_mem _ h)
  have hown : s.vm.findClass R_WM = some m.cls := findClass_of_methodNamed B.named
  have hlocks := B.notSynchronized
  have hl := lv_entry ([.ref (a 0), .int p_0, .int p_1]) (n := 4) (Nat.le_of_ble_eq_true rfl)
  rw [lg_entry_eq]
  generalize (lg_sl ([.ref (a 0), .int p_0, .int p_1]) ++ List.replicate (4 - (lg_sl ([.ref (a 0), .int p_0, .int p_1])).length) Slot.unset).toArray = ls at hl ⊢
  have hl : lv_has ls 4 [(0, .ref (a 0)), (1, .int p_0), (2, .int p_1)] := hl
  refine lv_aload_n hx hb d_WM_join_0 rfl (lv_at hl 0 rfl) ?_
  refine lv_iload_n hx hb d_WM_join_1 rfl (lv_at hl 2 rfl) ?_
  refine va_csq (va_Run.run (va_runV (As := [.int p_1]) (rest := []) ⟨hx, hb, hml, hown, htb⟩ (c_WM_manAt l dC dI a k L hL p_1) (cwV 1 htb (gd_V tw_53 tw_54 tw_55 tw_15 tw_52) rfl rfl rfl (by decide +kernel) ⟨Nat.le_of_ble_eq_true rfl, Nat.le_of_ble_eq_true rfl⟩) ⟨pr_blind, va_recv hK hP (ci := 0) (q0 := 0) rfl rfl, pr_pre hP hK hN⟩ rfl rfl hl.1 rfl (lv_room (Nat.le_of_ble_eq_true rfl)) d_WM_join_2 ⟨Nat.le_of_ble_eq_true rfl, Nat.le_of_ble_eq_true rfl⟩)) (fun rr_2 hq_1 => ?_)
  unfold f_WM_manAt at hq_1
  by_cases c_3 : p_1 < 0
  · rw [if_pos c_3] at hq_1
    subst hq_1
    refine hb_tv .null rfl ?_
    refine lv_astore_nN (lv' := [(3, .null), (0, .ref (a 0)), (1, .int p_0), (2, .int p_1)]) hx hb d_WM_join_5 rfl hl (by decide) rfl (fun ls hl => ?_)
    refine lv_aload_nN hx hb d_WM_join_6 rfl (lv_at hl 0 rfl) ?_
    refine lv_ifnullN (tgt := 21) hx hb d_WM_join_7 (by decide) ?_
    refine lv_iconst (v := (-1)) hx hb d_WM_join_21 (by decide +kernel) ?_
    exact W.iret (v := (-1)) hx hb hr (fun t ht hW => ⟨(-1), rfl, (by unfold f_WM_join; rw [if_pos c_3]), ht⟩) t_nil d_WM_join_22
  · by_cases c_4 : 40 ≤ p_1
    · rw [if_neg c_3, if_pos c_4] at hq_1
      subst hq_1
      refine hb_tv .null rfl ?_
      refine lv_astore_nN (lv' := [(3, .null), (0, .ref (a 0)), (1, .int p_0), (2, .int p_1)]) hx hb d_WM_join_5 rfl hl (by decide) rfl (fun ls hl => ?_)
      refine lv_aload_nN hx hb d_WM_join_6 rfl (lv_at hl 0 rfl) ?_
      refine lv_ifnullN (tgt := 21) hx hb d_WM_join_7 (by decide) ?_
      refine lv_iconst (v := (-1)) hx hb d_WM_join_21 (by decide +kernel) ?_
      exact W.iret (v := (-1)) hx hb hr (fun t ht hW => ⟨(-1), rfl, (by unfold f_WM_join; rw [if_neg c_3, if_pos c_4]), ht⟩) t_nil d_WM_join_22
    · rw [if_neg c_3, if_neg c_4] at hq_1
      obtain ⟨q_5, x_6, rfl, hk_7⟩ := hq_1
      refine hb_tv (.ref q_5) rfl ?_
      refine lv_astore_n (lv' := [(3, .ref q_5), (0, .ref (a 0)), (1, .int p_0), (2, .int p_1)]) hx hb d_WM_join_5 rfl hl (by decide) rfl (fun ls hl => ?_)
      refine lv_aload_n hx hb d_WM_join_6 rfl (lv_at hl 0 rfl) ?_
      refine lv_ifnull hx hb d_WM_join_7 ?_
      refine lv_aload_n hx hb d_WM_join_10 rfl (lv_at hl 1 rfl) ?_
      refine va_get (D := (dC, dI)) (ci := 0) (v := .ref (a 1)) (C := R_WM) (T := F_WM) (N := 13) hx hb htb i_WM hown hK hP 0 rfl rfl 0 (by decide) (htb (.fieldLink R_WM 12 "WaterMen" "river" "LWaterMen$River;") tw_0) (fun _ h9 => h9) rfl d_WM_join_11 ?_
      refine lv_iload_n hx hb d_WM_join_14 rfl (lv_at hl 2 rfl) ?_
      refine vp_callSi (va_Run.run (va_runV (As := [.int p_0]) (rest := []) ⟨hx, hb, hml, hown, htb⟩ (c_Rv_hasStairs l dC dI a k L hL p_0) (cwV 1 htb (gd_V tw_79 tw_80 tw_81 tw_3 tw_78) rfl rfl rfl (by decide +kernel) ⟨Nat.le_of_ble_eq_true rfl, Nat.le_of_ble_eq_true rfl⟩) ⟨pr_blind, va_recv hK hP (ci := 1) (q0 := 1) rfl rfl, pr_pre hP hK hN⟩ rfl rfl hl.1 rfl (lv_room (Nat.le_of_ble_eq_true rfl)) d_WM_join_15 ⟨Nat.le_of_ble_eq_true rfl, Nat.le_of_ble_eq_true rfl⟩)) (fun r er => ?_)
      subst er
      by_cases c_8 : p_0 < 0
      · refine hb_ti 0 (by unfold f_Rv_hasStairs; rw [if_pos c_8]) ?_
        refine lv_if_ne (tgt := 23) hx hb d_WM_join_18 (by decide) (fun h => absurd (by decide +kernel) h) (fun _ => ?_)
        refine lv_iconst (v := (-1)) hx hb d_WM_join_21 (by decide +kernel) ?_
        exact W.iret (v := (-1)) hx hb hr (fun t ht hW => ⟨(-1), rfl, (by unfold f_WM_join; rw [if_neg c_3, if_neg c_4, if_pos c_8]), ht⟩) t_nil d_WM_join_22
      · refine hb_ti 0 (by unfold f_Rv_hasStairs; rw [if_neg c_8]) ?_
        refine lv_if_ne (tgt := 23) hx hb d_WM_join_18 (by decide) (fun h => absurd (by decide +kernel) h) (fun _ => ?_)
        refine lv_iconst (v := (-1)) hx hb d_WM_join_21 (by decide +kernel) ?_
        exact W.iret (v := (-1)) hx hb hr (fun t ht hW => ⟨(-1), rfl, (by unfold f_WM_join; rw [if_neg c_3, if_neg c_4, if_neg c_8]), ht⟩) t_nil d_WM_join_22
def f_WM_leave (p_0 : Int32) : Int32 := if p_0 < 0 then ((-1)) else (if 40 ≤ p_0 then ((-1)) else ((-2)))
set_option maxHeartbeats 4000000 in
set_option maxRecDepth 100000 in
theorem c_WM_leave (l : Launch) (dC : Nat → ClassId) (dI : Nat → Nat → Nat) (a : Nat → Nat) (k : Nat → ClassId) (L : List Nat) (hL : L.length = 40)  (p_0 : Int32)  : Met l y_WM_leave (.code y_WM_leave b_WM_leave 3 (some .int) :: TB) ({ frames := 1, cells := 0, slots := 0, locals := 21 }) (va_Pc [.ref (a 0), .int p_0] (PR dC dI (XW a k L) (XT k))) (vp_Si (fun r => r = f_WM_leave p_0)) 0 0 (fun _ => False) := by
  refine Met.ofW (cc := b_WM_leave) (maxL := 3) (ret := (some .int)) (by decide) rfl ?_
  intro p e s m args below meth c s₁ B hml hv
  obtain ⟨rfl, hP, hK, hN⟩ := hv
  have hx := B.exec
  have hb := B.bytes
  have hr := B.returns
  have hts := atoms_spec (ws := (.code y_WM_leave b_WM_leave 3 (some .int) :: TB)) B.pre
  have htb := fun w (h : w ∈ TB) => hts w (List.mem_cons_of_mem _ h)
  have hown : s.vm.findClass R_WM = some m.cls := findClass_of_methodNamed B.named
  have hlocks := B.notSynchronized
  have hl := lv_entry ([.ref (a 0), .int p_0]) (n := 3) (Nat.le_of_ble_eq_true rfl)
  rw [lg_entry_eq]
  generalize (lg_sl ([.ref (a 0), .int p_0]) ++ List.replicate (3 - (lg_sl ([.ref (a 0), .int p_0])).length) Slot.unset).toArray = ls at hl ⊢
  have hl : lv_has ls 3 [(0, .ref (a 0)), (1, .int p_0)] := hl
  refine lv_aload_n hx hb d_WM_leave_0 rfl (lv_at hl 0 rfl) ?_
  refine lv_iload_n hx hb d_WM_leave_1 rfl (lv_at hl 1 rfl) ?_
  refine va_csq (va_Run.run (va_runV (As := [.int p_0]) (rest := []) ⟨hx, hb, hml, hown, htb⟩ (c_WM_manAt l dC dI a k L hL p_0) (cwV 1 htb (gd_V tw_53 tw_54 tw_55 tw_15 tw_52) rfl rfl rfl (by decide +kernel) ⟨Nat.le_of_ble_eq_true rfl, Nat.le_of_ble_eq_true rfl⟩) ⟨pr_blind, va_recv hK hP (ci := 0) (q0 := 0) rfl rfl, pr_pre hP hK hN⟩ rfl rfl hl.1 rfl (lv_room (Nat.le_of_ble_eq_true rfl)) d_WM_leave_2 ⟨Nat.le_of_ble_eq_true rfl, Nat.le_of_ble_eq_true rfl⟩)) (fun rr_2 hq_1 => ?_)
  unfold f_WM_manAt at hq_1
  by_cases c_3 : p_0 < 0
  · rw [if_pos c_3] at hq_1
    subst hq_1
    refine hb_tv .null rfl ?_
    refine lv_astore_nN (lv' := [(2, .null), (0, .ref (a 0)), (1, .int p_0)]) hx hb d_WM_leave_5 rfl hl (by decide) rfl (fun ls hl => ?_)
    refine lv_aload_nN hx hb d_WM_leave_6 rfl (lv_at hl 0 rfl) ?_
    refine lv_ifnonnullN hx hb d_WM_leave_7 ?_
    refine lv_iconst (v := (-1)) hx hb d_WM_leave_10 (by decide +kernel) ?_
    exact W.iret (v := (-1)) hx hb hr (fun t ht hW => ⟨(-1), rfl, (by unfold f_WM_leave; rw [if_pos c_3]), ht⟩) t_nil d_WM_leave_11
  · by_cases c_4 : 40 ≤ p_0
    · rw [if_neg c_3, if_pos c_4] at hq_1
      subst hq_1
      refine hb_tv .null rfl ?_
      refine lv_astore_nN (lv' := [(2, .null), (0, .ref (a 0)), (1, .int p_0)]) hx hb d_WM_leave_5 rfl hl (by decide) rfl (fun ls hl => ?_)
      refine lv_aload_nN hx hb d_WM_leave_6 rfl (lv_at hl 0 rfl) ?_
      refine lv_ifnonnullN hx hb d_WM_leave_7 ?_
      refine lv_iconst (v := (-1)) hx hb d_WM_leave_10 (by decide +kernel) ?_
      exact W.iret (v := (-1)) hx hb hr (fun t ht hW => ⟨(-1), rfl, (by unfold f_WM_leave; rw [if_neg c_3, if_pos c_4]), ht⟩) t_nil d_WM_leave_11
    · rw [if_neg c_3, if_neg c_4] at hq_1
      obtain ⟨q_5, x_6, rfl, hk_7⟩ := hq_1
      refine hb_tv (.ref q_5) rfl ?_
      refine lv_astore_n (lv' := [(2, .ref q_5), (0, .ref (a 0)), (1, .int p_0)]) hx hb d_WM_leave_5 rfl hl (by decide) rfl (fun ls hl => ?_)
      refine lv_aload_n hx hb d_WM_leave_6 rfl (lv_at hl 0 rfl) ?_
      refine lv_ifnonnull (tgt := 12) hx hb d_WM_leave_7 (by decide) ?_
      refine lv_aload_n hx hb d_WM_leave_12 rfl (lv_at hl 0 rfl) ?_
      refine va_get (D := (dC, dI)) (ci := 2) (v := .int (-1)) (C := R_Mn) (T := F_Mn) (N := 8) hx hb htb i_Mn hown hK hP x_6 hk_7 rfl 2 (by decide) (htb (.fieldLink R_WM 145 "WaterMen$Man" "turnStairs" "I") tw_62) (fun _ h9 => h9) rfl d_WM_leave_13 ?_
      refine lv_iconst (v := (-1)) hx hb d_WM_leave_16 (by decide +kernel) ?_
      refine lv_icmp_ne (tgt := 23) hx hb d_WM_leave_17 (by decide) (fun h => absurd (by decide +kernel) h) (fun _ => ?_)
      refine lv_bipush (v := (-2)) hx hb d_WM_leave_20 (by decide +kernel) ?_
      exact W.iret (v := (-2)) hx hb hr (fun t ht hW => ⟨(-2), rfl, (by unfold f_WM_leave; rw [if_neg c_3, if_neg c_4]), ht⟩) t_nil d_WM_leave_22
def f_WM_end (p_0 : Int32) : Int32 := if p_0 < 0 then ((-1)) else (if p_0 ≤ 0 then (p_0) else ((-1)))
set_option maxHeartbeats 4000000 in
set_option maxRecDepth 100000 in
theorem c_WM_end (l : Launch) (dC : Nat → ClassId) (dI : Nat → Nat → Nat) (a : Nat → Nat) (k : Nat → ClassId) (L : List Nat) (hL : L.length = 40) (sz : Nat) (p_0 : Int32)  : Met l y_WM_end (.code y_WM_end b_WM_end 2 (some .int) :: TB) ({ frames := 0, cells := 0, slots := 0, locals := 0 }) (va_Pc [.ref (a 0), .int p_0] (PC dC dI (XW a k L) (XT k) sz)) (va_Qi (fun r (_ : Unit) => r = f_WM_end p_0) (fun (_ : Unit) (_ : State) => True) (va_A (XW a k L) sz)) 0 0 (va_A (XW a k L) sz) := by
  refine Met.ofW (cc := b_WM_end) (maxL := 2) (ret := (some .int)) (by decide) rfl ?_
  intro p e s m args below meth c s₁ B hml hv
  obtain ⟨rfl, hsz, hP, hK, hD0, hN⟩ := hv
  have hx := B.exec
  have hb := B.bytes
  have hr := B.returns
  have hts := atoms_spec (ws := (.code y_WM_end b_WM_end 2 (some .int) :: TB)) B.pre
  have htb := fun w (h : w ∈ TB) => hts w (List.mem_cons_of_mem _ h)
  have hown : s.vm.findClass R_WM = some m.cls := findClass_of_methodNamed B.named
  have hlocks := B.notSynchronized
  have hl := lv_entry ([.ref (a 0), .int p_0]) (n := 2) (Nat.le_of_ble_eq_true rfl)
  rw [lg_entry_eq]
  generalize (lg_sl ([.ref (a 0), .int p_0]) ++ List.replicate (2 - (lg_sl ([.ref (a 0), .int p_0])).length) Slot.unset).toArray = ls at hl ⊢
  have hl : lv_has ls 2 [(0, .ref (a 0)), (1, .int p_0)] := hl
  subst hsz
  have hD := hD0.self (sz := s.heap.size)
  obtain ⟨A, hAe⟩ : ∃ A, va_A (XW a k L) s.heap.size = A := ⟨_, rfl⟩
  rw [hAe] at hD
  have hA : ∀ q : Nat, s.heap.size ≤ q → A q := fun q h => by rw [← hAe]; exact Or.inr h
  have hS : va_S A s.heap s.heap [] := va_S.rf
  have hP := hP
  refine lv_iload_n hx hb d_WM_end_0 rfl (lv_at hl 1 rfl) ?_
  refine lv_if_lt (tgt := 15) hx hb d_WM_end_1 (by decide) (fun c_1 => ?_) (fun c_1 => ?_)
  · refine lv_iconst (v := (-1)) hx hb d_WM_end_15 (by decide +kernel) ?_
    refine W.widen (k := 0) (n := 0) (Nat.le_of_ble_eq_true rfl) (Nat.le_of_ble_eq_true rfl) ?_
    exact W.iret (v := (-1)) hx hb hr (fun t ht hW => ⟨⟨(-1), (), rfl, (by unfold f_WM_end; rw [if_pos c_1]), trivial⟩, by rw [hAe]; exact hS.F ht⟩) (by rw [hAe]; exact hS.2.2) d_WM_end_16
  · refine lv_iload_n hx hb d_WM_end_4 rfl (lv_at hl 1 rfl) ?_
    refine lv_aload_n hx hb d_WM_end_5 rfl (lv_at hl 0 rfl) ?_
    refine va_get (D := (dC, dI)) (ci := 0) (v := .ref (a 10)) (C := R_WM) (T := F_WM) (N := 13) hx hb htb i_WM hown hK hP 0 rfl rfl 5 (by decide) (htb (.fieldLink R_WM 43 "WaterMen" "tape" "LWaterMen$Tape;") tw_87) (fun _ h9 => h9) rfl d_WM_end_6 ?_
    refine va_get (D := (dC, dI)) (ci := 4) (v := .int 0) (C := R_Tp) (T := F_Tp) (N := 6) hx hb htb i_Tp hown hK hP 10 rfl rfl 1 (by decide) (htb (.fieldLink R_WM 207 "WaterMen$Tape" "length" "I") tw_88) (fun _ h9 => h9) rfl d_WM_end_9 ?_
    refine lv_icmp_le (tgt := 17) hx hb d_WM_end_12 (by decide) (fun c_2 => ?_) (fun c_2 => ?_)
    · refine lv_aload_n hx hb d_WM_end_17 rfl (lv_at hl 0 rfl) ?_
      refine va_get (D := (dC, dI)) (ci := 0) (v := .ref (a 10)) (C := R_WM) (T := F_WM) (N := 13) hx hb htb i_WM hown hK hP 0 rfl rfl 5 (by decide) (htb (.fieldLink R_WM 43 "WaterMen" "tape" "LWaterMen$Tape;") tw_87) (fun _ h9 => h9) rfl d_WM_end_18 ?_
      refine lv_iload_n hx hb d_WM_end_21 rfl (lv_at hl 1 rfl) ?_
      refine va_put (D := (dC, dI)) (ci := 4) (v := .int p_0) (ty := .int) (C := R_Tp) (T := F_Tp) (N := 6) hx hb htb i_Tp t_Tp t_Tp_ok n_Tp hown hK hP hD hS 10 rfl rfl 1 (by decide) (htb (.fieldLink R_WM 207 "WaterMen$Tape" "length" "I") tw_88) (fun _ h9 => h9) rfl (by decide +kernel) rfl rfl (Nat.le_of_ble_eq_true rfl) d_WM_end_22 (fun H locs hP hD hS => ?_)
      refine lv_iload_n hx hb d_WM_end_25 rfl (lv_at hl 1 rfl) ?_
      refine W.widen (k := 0) (n := 0) (Nat.le_of_ble_eq_true rfl) (Nat.le_of_ble_eq_true rfl) ?_
      exact W.iret (v := p_0) hx hb hr (fun t ht hW => ⟨⟨p_0, (), rfl, (by unfold f_WM_end; rw [if_neg c_1, if_pos c_2]), trivial⟩, by rw [hAe]; exact hS.F ht⟩) (by rw [hAe]; exact hS.2.2) d_WM_end_26
    · refine lv_iconst (v := (-1)) hx hb d_WM_end_15 (by decide +kernel) ?_
      refine W.widen (k := 0) (n := 0) (Nat.le_of_ble_eq_true rfl) (Nat.le_of_ble_eq_true rfl) ?_
      exact W.iret (v := (-1)) hx hb hr (fun t ht hW => ⟨⟨(-1), (), rfl, (by unfold f_WM_end; rw [if_neg c_1, if_neg c_2]), trivial⟩, by rw [hAe]; exact hS.F ht⟩) (by rw [hAe]; exact hS.2.2) d_WM_end_16
def f_WM_numberInForce (p_0 : Int32) (p_1 : Int32) : Int32 := (-2)
set_option maxHeartbeats 4000000 in
set_option maxRecDepth 100000 in
theorem c_WM_numberInForce (l : Launch) (dC : Nat → ClassId) (dI : Nat → Nat → Nat) (a : Nat → Nat) (k : Nat → ClassId) (L : List Nat) (hL : L.length = 40)  (p_0 : Int32) (p_1 : Int32)  : Met l y_WM_numberInForce (.code y_WM_numberInForce b_WM_numberInForce 5 (some .int) :: TB) ({ frames := 0, cells := 0, slots := 0, locals := 0 }) (va_Pc [.ref (a 0), .int p_0, .int p_1] (PR dC dI (XW a k L) (XT k))) (vp_Si (fun r => r = f_WM_numberInForce p_0 p_1)) 0 0 (fun _ => False) := by
  refine Met.ofW (cc := b_WM_numberInForce) (maxL := 5) (ret := (some .int)) (by decide) rfl ?_
  intro p e s m args below meth c s₁ B hml hv
  obtain ⟨rfl, hP, hK, hN⟩ := hv
  have hx := B.exec
  have hb := B.bytes
  have hr := B.returns
  have hts := atoms_spec (ws := (.code y_WM_numberInForce b_WM_numberInForce 5 (some .int) :: TB)) B.pre
  have htb := fun w (h : w ∈ TB) => hts w (List.mem_cons_of_mem _ h)
  have hown : s.vm.findClass R_WM = some m.cls := findClass_of_methodNamed B.named
  have hlocks := B.notSynchronized
  have hl := lv_entry ([.ref (a 0), .int p_0, .int p_1]) (n := 5) (Nat.le_of_ble_eq_true rfl)
  rw [lg_entry_eq]
  generalize (lg_sl ([.ref (a 0), .int p_0, .int p_1]) ++ List.replicate (5 - (lg_sl ([.ref (a 0), .int p_0, .int p_1])).length) Slot.unset).toArray = ls at hl ⊢
  have hl : lv_has ls 5 [(0, .ref (a 0)), (1, .int p_0), (2, .int p_1)] := hl
  refine lv_aload_n hx hb d_WM_numberInForce_0 rfl (lv_at hl 0 rfl) ?_
  refine va_get (D := (dC, dI)) (ci := 0) (v := .int 0) (C := R_WM) (T := F_WM) (N := 13) hx hb htb i_WM hown hK hP 0 rfl rfl 8 (by decide) (htb (.fieldLink R_WM 210 "WaterMen" "orderCount" "I") tw_89) (fun _ h9 => h9) rfl d_WM_numberInForce_1 ?_
  refine lv_iconst (v := 1) hx hb d_WM_numberInForce_4 (by decide +kernel) ?_
  refine lv_isub hx hb d_WM_numberInForce_5 ?_
  refine hb_ti (-1) (by decide +kernel) ?_
  refine lv_istore_n (lv' := [(3, .int (-1)), (0, .ref (a 0)), (1, .int p_0), (2, .int p_1)]) hx hb d_WM_numberInForce_6 rfl hl (by decide) rfl (fun ls hl => ?_)
  refine lv_iload_n hx hb d_WM_numberInForce_7 rfl (lv_at hl 0 rfl) ?_
  refine lv_if_lt (tgt := 49) hx hb d_WM_numberInForce_8 (by decide) (fun _ => ?_) (fun h => absurd (by decide +kernel) h)
  refine lv_bipush (v := (-2)) hx hb d_WM_numberInForce_49 (by decide +kernel) ?_
  exact W.iret (v := (-2)) hx hb hr (fun t ht hW => ⟨(-2), rfl, rfl, ht⟩) t_nil d_WM_numberInForce_51
def f_WM_inForce (p_0 : Int32) (p_1 : Int32) : Int32 := if p_0 < 0 then ((-1)) else (if 500 ≤ p_0 then ((-1)) else (if p_1 < 0 then ((-1)) else (if 500 ≤ p_1 then ((-1)) else ((-2)))))
set_option maxHeartbeats 4000000 in
set_option maxRecDepth 100000 in
theorem c_WM_inForce (l : Launch) (dC : Nat → ClassId) (dI : Nat → Nat → Nat) (a : Nat → Nat) (k : Nat → ClassId) (L : List Nat) (hL : L.length = 40)  (p_0 : Int32) (p_1 : Int32)  : Met l y_WM_inForce (.code y_WM_inForce b_WM_inForce 3 (some .int) :: TB) ({ frames := 1, cells := 0, slots := 0, locals := 24 }) (va_Pc [.ref (a 0), .int p_0, .int p_1] (PR dC dI (XW a k L) (XT k))) (vp_Si (fun r => r = f_WM_inForce p_0 p_1)) 0 0 (fun _ => False) := by
  refine Met.ofW (cc := b_WM_inForce) (maxL := 3) (ret := (some .int)) (by decide) rfl ?_
  intro p e s m args below meth c s₁ B hml hv
  obtain ⟨rfl, hP, hK, hN⟩ := hv
  have hx := B.exec
  have hb := B.bytes
  have hr := B.returns
  have hts := atoms_spec (ws := (.code y_WM_inForce b_WM_inForce 3 (some .int) :: TB)) B.pre
  have htb := fun w (h : w ∈ TB) => hts w (List.mem_cons_of_mem _ h)
  have hown : s.vm.findClass R_WM = some m.cls := findClass_of_methodNamed B.named
  have hlocks := B.notSynchronized
  have hl := lv_entry ([.ref (a 0), .int p_0, .int p_1]) (n := 3) (Nat.le_of_ble_eq_true rfl)
  rw [lg_entry_eq]
  generalize (lg_sl ([.ref (a 0), .int p_0, .int p_1]) ++ List.replicate (3 - (lg_sl ([.ref (a 0), .int p_0, .int p_1])).length) Slot.unset).toArray = ls at hl ⊢
  have hl : lv_has ls 3 [(0, .ref (a 0)), (1, .int p_0), (2, .int p_1)] := hl
  refine lv_iload_n hx hb d_WM_inForce_0 rfl (lv_at hl 1 rfl) ?_
  refine vp_callSi (va_Run.run (va_runS (As := [.int p_0]) (rest := []) ⟨hx, hb, hml, hown, htb⟩ (c_WM_isDay l p_0) (cwS 1 htb (gd_S tw_16 tw_17 tw_15 tw_14) rfl rfl rfl (by decide +kernel) ⟨Nat.le_of_ble_eq_true rfl, Nat.le_of_ble_eq_true rfl⟩) ⟨fun _ _ _ _ h => h, fun U _ _ => ⟨rfl, trivial⟩⟩ rfl rfl hl.1 rfl (lv_room (Nat.le_of_ble_eq_true rfl)) d_WM_inForce_1 ⟨Nat.le_of_ble_eq_true rfl, Nat.le_of_ble_eq_true rfl⟩)) (fun r er => ?_)
  subst er
  by_cases c_1 : p_0 < 0
  · refine hb_ti 0 (by unfold f_WM_isDay; rw [if_pos c_1]) ?_
    refine lv_if_eq (tgt := 23) hx hb d_WM_inForce_4 (by decide) (fun _ => ?_) (fun h => absurd (by decide +kernel) h)
    refine lv_iconst (v := (-1)) hx hb d_WM_inForce_23 (by decide +kernel) ?_
    exact W.iret (v := (-1)) hx hb hr (fun t ht hW => ⟨(-1), rfl, (by unfold f_WM_inForce; rw [if_pos c_1]), ht⟩) t_nil d_WM_inForce_24
  · by_cases c_2 : 500 ≤ p_0
    · refine hb_ti 0 (by unfold f_WM_isDay; rw [if_neg c_1, if_pos c_2]) ?_
      refine lv_if_eq (tgt := 23) hx hb d_WM_inForce_4 (by decide) (fun _ => ?_) (fun h => absurd (by decide +kernel) h)
      refine lv_iconst (v := (-1)) hx hb d_WM_inForce_23 (by decide +kernel) ?_
      exact W.iret (v := (-1)) hx hb hr (fun t ht hW => ⟨(-1), rfl, (by unfold f_WM_inForce; rw [if_neg c_1, if_pos c_2]), ht⟩) t_nil d_WM_inForce_24
    · refine hb_ti 1 (by unfold f_WM_isDay; rw [if_neg c_1, if_neg c_2]) ?_
      refine lv_if_eq (tgt := 23) hx hb d_WM_inForce_4 (by decide) (fun h => absurd h (by decide +kernel)) (fun _ => ?_)
      refine lv_iload_n hx hb d_WM_inForce_7 rfl (lv_at hl 2 rfl) ?_
      refine vp_callSi (va_Run.run (va_runS (As := [.int p_1]) (rest := []) ⟨hx, hb, hml, hown, htb⟩ (c_WM_isDay l p_1) (cwS 1 htb (gd_S tw_16 tw_17 tw_15 tw_14) rfl rfl rfl (by decide +kernel) ⟨Nat.le_of_ble_eq_true rfl, Nat.le_of_ble_eq_true rfl⟩) ⟨fun _ _ _ _ h => h, fun U _ _ => ⟨rfl, trivial⟩⟩ rfl rfl hl.1 rfl (lv_room (Nat.le_of_ble_eq_true rfl)) d_WM_inForce_8 ⟨Nat.le_of_ble_eq_true rfl, Nat.le_of_ble_eq_true rfl⟩)) (fun r er => ?_)
      subst er
      by_cases c_3 : p_1 < 0
      · refine hb_ti 0 (by unfold f_WM_isDay; rw [if_pos c_3]) ?_
        refine lv_if_eq (tgt := 23) hx hb d_WM_inForce_11 (by decide) (fun _ => ?_) (fun h => absurd (by decide +kernel) h)
        refine lv_iconst (v := (-1)) hx hb d_WM_inForce_23 (by decide +kernel) ?_
        exact W.iret (v := (-1)) hx hb hr (fun t ht hW => ⟨(-1), rfl, (by unfold f_WM_inForce; rw [if_neg c_1, if_neg c_2, if_pos c_3]), ht⟩) t_nil d_WM_inForce_24
      · by_cases c_4 : 500 ≤ p_1
        · refine hb_ti 0 (by unfold f_WM_isDay; rw [if_neg c_3, if_pos c_4]) ?_
          refine lv_if_eq (tgt := 23) hx hb d_WM_inForce_11 (by decide) (fun _ => ?_) (fun h => absurd (by decide +kernel) h)
          refine lv_iconst (v := (-1)) hx hb d_WM_inForce_23 (by decide +kernel) ?_
          exact W.iret (v := (-1)) hx hb hr (fun t ht hW => ⟨(-1), rfl, (by unfold f_WM_inForce; rw [if_neg c_1, if_neg c_2, if_neg c_3, if_pos c_4]), ht⟩) t_nil d_WM_inForce_24
        · refine hb_ti 1 (by unfold f_WM_isDay; rw [if_neg c_3, if_neg c_4]) ?_
          refine lv_if_eq (tgt := 23) hx hb d_WM_inForce_11 (by decide) (fun h => absurd h (by decide +kernel)) (fun _ => ?_)
          refine lv_aload_n hx hb d_WM_inForce_14 rfl (lv_at hl 0 rfl) ?_
          refine lv_iload_n hx hb d_WM_inForce_15 rfl (lv_at hl 1 rfl) ?_
          refine lv_iload_n hx hb d_WM_inForce_16 rfl (lv_at hl 2 rfl) ?_
          refine vp_callSi (va_Run.run (va_runV (As := [.int p_0, .int p_1]) (rest := []) ⟨hx, hb, hml, hown, htb⟩ (c_WM_numberInForce l dC dI a k L hL p_0 p_1) (cwV 2 htb (gd_V tw_91 tw_92 tw_93 tw_15 tw_90) rfl rfl rfl (by decide +kernel) ⟨Nat.le_of_ble_eq_true rfl, Nat.le_of_ble_eq_true rfl⟩) ⟨pr_blind, va_recv hK hP (ci := 0) (q0 := 0) rfl rfl, pr_pre hP hK hN⟩ rfl rfl hl.1 rfl (lv_room (Nat.le_of_ble_eq_true rfl)) d_WM_inForce_17 ⟨Nat.le_of_ble_eq_true rfl, Nat.le_of_ble_eq_true rfl⟩)) (fun r er => ?_)
          subst er
          refine hb_ti (-2) rfl ?_
          refine lv_goto (tgt := 24) hx hb d_WM_inForce_20 (by decide) ?_
          exact W.iret (v := (-2)) hx hb hr (fun t ht hW => ⟨(-2), rfl, (by unfold f_WM_inForce; rw [if_neg c_1, if_neg c_2, if_neg c_3, if_neg c_4]), ht⟩) t_nil d_WM_inForce_24
def f_WM_orderAt (a : Nat → Nat) (k : Nat → ClassId) (L : List Nat) (p_0 : Int32) (r : Option Nat) : Prop := if p_0 < 0 then (r = none) else (r = none)
set_option maxHeartbeats 4000000 in
set_option maxRecDepth 100000 in
theorem c_WM_orderAt (l : Launch) (dC : Nat → ClassId) (dI : Nat → Nat → Nat) (a : Nat → Nat) (k : Nat → ClassId) (L : List Nat) (hL : L.length = 40) (p_0 : Int32) : Met l y_WM_orderAt (.code y_WM_orderAt b_WM_orderAt 2 (some (.object "WaterMen$Order")) :: TB) ({ frames := 0, cells := 0, slots := 0, locals := 0 }) (va_Pc [.ref (a 0), .int p_0] (PR dC dI (XW a k L) (XT k))) (va_Sq (fun r => f_WM_orderAt a k L p_0 r)) 0 0 (fun _ => False) := by
  refine Met.ofW (cc := b_WM_orderAt) (maxL := 2) (ret := (some (.object "WaterMen$Order"))) (by decide) rfl ?_
  intro p e s m args below meth c s₁ B hml hv
  obtain ⟨rfl, hP, hK, hN⟩ := hv
  have hx := B.exec
  have hb := B.bytes
  have hr := B.returns
  have hts := atoms_spec (ws := (.code y_WM_orderAt b_WM_orderAt 2 (some (.object "WaterMen$Order")) :: TB)) B.pre
  have htb := fun w (h : w ∈ TB) => hts w (List.mem_cons_of_mem _ h)
  have hown : s.vm.findClass R_WM = some m.cls := findClass_of_methodNamed B.named
  have hlocks := B.notSynchronized
  have hl := lv_entry ([.ref (a 0), .int p_0]) (n := 2) (Nat.le_of_ble_eq_true rfl)
  rw [lg_entry_eq]
  generalize (lg_sl ([.ref (a 0), .int p_0]) ++ List.replicate (2 - (lg_sl ([.ref (a 0), .int p_0])).length) Slot.unset).toArray = ls at hl ⊢
  have hl : lv_has ls 2 [(0, .ref (a 0)), (1, .int p_0)] := hl
  refine lv_iload_n hx hb d_WM_orderAt_0 rfl (lv_at hl 1 rfl) ?_
  refine lv_if_lt (tgt := 21) hx hb d_WM_orderAt_1 (by decide) (fun c_1 => ?_) (fun c_1 => ?_)
  · refine lv_null hx hb d_WM_orderAt_21 ?_
    exact W.aret (v := .null) (rt := .object "WaterMen$Order") hx hb hr (Or.inl ⟨_, rfl⟩) (Or.inl rfl) (fun t ht hW => ⟨none, rfl, (by show f_WM_orderAt a k L p_0 none; unfold f_WM_orderAt; rw [if_pos c_1]), ht⟩) t_nil d_WM_orderAt_22
  · refine lv_iload_n hx hb d_WM_orderAt_4 rfl (lv_at hl 1 rfl) ?_
    refine lv_aload_n hx hb d_WM_orderAt_5 rfl (lv_at hl 0 rfl) ?_
    refine va_get (D := (dC, dI)) (ci := 0) (v := .int 0) (C := R_WM) (T := F_WM) (N := 13) hx hb htb i_WM hown hK hP 0 rfl rfl 8 (by decide) (htb (.fieldLink R_WM 210 "WaterMen" "orderCount" "I") tw_89) (fun _ h9 => h9) rfl d_WM_orderAt_6 ?_
    refine lv_icmp_ge (tgt := 21) hx hb d_WM_orderAt_9 (by decide) (fun _ => ?_) (fun h => absurd (show 0 ≤ p_0 from by have e0 := c_1; rw [Int32.lt_iff_toInt_lt] at e0; have z0 : (0 : Int32).toInt = 0 := (by decide +kernel); rw [Int32.le_iff_toInt_le]; omega) h)
    refine lv_null hx hb d_WM_orderAt_21 ?_
    exact W.aret (v := .null) (rt := .object "WaterMen$Order") hx hb hr (Or.inl ⟨_, rfl⟩) (Or.inl rfl) (fun t ht hW => ⟨none, rfl, (by show f_WM_orderAt a k L p_0 none; unfold f_WM_orderAt; rw [if_neg c_1]), ht⟩) t_nil d_WM_orderAt_22
def f_WM_fare (p_0 : Int32) (p_1 : Int32) (p_2 : Int32) (p_3 : Int32) (p_4 : Int32) : Int32 := if p_0 < 0 then ((-1)) else ((-1))
set_option maxHeartbeats 4000000 in
set_option maxRecDepth 100000 in
theorem c_WM_fare (l : Launch) (dC : Nat → ClassId) (dI : Nat → Nat → Nat) (a : Nat → Nat) (k : Nat → ClassId) (L : List Nat) (hL : L.length = 40)  (p_0 : Int32) (p_1 : Int32) (p_2 : Int32) (p_3 : Int32) (p_4 : Int32)  : Met l y_WM_fare (.code y_WM_fare b_WM_fare 8 (some .int) :: TB) ({ frames := 1, cells := 0, slots := 0, locals := 21 }) (va_Pc [.ref (a 0), .int p_0, .int p_1, .int p_2, .int p_3, .int p_4] (PR dC dI (XW a k L) (XT k))) (vp_Si (fun r => r = f_WM_fare p_0 p_1 p_2 p_3 p_4)) 0 0 (fun _ => False) := by
  refine Met.ofW (cc := b_WM_fare) (maxL := 8) (ret := (some .int)) (by decide) rfl ?_
  intro p e s m args below meth c s₁ B hml hv
  obtain ⟨rfl, hP, hK, hN⟩ := hv
  have hx := B.exec
  have hb := B.bytes
  have hr := B.returns
  have hts := atoms_spec (ws := (.code y_WM_fare b_WM_fare 8 (some .int) :: TB)) B.pre
  have htb := fun w (h : w ∈ TB) => hts w (List.mem_cons_of_mem _ h)
  have hown : s.vm.findClass R_WM = some m.cls := findClass_of_methodNamed B.named
  have hlocks := B.notSynchronized
  have hl := lv_entry ([.ref (a 0), .int p_0, .int p_1, .int p_2, .int p_3, .int p_4]) (n := 8) (Nat.le_of_ble_eq_true rfl)
  rw [lg_entry_eq]
  generalize (lg_sl ([.ref (a 0), .int p_0, .int p_1, .int p_2, .int p_3, .int p_4]) ++ List.replicate (8 - (lg_sl ([.ref (a 0), .int p_0, .int p_1, .int p_2, .int p_3, .int p_4])).length) Slot.unset).toArray = ls at hl ⊢
  have hl : lv_has ls 8 [(0, .ref (a 0)), (1, .int p_0), (2, .int p_1), (3, .int p_2), (4, .int p_3), (5, .int p_4)] := hl
  refine lv_aload_n hx hb d_WM_fare_0 rfl (lv_at hl 0 rfl) ?_
  refine lv_iload_n hx hb d_WM_fare_1 rfl (lv_at hl 1 rfl) ?_
  refine va_csq (va_Run.run (va_runV (As := [.int p_0]) (rest := []) ⟨hx, hb, hml, hown, htb⟩ (c_WM_orderAt l dC dI a k L hL p_0) (cwV 1 htb (gd_V tw_95 tw_96 tw_97 tw_15 tw_94) rfl rfl rfl (by decide +kernel) ⟨Nat.le_of_ble_eq_true rfl, Nat.le_of_ble_eq_true rfl⟩) ⟨pr_blind, va_recv hK hP (ci := 0) (q0 := 0) rfl rfl, pr_pre hP hK hN⟩ rfl rfl hl.1 rfl (lv_room (Nat.le_of_ble_eq_true rfl)) d_WM_fare_2 ⟨Nat.le_of_ble_eq_true rfl, Nat.le_of_ble_eq_true rfl⟩)) (fun rr_2 hq_1 => ?_)
  unfold f_WM_orderAt at hq_1
  by_cases c_3 : p_0 < 0
  · rw [if_pos c_3] at hq_1
    subst hq_1
    refine hb_tv .null rfl ?_
    refine lv_astoreN (lv' := [(6, .null), (0, .ref (a 0)), (1, .int p_0), (2, .int p_1), (3, .int p_2), (4, .int p_3), (5, .int p_4)]) hx hb d_WM_fare_5 hl (by decide) rfl (fun ls hl => ?_)
    refine lv_aloadN hx hb d_WM_fare_7 (lv_at hl 0 rfl) ?_
    refine lv_ifnullN (tgt := 39) hx hb d_WM_fare_9 (by decide) ?_
    refine lv_iconst (v := (-1)) hx hb d_WM_fare_39 (by decide +kernel) ?_
    exact W.iret (v := (-1)) hx hb hr (fun t ht hW => ⟨(-1), rfl, (by unfold f_WM_fare; rw [if_pos c_3]), ht⟩) t_nil d_WM_fare_40
  · rw [if_neg c_3] at hq_1
    subst hq_1
    refine hb_tv .null rfl ?_
    refine lv_astoreN (lv' := [(6, .null), (0, .ref (a 0)), (1, .int p_0), (2, .int p_1), (3, .int p_2), (4, .int p_3), (5, .int p_4)]) hx hb d_WM_fare_5 hl (by decide) rfl (fun ls hl => ?_)
    refine lv_aloadN hx hb d_WM_fare_7 (lv_at hl 0 rfl) ?_
    refine lv_ifnullN (tgt := 39) hx hb d_WM_fare_9 (by decide) ?_
    refine lv_iconst (v := (-1)) hx hb d_WM_fare_39 (by decide +kernel) ?_
    exact W.iret (v := (-1)) hx hb hr (fun t ht hW => ⟨(-1), rfl, (by unfold f_WM_fare; rw [if_neg c_3]), ht⟩) t_nil d_WM_fare_40
def f_WM_why (p_0 : Int32) (p_1 : Int32) (p_2 : Int32) : Int32 := if p_0 < 0 then (if p_1 < 0 then ((-1)) else (if 40 ≤ p_1 then ((-1)) else ((-1)))) else (if p_1 < 0 then ((-1)) else (if 40 ≤ p_1 then ((-1)) else ((-1))))
set_option maxHeartbeats 4000000 in
set_option maxRecDepth 100000 in
theorem c_WM_why (l : Launch) (dC : Nat → ClassId) (dI : Nat → Nat → Nat) (a : Nat → Nat) (k : Nat → ClassId) (L : List Nat) (hL : L.length = 40)  (p_0 : Int32) (p_1 : Int32) (p_2 : Int32)  : Met l y_WM_why (.code y_WM_why b_WM_why 6 (some .int) :: TB) ({ frames := 1, cells := 0, slots := 0, locals := 21 }) (va_Pc [.ref (a 0), .int p_0, .int p_1, .int p_2] (PR dC dI (XW a k L) (XT k))) (vp_Si (fun r => r = f_WM_why p_0 p_1 p_2)) 0 0 (fun _ => False) := by
  refine Met.ofW (cc := b_WM_why) (maxL := 6) (ret := (some .int)) (by decide) rfl ?_
  intro p e s m args below meth c s₁ B hml hv
  obtain ⟨rfl, hP, hK, hN⟩ := hv
  have hx := B.exec
  have hb := B.bytes
  have hr := B.returns
  have hts := atoms_spec (ws := (.code y_WM_why b_WM_why 6 (some .int) :: TB)) B.pre
  have htb := fun w (h : w ∈ TB) => hts w (List.mem_cons_of_mem _ h)
  have hown : s.vm.findClass R_WM = some m.cls := findClass_of_methodNamed B.named
  have hlocks := B.notSynchronized
  have hl := lv_entry ([.ref (a 0), .int p_0, .int p_1, .int p_2]) (n := 6) (Nat.le_of_ble_eq_true rfl)
  rw [lg_entry_eq]
  generalize (lg_sl ([.ref (a 0), .int p_0, .int p_1, .int p_2]) ++ List.replicate (6 - (lg_sl ([.ref (a 0), .int p_0, .int p_1, .int p_2])).length) Slot.unset).toArray = ls at hl ⊢
  have hl : lv_has ls 6 [(0, .ref (a 0)), (1, .int p_0), (2, .int p_1), (3, .int p_2)] := hl
  refine lv_aload_n hx hb d_WM_why_0 rfl (lv_at hl 0 rfl) ?_
  refine lv_iload_n hx hb d_WM_why_1 rfl (lv_at hl 1 rfl) ?_
  refine va_csq (va_Run.run (va_runV (As := [.int p_0]) (rest := []) ⟨hx, hb, hml, hown, htb⟩ (c_WM_boatAt l dC dI a k L hL p_0) (cwV 1 htb (gd_V tw_84 tw_85 tw_86 tw_15 tw_83) rfl rfl rfl (by decide +kernel) ⟨Nat.le_of_ble_eq_true rfl, Nat.le_of_ble_eq_true rfl⟩) ⟨pr_blind, va_recv hK hP (ci := 0) (q0 := 0) rfl rfl, pr_pre hP hK hN⟩ rfl rfl hl.1 rfl (lv_room (Nat.le_of_ble_eq_true rfl)) d_WM_why_2 ⟨Nat.le_of_ble_eq_true rfl, Nat.le_of_ble_eq_true rfl⟩)) (fun rr_2 hq_1 => ?_)
  unfold f_WM_boatAt at hq_1
  by_cases c_3 : p_0 < 0
  · rw [if_pos c_3] at hq_1
    subst hq_1
    refine hb_tv .null rfl ?_
    refine lv_astoreN (lv' := [(4, .null), (0, .ref (a 0)), (1, .int p_0), (2, .int p_1), (3, .int p_2)]) hx hb d_WM_why_5 hl (by decide) rfl (fun ls hl => ?_)
    refine lv_aload_n hx hb d_WM_why_7 rfl (lv_at hl 1 rfl) ?_
    refine lv_iload_n hx hb d_WM_why_8 rfl (lv_at hl 3 rfl) ?_
    refine va_csq (va_Run.run (va_runV (As := [.int p_1]) (rest := []) ⟨hx, hb, hml, hown, htb⟩ (c_WM_manAt l dC dI a k L hL p_1) (cwV 1 htb (gd_V tw_53 tw_54 tw_55 tw_15 tw_52) rfl rfl rfl (by decide +kernel) ⟨Nat.le_of_ble_eq_true rfl, Nat.le_of_ble_eq_true rfl⟩) ⟨pr_blind, va_recv hK hP (ci := 0) (q0 := 0) rfl rfl, pr_pre hP hK hN⟩ rfl rfl hl.1 rfl (lv_room (Nat.le_of_ble_eq_true rfl)) d_WM_why_9 ⟨Nat.le_of_ble_eq_true rfl, Nat.le_of_ble_eq_true rfl⟩)) (fun rr_5 hq_4 => ?_)
    unfold f_WM_manAt at hq_4
    by_cases c_6 : p_1 < 0
    · rw [if_pos c_6] at hq_4
      subst hq_4
      refine hb_tv .null rfl ?_
      refine lv_astoreN (lv' := [(5, .null), (4, .null), (0, .ref (a 0)), (1, .int p_0), (2, .int p_1), (3, .int p_2)]) hx hb d_WM_why_12 hl (by decide) rfl (fun ls hl => ?_)
      refine lv_aloadN hx hb d_WM_why_14 (lv_at hl 1 rfl) ?_
      refine lv_ifnullN (tgt := 34) hx hb d_WM_why_16 (by decide) ?_
      refine lv_iconst (v := (-1)) hx hb d_WM_why_34 (by decide +kernel) ?_
      exact W.iret (v := (-1)) hx hb hr (fun t ht hW => ⟨(-1), rfl, (by unfold f_WM_why; rw [if_pos c_3, if_pos c_6]), ht⟩) t_nil d_WM_why_35
    · by_cases c_7 : 40 ≤ p_1
      · rw [if_neg c_6, if_pos c_7] at hq_4
        subst hq_4
        refine hb_tv .null rfl ?_
        refine lv_astoreN (lv' := [(5, .null), (4, .null), (0, .ref (a 0)), (1, .int p_0), (2, .int p_1), (3, .int p_2)]) hx hb d_WM_why_12 hl (by decide) rfl (fun ls hl => ?_)
        refine lv_aloadN hx hb d_WM_why_14 (lv_at hl 1 rfl) ?_
        refine lv_ifnullN (tgt := 34) hx hb d_WM_why_16 (by decide) ?_
        refine lv_iconst (v := (-1)) hx hb d_WM_why_34 (by decide +kernel) ?_
        exact W.iret (v := (-1)) hx hb hr (fun t ht hW => ⟨(-1), rfl, (by unfold f_WM_why; rw [if_pos c_3, if_neg c_6, if_pos c_7]), ht⟩) t_nil d_WM_why_35
      · rw [if_neg c_6, if_neg c_7] at hq_4
        obtain ⟨q_8, x_9, rfl, hk_10⟩ := hq_4
        refine hb_tv (.ref q_8) rfl ?_
        refine lv_astore (lv' := [(5, .ref q_8), (4, .null), (0, .ref (a 0)), (1, .int p_0), (2, .int p_1), (3, .int p_2)]) hx hb d_WM_why_12 hl (by decide) rfl (fun ls hl => ?_)
        refine lv_aloadN hx hb d_WM_why_14 (lv_at hl 1 rfl) ?_
        refine lv_ifnullN (tgt := 34) hx hb d_WM_why_16 (by decide) ?_
        refine lv_iconst (v := (-1)) hx hb d_WM_why_34 (by decide +kernel) ?_
        exact W.iret (v := (-1)) hx hb hr (fun t ht hW => ⟨(-1), rfl, (by unfold f_WM_why; rw [if_pos c_3, if_neg c_6, if_neg c_7]), ht⟩) t_nil d_WM_why_35
  · rw [if_neg c_3] at hq_1
    subst hq_1
    refine hb_tv .null rfl ?_
    refine lv_astoreN (lv' := [(4, .null), (0, .ref (a 0)), (1, .int p_0), (2, .int p_1), (3, .int p_2)]) hx hb d_WM_why_5 hl (by decide) rfl (fun ls hl => ?_)
    refine lv_aload_n hx hb d_WM_why_7 rfl (lv_at hl 1 rfl) ?_
    refine lv_iload_n hx hb d_WM_why_8 rfl (lv_at hl 3 rfl) ?_
    refine va_csq (va_Run.run (va_runV (As := [.int p_1]) (rest := []) ⟨hx, hb, hml, hown, htb⟩ (c_WM_manAt l dC dI a k L hL p_1) (cwV 1 htb (gd_V tw_53 tw_54 tw_55 tw_15 tw_52) rfl rfl rfl (by decide +kernel) ⟨Nat.le_of_ble_eq_true rfl, Nat.le_of_ble_eq_true rfl⟩) ⟨pr_blind, va_recv hK hP (ci := 0) (q0 := 0) rfl rfl, pr_pre hP hK hN⟩ rfl rfl hl.1 rfl (lv_room (Nat.le_of_ble_eq_true rfl)) d_WM_why_9 ⟨Nat.le_of_ble_eq_true rfl, Nat.le_of_ble_eq_true rfl⟩)) (fun rr_12 hq_11 => ?_)
    unfold f_WM_manAt at hq_11
    by_cases c_13 : p_1 < 0
    · rw [if_pos c_13] at hq_11
      subst hq_11
      refine hb_tv .null rfl ?_
      refine lv_astoreN (lv' := [(5, .null), (4, .null), (0, .ref (a 0)), (1, .int p_0), (2, .int p_1), (3, .int p_2)]) hx hb d_WM_why_12 hl (by decide) rfl (fun ls hl => ?_)
      refine lv_aloadN hx hb d_WM_why_14 (lv_at hl 1 rfl) ?_
      refine lv_ifnullN (tgt := 34) hx hb d_WM_why_16 (by decide) ?_
      refine lv_iconst (v := (-1)) hx hb d_WM_why_34 (by decide +kernel) ?_
      exact W.iret (v := (-1)) hx hb hr (fun t ht hW => ⟨(-1), rfl, (by unfold f_WM_why; rw [if_neg c_3, if_pos c_13]), ht⟩) t_nil d_WM_why_35
    · by_cases c_14 : 40 ≤ p_1
      · rw [if_neg c_13, if_pos c_14] at hq_11
        subst hq_11
        refine hb_tv .null rfl ?_
        refine lv_astoreN (lv' := [(5, .null), (4, .null), (0, .ref (a 0)), (1, .int p_0), (2, .int p_1), (3, .int p_2)]) hx hb d_WM_why_12 hl (by decide) rfl (fun ls hl => ?_)
        refine lv_aloadN hx hb d_WM_why_14 (lv_at hl 1 rfl) ?_
        refine lv_ifnullN (tgt := 34) hx hb d_WM_why_16 (by decide) ?_
        refine lv_iconst (v := (-1)) hx hb d_WM_why_34 (by decide +kernel) ?_
        exact W.iret (v := (-1)) hx hb hr (fun t ht hW => ⟨(-1), rfl, (by unfold f_WM_why; rw [if_neg c_3, if_neg c_13, if_pos c_14]), ht⟩) t_nil d_WM_why_35
      · rw [if_neg c_13, if_neg c_14] at hq_11
        obtain ⟨q_15, x_16, rfl, hk_17⟩ := hq_11
        refine hb_tv (.ref q_15) rfl ?_
        refine lv_astore (lv' := [(5, .ref q_15), (4, .null), (0, .ref (a 0)), (1, .int p_0), (2, .int p_1), (3, .int p_2)]) hx hb d_WM_why_12 hl (by decide) rfl (fun ls hl => ?_)
        refine lv_aloadN hx hb d_WM_why_14 (lv_at hl 1 rfl) ?_
        refine lv_ifnullN (tgt := 34) hx hb d_WM_why_16 (by decide) ?_
        refine lv_iconst (v := (-1)) hx hb d_WM_why_34 (by decide +kernel) ?_
        exact W.iret (v := (-1)) hx hb hr (fun t ht hW => ⟨(-1), rfl, (by unfold f_WM_why; rw [if_neg c_3, if_neg c_13, if_neg c_14]), ht⟩) t_nil d_WM_why_35
def f_WM_row (p_0 : Int32) (p_1 : Int32) (p_2 : Int32) (p_3 : Int32) : Int32 := if p_0 < 0 then (if p_1 < 0 then ((-1)) else (if 40 ≤ p_1 then ((-1)) else ((-1)))) else (if p_1 < 0 then ((-1)) else (if 40 ≤ p_1 then ((-1)) else ((-1))))
set_option maxHeartbeats 4000000 in
set_option maxRecDepth 100000 in
theorem c_WM_row (l : Launch) (dC : Nat → ClassId) (dI : Nat → Nat → Nat) (a : Nat → Nat) (k : Nat → ClassId) (L : List Nat) (hL : L.length = 40)  (p_0 : Int32) (p_1 : Int32) (p_2 : Int32) (p_3 : Int32)  : Met l y_WM_row (.code y_WM_row b_WM_row 9 (some .int) :: TB) ({ frames := 1, cells := 0, slots := 0, locals := 21 }) (va_Pc [.ref (a 0), .int p_0, .int p_1, .int p_2, .int p_3] (PR dC dI (XW a k L) (XT k))) (vp_Si (fun r => r = f_WM_row p_0 p_1 p_2 p_3)) 0 0 (fun _ => False) := by
  refine Met.ofW (cc := b_WM_row) (maxL := 9) (ret := (some .int)) (by decide) rfl ?_
  intro p e s m args below meth c s₁ B hml hv
  obtain ⟨rfl, hP, hK, hN⟩ := hv
  have hx := B.exec
  have hb := B.bytes
  have hr := B.returns
  have hts := atoms_spec (ws := (.code y_WM_row b_WM_row 9 (some .int) :: TB)) B.pre
  have htb := fun w (h : w ∈ TB) => hts w (List.mem_cons_of_mem _ h)
  have hown : s.vm.findClass R_WM = some m.cls := findClass_of_methodNamed B.named
  have hlocks := B.notSynchronized
  have hl := lv_entry ([.ref (a 0), .int p_0, .int p_1, .int p_2, .int p_3]) (n := 9) (Nat.le_of_ble_eq_true rfl)
  rw [lg_entry_eq]
  generalize (lg_sl ([.ref (a 0), .int p_0, .int p_1, .int p_2, .int p_3]) ++ List.replicate (9 - (lg_sl ([.ref (a 0), .int p_0, .int p_1, .int p_2, .int p_3])).length) Slot.unset).toArray = ls at hl ⊢
  have hl : lv_has ls 9 [(0, .ref (a 0)), (1, .int p_0), (2, .int p_1), (3, .int p_2), (4, .int p_3)] := hl
  refine lv_aload_n hx hb d_WM_row_0 rfl (lv_at hl 0 rfl) ?_
  refine lv_iload_n hx hb d_WM_row_1 rfl (lv_at hl 1 rfl) ?_
  refine va_csq (va_Run.run (va_runV (As := [.int p_0]) (rest := []) ⟨hx, hb, hml, hown, htb⟩ (c_WM_boatAt l dC dI a k L hL p_0) (cwV 1 htb (gd_V tw_84 tw_85 tw_86 tw_15 tw_83) rfl rfl rfl (by decide +kernel) ⟨Nat.le_of_ble_eq_true rfl, Nat.le_of_ble_eq_true rfl⟩) ⟨pr_blind, va_recv hK hP (ci := 0) (q0 := 0) rfl rfl, pr_pre hP hK hN⟩ rfl rfl hl.1 rfl (lv_room (Nat.le_of_ble_eq_true rfl)) d_WM_row_2 ⟨Nat.le_of_ble_eq_true rfl, Nat.le_of_ble_eq_true rfl⟩)) (fun rr_2 hq_1 => ?_)
  unfold f_WM_boatAt at hq_1
  by_cases c_3 : p_0 < 0
  · rw [if_pos c_3] at hq_1
    subst hq_1
    refine hb_tv .null rfl ?_
    refine lv_astoreN (lv' := [(5, .null), (0, .ref (a 0)), (1, .int p_0), (2, .int p_1), (3, .int p_2), (4, .int p_3)]) hx hb d_WM_row_5 hl (by decide) rfl (fun ls hl => ?_)
    refine lv_aload_n hx hb d_WM_row_7 rfl (lv_at hl 1 rfl) ?_
    refine lv_iload_n hx hb d_WM_row_8 rfl (lv_at hl 3 rfl) ?_
    refine va_csq (va_Run.run (va_runV (As := [.int p_1]) (rest := []) ⟨hx, hb, hml, hown, htb⟩ (c_WM_manAt l dC dI a k L hL p_1) (cwV 1 htb (gd_V tw_53 tw_54 tw_55 tw_15 tw_52) rfl rfl rfl (by decide +kernel) ⟨Nat.le_of_ble_eq_true rfl, Nat.le_of_ble_eq_true rfl⟩) ⟨pr_blind, va_recv hK hP (ci := 0) (q0 := 0) rfl rfl, pr_pre hP hK hN⟩ rfl rfl hl.1 rfl (lv_room (Nat.le_of_ble_eq_true rfl)) d_WM_row_9 ⟨Nat.le_of_ble_eq_true rfl, Nat.le_of_ble_eq_true rfl⟩)) (fun rr_5 hq_4 => ?_)
    unfold f_WM_manAt at hq_4
    by_cases c_6 : p_1 < 0
    · rw [if_pos c_6] at hq_4
      subst hq_4
      refine hb_tv .null rfl ?_
      refine lv_astoreN (lv' := [(6, .null), (5, .null), (0, .ref (a 0)), (1, .int p_0), (2, .int p_1), (3, .int p_2), (4, .int p_3)]) hx hb d_WM_row_12 hl (by decide) rfl (fun ls hl => ?_)
      refine lv_aloadN hx hb d_WM_row_14 (lv_at hl 1 rfl) ?_
      refine lv_ifnullN (tgt := 46) hx hb d_WM_row_16 (by decide) ?_
      refine lv_iconst (v := (-1)) hx hb d_WM_row_46 (by decide +kernel) ?_
      exact W.iret (v := (-1)) hx hb hr (fun t ht hW => ⟨(-1), rfl, (by unfold f_WM_row; rw [if_pos c_3, if_pos c_6]), ht⟩) t_nil d_WM_row_47
    · by_cases c_7 : 40 ≤ p_1
      · rw [if_neg c_6, if_pos c_7] at hq_4
        subst hq_4
        refine hb_tv .null rfl ?_
        refine lv_astoreN (lv' := [(6, .null), (5, .null), (0, .ref (a 0)), (1, .int p_0), (2, .int p_1), (3, .int p_2), (4, .int p_3)]) hx hb d_WM_row_12 hl (by decide) rfl (fun ls hl => ?_)
        refine lv_aloadN hx hb d_WM_row_14 (lv_at hl 1 rfl) ?_
        refine lv_ifnullN (tgt := 46) hx hb d_WM_row_16 (by decide) ?_
        refine lv_iconst (v := (-1)) hx hb d_WM_row_46 (by decide +kernel) ?_
        exact W.iret (v := (-1)) hx hb hr (fun t ht hW => ⟨(-1), rfl, (by unfold f_WM_row; rw [if_pos c_3, if_neg c_6, if_pos c_7]), ht⟩) t_nil d_WM_row_47
      · rw [if_neg c_6, if_neg c_7] at hq_4
        obtain ⟨q_8, x_9, rfl, hk_10⟩ := hq_4
        refine hb_tv (.ref q_8) rfl ?_
        refine lv_astore (lv' := [(6, .ref q_8), (5, .null), (0, .ref (a 0)), (1, .int p_0), (2, .int p_1), (3, .int p_2), (4, .int p_3)]) hx hb d_WM_row_12 hl (by decide) rfl (fun ls hl => ?_)
        refine lv_aloadN hx hb d_WM_row_14 (lv_at hl 1 rfl) ?_
        refine lv_ifnullN (tgt := 46) hx hb d_WM_row_16 (by decide) ?_
        refine lv_iconst (v := (-1)) hx hb d_WM_row_46 (by decide +kernel) ?_
        exact W.iret (v := (-1)) hx hb hr (fun t ht hW => ⟨(-1), rfl, (by unfold f_WM_row; rw [if_pos c_3, if_neg c_6, if_neg c_7]), ht⟩) t_nil d_WM_row_47
  · rw [if_neg c_3] at hq_1
    subst hq_1
    refine hb_tv .null rfl ?_
    refine lv_astoreN (lv' := [(5, .null), (0, .ref (a 0)), (1, .int p_0), (2, .int p_1), (3, .int p_2), (4, .int p_3)]) hx hb d_WM_row_5 hl (by decide) rfl (fun ls hl => ?_)
    refine lv_aload_n hx hb d_WM_row_7 rfl (lv_at hl 1 rfl) ?_
    refine lv_iload_n hx hb d_WM_row_8 rfl (lv_at hl 3 rfl) ?_
    refine va_csq (va_Run.run (va_runV (As := [.int p_1]) (rest := []) ⟨hx, hb, hml, hown, htb⟩ (c_WM_manAt l dC dI a k L hL p_1) (cwV 1 htb (gd_V tw_53 tw_54 tw_55 tw_15 tw_52) rfl rfl rfl (by decide +kernel) ⟨Nat.le_of_ble_eq_true rfl, Nat.le_of_ble_eq_true rfl⟩) ⟨pr_blind, va_recv hK hP (ci := 0) (q0 := 0) rfl rfl, pr_pre hP hK hN⟩ rfl rfl hl.1 rfl (lv_room (Nat.le_of_ble_eq_true rfl)) d_WM_row_9 ⟨Nat.le_of_ble_eq_true rfl, Nat.le_of_ble_eq_true rfl⟩)) (fun rr_12 hq_11 => ?_)
    unfold f_WM_manAt at hq_11
    by_cases c_13 : p_1 < 0
    · rw [if_pos c_13] at hq_11
      subst hq_11
      refine hb_tv .null rfl ?_
      refine lv_astoreN (lv' := [(6, .null), (5, .null), (0, .ref (a 0)), (1, .int p_0), (2, .int p_1), (3, .int p_2), (4, .int p_3)]) hx hb d_WM_row_12 hl (by decide) rfl (fun ls hl => ?_)
      refine lv_aloadN hx hb d_WM_row_14 (lv_at hl 1 rfl) ?_
      refine lv_ifnullN (tgt := 46) hx hb d_WM_row_16 (by decide) ?_
      refine lv_iconst (v := (-1)) hx hb d_WM_row_46 (by decide +kernel) ?_
      exact W.iret (v := (-1)) hx hb hr (fun t ht hW => ⟨(-1), rfl, (by unfold f_WM_row; rw [if_neg c_3, if_pos c_13]), ht⟩) t_nil d_WM_row_47
    · by_cases c_14 : 40 ≤ p_1
      · rw [if_neg c_13, if_pos c_14] at hq_11
        subst hq_11
        refine hb_tv .null rfl ?_
        refine lv_astoreN (lv' := [(6, .null), (5, .null), (0, .ref (a 0)), (1, .int p_0), (2, .int p_1), (3, .int p_2), (4, .int p_3)]) hx hb d_WM_row_12 hl (by decide) rfl (fun ls hl => ?_)
        refine lv_aloadN hx hb d_WM_row_14 (lv_at hl 1 rfl) ?_
        refine lv_ifnullN (tgt := 46) hx hb d_WM_row_16 (by decide) ?_
        refine lv_iconst (v := (-1)) hx hb d_WM_row_46 (by decide +kernel) ?_
        exact W.iret (v := (-1)) hx hb hr (fun t ht hW => ⟨(-1), rfl, (by unfold f_WM_row; rw [if_neg c_3, if_neg c_13, if_pos c_14]), ht⟩) t_nil d_WM_row_47
      · rw [if_neg c_13, if_neg c_14] at hq_11
        obtain ⟨q_15, x_16, rfl, hk_17⟩ := hq_11
        refine hb_tv (.ref q_15) rfl ?_
        refine lv_astore (lv' := [(6, .ref q_15), (5, .null), (0, .ref (a 0)), (1, .int p_0), (2, .int p_1), (3, .int p_2), (4, .int p_3)]) hx hb d_WM_row_12 hl (by decide) rfl (fun ls hl => ?_)
        refine lv_aloadN hx hb d_WM_row_14 (lv_at hl 1 rfl) ?_
        refine lv_ifnullN (tgt := 46) hx hb d_WM_row_16 (by decide) ?_
        refine lv_iconst (v := (-1)) hx hb d_WM_row_46 (by decide +kernel) ?_
        exact W.iret (v := (-1)) hx hb hr (fun t ht hW => ⟨(-1), rfl, (by unfold f_WM_row; rw [if_neg c_3, if_neg c_13, if_neg c_14]), ht⟩) t_nil d_WM_row_47
def f_WM_sink (p_0 : Int32) (p_1 : Int32) (p_2 : Int32) : Int32 := if p_0 < 0 then ((-1)) else ((-1))
set_option maxHeartbeats 4000000 in
set_option maxRecDepth 100000 in
theorem c_WM_sink (l : Launch) (dC : Nat → ClassId) (dI : Nat → Nat → Nat) (a : Nat → Nat) (k : Nat → ClassId) (L : List Nat) (hL : L.length = 40)  (p_0 : Int32) (p_1 : Int32) (p_2 : Int32)  : Met l y_WM_sink (.code y_WM_sink b_WM_sink 7 (some .int) :: TB) ({ frames := 1, cells := 0, slots := 0, locals := 21 }) (va_Pc [.ref (a 0), .int p_0, .int p_1, .int p_2] (PR dC dI (XW a k L) (XT k))) (vp_Si (fun r => r = f_WM_sink p_0 p_1 p_2)) 0 0 (fun _ => False) := by
  refine Met.ofW (cc := b_WM_sink) (maxL := 7) (ret := (some .int)) (by decide) rfl ?_
  intro p e s m args below meth c s₁ B hml hv
  obtain ⟨rfl, hP, hK, hN⟩ := hv
  have hx := B.exec
  have hb := B.bytes
  have hr := B.returns
  have hts := atoms_spec (ws := (.code y_WM_sink b_WM_sink 7 (some .int) :: TB)) B.pre
  have htb := fun w (h : w ∈ TB) => hts w (List.mem_cons_of_mem _ h)
  have hown : s.vm.findClass R_WM = some m.cls := findClass_of_methodNamed B.named
  have hlocks := B.notSynchronized
  have hl := lv_entry ([.ref (a 0), .int p_0, .int p_1, .int p_2]) (n := 7) (Nat.le_of_ble_eq_true rfl)
  rw [lg_entry_eq]
  generalize (lg_sl ([.ref (a 0), .int p_0, .int p_1, .int p_2]) ++ List.replicate (7 - (lg_sl ([.ref (a 0), .int p_0, .int p_1, .int p_2])).length) Slot.unset).toArray = ls at hl ⊢
  have hl : lv_has ls 7 [(0, .ref (a 0)), (1, .int p_0), (2, .int p_1), (3, .int p_2)] := hl
  refine lv_aload_n hx hb d_WM_sink_0 rfl (lv_at hl 0 rfl) ?_
  refine lv_iload_n hx hb d_WM_sink_1 rfl (lv_at hl 1 rfl) ?_
  refine va_csq (va_Run.run (va_runV (As := [.int p_0]) (rest := []) ⟨hx, hb, hml, hown, htb⟩ (c_WM_boatAt l dC dI a k L hL p_0) (cwV 1 htb (gd_V tw_84 tw_85 tw_86 tw_15 tw_83) rfl rfl rfl (by decide +kernel) ⟨Nat.le_of_ble_eq_true rfl, Nat.le_of_ble_eq_true rfl⟩) ⟨pr_blind, va_recv hK hP (ci := 0) (q0 := 0) rfl rfl, pr_pre hP hK hN⟩ rfl rfl hl.1 rfl (lv_room (Nat.le_of_ble_eq_true rfl)) d_WM_sink_2 ⟨Nat.le_of_ble_eq_true rfl, Nat.le_of_ble_eq_true rfl⟩)) (fun rr_2 hq_1 => ?_)
  unfold f_WM_boatAt at hq_1
  by_cases c_3 : p_0 < 0
  · rw [if_pos c_3] at hq_1
    subst hq_1
    refine hb_tv .null rfl ?_
    refine lv_astoreN (lv' := [(4, .null), (0, .ref (a 0)), (1, .int p_0), (2, .int p_1), (3, .int p_2)]) hx hb d_WM_sink_5 hl (by decide) rfl (fun ls hl => ?_)
    refine lv_aloadN hx hb d_WM_sink_7 (lv_at hl 0 rfl) ?_
    refine lv_ifnullN (tgt := 20) hx hb d_WM_sink_9 (by decide) ?_
    refine lv_iconst (v := (-1)) hx hb d_WM_sink_20 (by decide +kernel) ?_
    exact W.iret (v := (-1)) hx hb hr (fun t ht hW => ⟨(-1), rfl, (by unfold f_WM_sink; rw [if_pos c_3]), ht⟩) t_nil d_WM_sink_21
  · rw [if_neg c_3] at hq_1
    subst hq_1
    refine hb_tv .null rfl ?_
    refine lv_astoreN (lv' := [(4, .null), (0, .ref (a 0)), (1, .int p_0), (2, .int p_1), (3, .int p_2)]) hx hb d_WM_sink_5 hl (by decide) rfl (fun ls hl => ?_)
    refine lv_aloadN hx hb d_WM_sink_7 (lv_at hl 0 rfl) ?_
    refine lv_ifnullN (tgt := 20) hx hb d_WM_sink_9 (by decide) ?_
    refine lv_iconst (v := (-1)) hx hb d_WM_sink_20 (by decide +kernel) ?_
    exact W.iret (v := (-1)) hx hb hr (fun t ht hW => ⟨(-1), rfl, (by unfold f_WM_sink; rw [if_neg c_3]), ht⟩) t_nil d_WM_sink_21
def f_WM_tripAt (a : Nat → Nat) (k : Nat → ClassId) (L : List Nat) (p_0 : Int32) (r : Option Nat) : Prop := if p_0 < 0 then (r = none) else (r = none)
set_option maxHeartbeats 4000000 in
set_option maxRecDepth 100000 in
theorem c_WM_tripAt (l : Launch) (dC : Nat → ClassId) (dI : Nat → Nat → Nat) (a : Nat → Nat) (k : Nat → ClassId) (L : List Nat) (hL : L.length = 40) (p_0 : Int32) : Met l y_WM_tripAt (.code y_WM_tripAt b_WM_tripAt 2 (some (.object "WaterMen$Trip")) :: TB) ({ frames := 0, cells := 0, slots := 0, locals := 0 }) (va_Pc [.ref (a 0), .int p_0] (PR dC dI (XW a k L) (XT k))) (va_Sq (fun r => f_WM_tripAt a k L p_0 r)) 0 0 (fun _ => False) := by
  refine Met.ofW (cc := b_WM_tripAt) (maxL := 2) (ret := (some (.object "WaterMen$Trip"))) (by decide) rfl ?_
  intro p e s m args below meth c s₁ B hml hv
  obtain ⟨rfl, hP, hK, hN⟩ := hv
  have hx := B.exec
  have hb := B.bytes
  have hr := B.returns
  have hts := atoms_spec (ws := (.code y_WM_tripAt b_WM_tripAt 2 (some (.object "WaterMen$Trip")) :: TB)) B.pre
  have htb := fun w (h : w ∈ TB) => hts w (List.mem_cons_of_mem _ h)
  have hown : s.vm.findClass R_WM = some m.cls := findClass_of_methodNamed B.named
  have hlocks := B.notSynchronized
  have hl := lv_entry ([.ref (a 0), .int p_0]) (n := 2) (Nat.le_of_ble_eq_true rfl)
  rw [lg_entry_eq]
  generalize (lg_sl ([.ref (a 0), .int p_0]) ++ List.replicate (2 - (lg_sl ([.ref (a 0), .int p_0])).length) Slot.unset).toArray = ls at hl ⊢
  have hl : lv_has ls 2 [(0, .ref (a 0)), (1, .int p_0)] := hl
  refine lv_iload_n hx hb d_WM_tripAt_0 rfl (lv_at hl 1 rfl) ?_
  refine lv_if_lt (tgt := 21) hx hb d_WM_tripAt_1 (by decide) (fun c_1 => ?_) (fun c_1 => ?_)
  · refine lv_null hx hb d_WM_tripAt_21 ?_
    exact W.aret (v := .null) (rt := .object "WaterMen$Trip") hx hb hr (Or.inl ⟨_, rfl⟩) (Or.inl rfl) (fun t ht hW => ⟨none, rfl, (by show f_WM_tripAt a k L p_0 none; unfold f_WM_tripAt; rw [if_pos c_1]), ht⟩) t_nil d_WM_tripAt_22
  · refine lv_iload_n hx hb d_WM_tripAt_4 rfl (lv_at hl 1 rfl) ?_
    refine lv_aload_n hx hb d_WM_tripAt_5 rfl (lv_at hl 0 rfl) ?_
    refine va_get (D := (dC, dI)) (ci := 0) (v := .int 0) (C := R_WM) (T := F_WM) (N := 13) hx hb htb i_WM hown hK hP 0 rfl rfl 9 (by decide) (htb (.fieldLink R_WM 243 "WaterMen" "tripCount" "I") tw_98) (fun _ h9 => h9) rfl d_WM_tripAt_6 ?_
    refine lv_icmp_ge (tgt := 21) hx hb d_WM_tripAt_9 (by decide) (fun _ => ?_) (fun h => absurd (show 0 ≤ p_0 from by have e0 := c_1; rw [Int32.lt_iff_toInt_lt] at e0; have z0 : (0 : Int32).toInt = 0 := (by decide +kernel); rw [Int32.le_iff_toInt_le]; omega) h)
    refine lv_null hx hb d_WM_tripAt_21 ?_
    exact W.aret (v := .null) (rt := .object "WaterMen$Trip") hx hb hr (Or.inl ⟨_, rfl⟩) (Or.inl rfl) (fun t ht hW => ⟨none, rfl, (by show f_WM_tripAt a k L p_0 none; unfold f_WM_tripAt; rw [if_neg c_1]), ht⟩) t_nil d_WM_tripAt_22
def f_WM_trip (p_0 : Int32) (p_1 : Int32) : Int32 := if p_0 < 0 then ((-2)) else ((-2))
set_option maxHeartbeats 4000000 in
set_option maxRecDepth 100000 in
theorem c_WM_trip (l : Launch) (dC : Nat → ClassId) (dI : Nat → Nat → Nat) (a : Nat → Nat) (k : Nat → ClassId) (L : List Nat) (hL : L.length = 40)  (p_0 : Int32) (p_1 : Int32)  : Met l y_WM_trip (.code y_WM_trip b_WM_trip 4 (some .int) :: TB) ({ frames := 1, cells := 0, slots := 0, locals := 21 }) (va_Pc [.ref (a 0), .int p_0, .int p_1] (PR dC dI (XW a k L) (XT k))) (vp_Si (fun r => r = f_WM_trip p_0 p_1)) 0 0 (fun _ => False) := by
  refine Met.ofW (cc := b_WM_trip) (maxL := 4) (ret := (some .int)) (by decide) rfl ?_
  intro p e s m args below meth c s₁ B hml hv
  obtain ⟨rfl, hP, hK, hN⟩ := hv
  have hx := B.exec
  have hb := B.bytes
  have hr := B.returns
  have hts := atoms_spec (ws := (.code y_WM_trip b_WM_trip 4 (some .int) :: TB)) B.pre
  have htb := fun w (h : w ∈ TB) => hts w (List.mem_cons_of_mem _ h)
  have hown : s.vm.findClass R_WM = some m.cls := findClass_of_methodNamed B.named
  have hlocks := B.notSynchronized
  have hl := lv_entry ([.ref (a 0), .int p_0, .int p_1]) (n := 4) (Nat.le_of_ble_eq_true rfl)
  rw [lg_entry_eq]
  generalize (lg_sl ([.ref (a 0), .int p_0, .int p_1]) ++ List.replicate (4 - (lg_sl ([.ref (a 0), .int p_0, .int p_1])).length) Slot.unset).toArray = ls at hl ⊢
  have hl : lv_has ls 4 [(0, .ref (a 0)), (1, .int p_0), (2, .int p_1)] := hl
  refine lv_aload_n hx hb d_WM_trip_0 rfl (lv_at hl 0 rfl) ?_
  refine lv_iload_n hx hb d_WM_trip_1 rfl (lv_at hl 1 rfl) ?_
  refine va_csq (va_Run.run (va_runV (As := [.int p_0]) (rest := []) ⟨hx, hb, hml, hown, htb⟩ (c_WM_tripAt l dC dI a k L hL p_0) (cwV 1 htb (gd_V tw_100 tw_101 tw_102 tw_15 tw_99) rfl rfl rfl (by decide +kernel) ⟨Nat.le_of_ble_eq_true rfl, Nat.le_of_ble_eq_true rfl⟩) ⟨pr_blind, va_recv hK hP (ci := 0) (q0 := 0) rfl rfl, pr_pre hP hK hN⟩ rfl rfl hl.1 rfl (lv_room (Nat.le_of_ble_eq_true rfl)) d_WM_trip_2 ⟨Nat.le_of_ble_eq_true rfl, Nat.le_of_ble_eq_true rfl⟩)) (fun rr_2 hq_1 => ?_)
  unfold f_WM_tripAt at hq_1
  by_cases c_3 : p_0 < 0
  · rw [if_pos c_3] at hq_1
    subst hq_1
    refine hb_tv .null rfl ?_
    refine lv_astore_nN (lv' := [(3, .null), (0, .ref (a 0)), (1, .int p_0), (2, .int p_1)]) hx hb d_WM_trip_5 rfl hl (by decide) rfl (fun ls hl => ?_)
    refine lv_aload_nN hx hb d_WM_trip_6 rfl (lv_at hl 0 rfl) ?_
    refine lv_ifnonnullN hx hb d_WM_trip_7 ?_
    refine lv_bipush (v := (-2)) hx hb d_WM_trip_10 (by decide +kernel) ?_
    exact W.iret (v := (-2)) hx hb hr (fun t ht hW => ⟨(-2), rfl, (by unfold f_WM_trip; rw [if_pos c_3]), ht⟩) t_nil d_WM_trip_12
  · rw [if_neg c_3] at hq_1
    subst hq_1
    refine hb_tv .null rfl ?_
    refine lv_astore_nN (lv' := [(3, .null), (0, .ref (a 0)), (1, .int p_0), (2, .int p_1)]) hx hb d_WM_trip_5 rfl hl (by decide) rfl (fun ls hl => ?_)
    refine lv_aload_nN hx hb d_WM_trip_6 rfl (lv_at hl 0 rfl) ?_
    refine lv_ifnonnullN hx hb d_WM_trip_7 ?_
    refine lv_bipush (v := (-2)) hx hb d_WM_trip_10 (by decide +kernel) ?_
    exact W.iret (v := (-2)) hx hb hr (fun t ht hW => ⟨(-2), rfl, (by unfold f_WM_trip; rw [if_neg c_3]), ht⟩) t_nil d_WM_trip_12
def f_WM_due (p_0 : Int32) (p_1 : Int32) : Int32 := if p_0 < 0 then ((-2)) else ((-2))
set_option maxHeartbeats 4000000 in
set_option maxRecDepth 100000 in
theorem c_WM_due (l : Launch) (dC : Nat → ClassId) (dI : Nat → Nat → Nat) (a : Nat → Nat) (k : Nat → ClassId) (L : List Nat) (hL : L.length = 40)  (p_0 : Int32) (p_1 : Int32)  : Met l y_WM_due (.code y_WM_due b_WM_due 4 (some .int) :: TB) ({ frames := 1, cells := 0, slots := 0, locals := 21 }) (va_Pc [.ref (a 0), .int p_0, .int p_1] (PR dC dI (XW a k L) (XT k))) (vp_Si (fun r => r = f_WM_due p_0 p_1)) 0 0 (fun _ => False) := by
  refine Met.ofW (cc := b_WM_due) (maxL := 4) (ret := (some .int)) (by decide) rfl ?_
  intro p e s m args below meth c s₁ B hml hv
  obtain ⟨rfl, hP, hK, hN⟩ := hv
  have hx := B.exec
  have hb := B.bytes
  have hr := B.returns
  have hts := atoms_spec (ws := (.code y_WM_due b_WM_due 4 (some .int) :: TB)) B.pre
  have htb := fun w (h : w ∈ TB) => hts w (List.mem_cons_of_mem _ h)
  have hown : s.vm.findClass R_WM = some m.cls := findClass_of_methodNamed B.named
  have hlocks := B.notSynchronized
  have hl := lv_entry ([.ref (a 0), .int p_0, .int p_1]) (n := 4) (Nat.le_of_ble_eq_true rfl)
  rw [lg_entry_eq]
  generalize (lg_sl ([.ref (a 0), .int p_0, .int p_1]) ++ List.replicate (4 - (lg_sl ([.ref (a 0), .int p_0, .int p_1])).length) Slot.unset).toArray = ls at hl ⊢
  have hl : lv_has ls 4 [(0, .ref (a 0)), (1, .int p_0), (2, .int p_1)] := hl
  refine lv_aload_n hx hb d_WM_due_0 rfl (lv_at hl 0 rfl) ?_
  refine lv_iload_n hx hb d_WM_due_1 rfl (lv_at hl 1 rfl) ?_
  refine va_csq (va_Run.run (va_runV (As := [.int p_0]) (rest := []) ⟨hx, hb, hml, hown, htb⟩ (c_WM_tripAt l dC dI a k L hL p_0) (cwV 1 htb (gd_V tw_100 tw_101 tw_102 tw_15 tw_99) rfl rfl rfl (by decide +kernel) ⟨Nat.le_of_ble_eq_true rfl, Nat.le_of_ble_eq_true rfl⟩) ⟨pr_blind, va_recv hK hP (ci := 0) (q0 := 0) rfl rfl, pr_pre hP hK hN⟩ rfl rfl hl.1 rfl (lv_room (Nat.le_of_ble_eq_true rfl)) d_WM_due_2 ⟨Nat.le_of_ble_eq_true rfl, Nat.le_of_ble_eq_true rfl⟩)) (fun rr_2 hq_1 => ?_)
  unfold f_WM_tripAt at hq_1
  by_cases c_3 : p_0 < 0
  · rw [if_pos c_3] at hq_1
    subst hq_1
    refine hb_tv .null rfl ?_
    refine lv_astore_nN (lv' := [(3, .null), (0, .ref (a 0)), (1, .int p_0), (2, .int p_1)]) hx hb d_WM_due_5 rfl hl (by decide) rfl (fun ls hl => ?_)
    refine lv_aload_nN hx hb d_WM_due_6 rfl (lv_at hl 0 rfl) ?_
    refine lv_ifnullN (tgt := 17) hx hb d_WM_due_7 (by decide) ?_
    refine lv_bipush (v := (-2)) hx hb d_WM_due_17 (by decide +kernel) ?_
    refine lv_goto (tgt := 28) hx hb d_WM_due_19 (by decide) ?_
    exact W.iret (v := (-2)) hx hb hr (fun t ht hW => ⟨(-2), rfl, (by unfold f_WM_due; rw [if_pos c_3]), ht⟩) t_nil d_WM_due_28
  · rw [if_neg c_3] at hq_1
    subst hq_1
    refine hb_tv .null rfl ?_
    refine lv_astore_nN (lv' := [(3, .null), (0, .ref (a 0)), (1, .int p_0), (2, .int p_1)]) hx hb d_WM_due_5 rfl hl (by decide) rfl (fun ls hl => ?_)
    refine lv_aload_nN hx hb d_WM_due_6 rfl (lv_at hl 0 rfl) ?_
    refine lv_ifnullN (tgt := 17) hx hb d_WM_due_7 (by decide) ?_
    refine lv_bipush (v := (-2)) hx hb d_WM_due_17 (by decide +kernel) ?_
    refine lv_goto (tgt := 28) hx hb d_WM_due_19 (by decide) ?_
    exact W.iret (v := (-2)) hx hb hr (fun t ht hW => ⟨(-2), rfl, (by unfold f_WM_due; rw [if_neg c_3]), ht⟩) t_nil d_WM_due_28
def f_WM_over (p_0 : Int32) (p_1 : Int32) : Int32 := if p_0 < 0 then ((-1)) else (if 40 ≤ p_0 then ((-1)) else (if p_1 < 0 then ((-1)) else (if 500 ≤ p_1 then ((-1)) else (0))))
set_option maxHeartbeats 4000000 in
set_option maxRecDepth 100000 in
theorem c_WM_over (l : Launch) (dC : Nat → ClassId) (dI : Nat → Nat → Nat) (a : Nat → Nat) (k : Nat → ClassId) (L : List Nat) (hL : L.length = 40)  (p_0 : Int32) (p_1 : Int32)  : Met l y_WM_over (.code y_WM_over b_WM_over 6 (some .int) :: TB) ({ frames := 1, cells := 0, slots := 0, locals := 21 }) (va_Pc [.ref (a 0), .int p_0, .int p_1] (PR dC dI (XW a k L) (XT k))) (vp_Si (fun r => r = f_WM_over p_0 p_1)) 0 0 (fun _ => False) := by
  refine Met.ofW (cc := b_WM_over) (maxL := 6) (ret := (some .int)) (by decide) rfl ?_
  intro p e s m args below meth c s₁ B hml hv
  obtain ⟨rfl, hP, hK, hN⟩ := hv
  have hx := B.exec
  have hb := B.bytes
  have hr := B.returns
  have hts := atoms_spec (ws := (.code y_WM_over b_WM_over 6 (some .int) :: TB)) B.pre
  have htb := fun w (h : w ∈ TB) => hts w (List.mem_cons_of_mem _ h)
  have hown : s.vm.findClass R_WM = some m.cls := findClass_of_methodNamed B.named
  have hlocks := B.notSynchronized
  have hl := lv_entry ([.ref (a 0), .int p_0, .int p_1]) (n := 6) (Nat.le_of_ble_eq_true rfl)
  rw [lg_entry_eq]
  generalize (lg_sl ([.ref (a 0), .int p_0, .int p_1]) ++ List.replicate (6 - (lg_sl ([.ref (a 0), .int p_0, .int p_1])).length) Slot.unset).toArray = ls at hl ⊢
  have hl : lv_has ls 6 [(0, .ref (a 0)), (1, .int p_0), (2, .int p_1)] := hl
  refine lv_aload_n hx hb d_WM_over_0 rfl (lv_at hl 0 rfl) ?_
  refine lv_iload_n hx hb d_WM_over_1 rfl (lv_at hl 1 rfl) ?_
  refine va_csq (va_Run.run (va_runV (As := [.int p_0]) (rest := []) ⟨hx, hb, hml, hown, htb⟩ (c_WM_manAt l dC dI a k L hL p_0) (cwV 1 htb (gd_V tw_53 tw_54 tw_55 tw_15 tw_52) rfl rfl rfl (by decide +kernel) ⟨Nat.le_of_ble_eq_true rfl, Nat.le_of_ble_eq_true rfl⟩) ⟨pr_blind, va_recv hK hP (ci := 0) (q0 := 0) rfl rfl, pr_pre hP hK hN⟩ rfl rfl hl.1 rfl (lv_room (Nat.le_of_ble_eq_true rfl)) d_WM_over_2 ⟨Nat.le_of_ble_eq_true rfl, Nat.le_of_ble_eq_true rfl⟩)) (fun rr_2 hq_1 => ?_)
  unfold f_WM_manAt at hq_1
  by_cases c_3 : p_0 < 0
  · rw [if_pos c_3] at hq_1
    subst hq_1
    refine hb_tv .null rfl ?_
    refine lv_ifnullN (tgt := 15) hx hb d_WM_over_5 (by decide) ?_
    refine lv_iconst (v := (-1)) hx hb d_WM_over_15 (by decide +kernel) ?_
    exact W.iret (v := (-1)) hx hb hr (fun t ht hW => ⟨(-1), rfl, (by unfold f_WM_over; rw [if_pos c_3]), ht⟩) t_nil d_WM_over_16
  · by_cases c_4 : 40 ≤ p_0
    · rw [if_neg c_3, if_pos c_4] at hq_1
      subst hq_1
      refine hb_tv .null rfl ?_
      refine lv_ifnullN (tgt := 15) hx hb d_WM_over_5 (by decide) ?_
      refine lv_iconst (v := (-1)) hx hb d_WM_over_15 (by decide +kernel) ?_
      exact W.iret (v := (-1)) hx hb hr (fun t ht hW => ⟨(-1), rfl, (by unfold f_WM_over; rw [if_neg c_3, if_pos c_4]), ht⟩) t_nil d_WM_over_16
    · rw [if_neg c_3, if_neg c_4] at hq_1
      obtain ⟨q_5, x_6, rfl, hk_7⟩ := hq_1
      refine hb_tv (.ref q_5) rfl ?_
      refine lv_ifnull hx hb d_WM_over_5 ?_
      refine lv_iload_n hx hb d_WM_over_8 rfl (lv_at hl 2 rfl) ?_
      refine vp_callSi (va_Run.run (va_runS (As := [.int p_1]) (rest := []) ⟨hx, hb, hml, hown, htb⟩ (c_WM_isDay l p_1) (cwS 1 htb (gd_S tw_16 tw_17 tw_15 tw_14) rfl rfl rfl (by decide +kernel) ⟨Nat.le_of_ble_eq_true rfl, Nat.le_of_ble_eq_true rfl⟩) ⟨fun _ _ _ _ h => h, fun U _ _ => ⟨rfl, trivial⟩⟩ rfl rfl hl.1 rfl (lv_room (Nat.le_of_ble_eq_true rfl)) d_WM_over_9 ⟨Nat.le_of_ble_eq_true rfl, Nat.le_of_ble_eq_true rfl⟩)) (fun r er => ?_)
      subst er
      by_cases c_8 : p_1 < 0
      · refine hb_ti 0 (by unfold f_WM_isDay; rw [if_pos c_8]) ?_
        refine lv_if_ne (tgt := 17) hx hb d_WM_over_12 (by decide) (fun h => absurd (by decide +kernel) h) (fun _ => ?_)
        refine lv_iconst (v := (-1)) hx hb d_WM_over_15 (by decide +kernel) ?_
        exact W.iret (v := (-1)) hx hb hr (fun t ht hW => ⟨(-1), rfl, (by unfold f_WM_over; rw [if_neg c_3, if_neg c_4, if_pos c_8]), ht⟩) t_nil d_WM_over_16
      · by_cases c_9 : 500 ≤ p_1
        · refine hb_ti 0 (by unfold f_WM_isDay; rw [if_neg c_8, if_pos c_9]) ?_
          refine lv_if_ne (tgt := 17) hx hb d_WM_over_12 (by decide) (fun h => absurd (by decide +kernel) h) (fun _ => ?_)
          refine lv_iconst (v := (-1)) hx hb d_WM_over_15 (by decide +kernel) ?_
          exact W.iret (v := (-1)) hx hb hr (fun t ht hW => ⟨(-1), rfl, (by unfold f_WM_over; rw [if_neg c_3, if_neg c_4, if_neg c_8, if_pos c_9]), ht⟩) t_nil d_WM_over_16
        · refine hb_ti 1 (by unfold f_WM_isDay; rw [if_neg c_8, if_neg c_9]) ?_
          refine lv_if_ne (tgt := 17) hx hb d_WM_over_12 (by decide) (fun _ => ?_) (fun h => absurd h (by decide +kernel))
          refine lv_iconst (v := 0) hx hb d_WM_over_17 (by decide +kernel) ?_
          refine lv_istore_n (lv' := [(3, .int 0), (0, .ref (a 0)), (1, .int p_0), (2, .int p_1)]) hx hb d_WM_over_18 rfl hl (by decide) rfl (fun ls hl => ?_)
          refine lv_iconst (v := 0) hx hb d_WM_over_19 (by decide +kernel) ?_
          refine lv_istore (lv' := [(4, .int 0), (3, .int 0), (0, .ref (a 0)), (1, .int p_0), (2, .int p_1)]) hx hb d_WM_over_20 hl (by decide) rfl (fun ls hl => ?_)
          refine lv_iload hx hb d_WM_over_22 (lv_at hl 0 rfl) ?_
          refine lv_aload_n hx hb d_WM_over_24 rfl (lv_at hl 2 rfl) ?_
          refine va_get (D := (dC, dI)) (ci := 0) (v := .int 0) (C := R_WM) (T := F_WM) (N := 13) hx hb htb i_WM hown hK hP 0 rfl rfl 9 (by decide) (htb (.fieldLink R_WM 243 "WaterMen" "tripCount" "I") tw_98) (fun _ h9 => h9) rfl d_WM_over_25 ?_
          refine lv_icmp_ge (tgt := 69) hx hb d_WM_over_28 (by decide) (fun _ => ?_) (fun h => absurd (by decide +kernel) h)
          refine lv_iload_n hx hb d_WM_over_69 rfl (lv_at hl 1 rfl) ?_
          exact W.iret (v := 0) hx hb hr (fun t ht hW => ⟨0, rfl, (by unfold f_WM_over; rw [if_neg c_3, if_neg c_4, if_neg c_8, if_neg c_9]), ht⟩) t_nil d_WM_over_70
def f_Bx_owedOn (p_0 : Int32) : Int32 := 0
set_option maxHeartbeats 4000000 in
set_option maxRecDepth 100000 in
theorem c_Bx_owedOn (l : Launch) (dC : Nat → ClassId) (dI : Nat → Nat → Nat) (a : Nat → Nat) (k : Nat → ClassId) (L : List Nat) (hL : L.length = 40)  (p_0 : Int32)  : Met l y_Bx_owedOn (.code y_Bx_owedOn b_Bx_owedOn 5 (some .int) :: TB) ({ frames := 0, cells := 0, slots := 0, locals := 0 }) (va_Pc [.ref (a 12), .int p_0] (PR dC dI (XW a k L) (XT k))) (vp_Si (fun r => r = f_Bx_owedOn p_0)) 0 0 (fun _ => False) := by
  refine Met.ofW (cc := b_Bx_owedOn) (maxL := 5) (ret := (some .int)) (by decide) rfl ?_
  intro p e s m args below meth c s₁ B hml hv
  obtain ⟨rfl, hP, hK, hN⟩ := hv
  have hx := B.exec
  have hb := B.bytes
  have hr := B.returns
  have hts := atoms_spec (ws := (.code y_Bx_owedOn b_Bx_owedOn 5 (some .int) :: TB)) B.pre
  have htb := fun w (h : w ∈ TB) => hts w (List.mem_cons_of_mem _ h)
  have hown : s.vm.findClass R_Bx = some m.cls := findClass_of_methodNamed B.named
  have hlocks := B.notSynchronized
  have hl := lv_entry ([.ref (a 12), .int p_0]) (n := 5) (Nat.le_of_ble_eq_true rfl)
  rw [lg_entry_eq]
  generalize (lg_sl ([.ref (a 12), .int p_0]) ++ List.replicate (5 - (lg_sl ([.ref (a 12), .int p_0])).length) Slot.unset).toArray = ls at hl ⊢
  have hl : lv_has ls 5 [(0, .ref (a 12)), (1, .int p_0)] := hl
  refine lv_iconst (v := 0) hx hb d_Bx_owedOn_0 (by decide +kernel) ?_
  refine lv_istore_n (lv' := [(2, .int 0), (0, .ref (a 12)), (1, .int p_0)]) hx hb d_Bx_owedOn_1 rfl hl (by decide) rfl (fun ls hl => ?_)
  refine lv_iconst (v := 0) hx hb d_Bx_owedOn_2 (by decide +kernel) ?_
  refine lv_istore_n (lv' := [(3, .int 0), (2, .int 0), (0, .ref (a 12)), (1, .int p_0)]) hx hb d_Bx_owedOn_3 rfl hl (by decide) rfl (fun ls hl => ?_)
  refine lv_iload_n hx hb d_Bx_owedOn_4 rfl (lv_at hl 0 rfl) ?_
  refine lv_aload_n hx hb d_Bx_owedOn_5 rfl (lv_at hl 2 rfl) ?_
  refine va_get (D := (dC, dI)) (ci := 5) (v := .int 0) (C := R_Bx) (T := F_Bx) (N := 7) hx hb htb i_Bx hown hK hP 12 rfl rfl 6 (by decide) (htb (.fieldLink R_Bx 29 "WaterMen$Box" "pensionerCount" "I") tw_110) (fun _ h9 => h9) rfl d_Bx_owedOn_6 ?_
  refine lv_icmp_ge (tgt := 47) hx hb d_Bx_owedOn_9 (by decide) (fun _ => ?_) (fun h => absurd (by decide +kernel) h)
  refine lv_iload_n hx hb d_Bx_owedOn_47 rfl (lv_at hl 1 rfl) ?_
  exact W.iret (v := 0) hx hb hr (fun t ht hW => ⟨0, rfl, rfl, ht⟩) t_nil d_Bx_owedOn_48
def f_Bx_firstShortDay_0  : Int32 := (-1)
set_option maxHeartbeats 4000000 in
set_option maxRecDepth 100000 in
theorem c_Bx_firstShortDay_0 (l : Launch) (dC : Nat → ClassId) (dI : Nat → Nat → Nat) (a : Nat → Nat) (k : Nat → ClassId) (L : List Nat) (hL : L.length = 40)    : Met l y_Bx_firstShortDay (.code y_Bx_firstShortDay b_Bx_firstShortDay 8 (some .int) :: TB) ({ frames := 1, cells := 0, slots := 0, locals := 24 }) (va_Pc [.ref (a 12), .int 0] (PR dC dI (XW a k L) (XT k))) (vp_Si (fun r => r = f_Bx_firstShortDay_0)) 0 0 (fun _ => False) := by
  refine Met.ofW (cc := b_Bx_firstShortDay) (maxL := 8) (ret := (some .int)) (by decide) rfl ?_
  intro p e s m args below meth c s₁ B hml hv
  obtain ⟨rfl, hP, hK, hN⟩ := hv
  have hx := B.exec
  have hb := B.bytes
  have hr := B.returns
  have hts := atoms_spec (ws := (.code y_Bx_firstShortDay b_Bx_firstShortDay 8 (some .int) :: TB)) B.pre
  have htb := fun w (h : w ∈ TB) => hts w (List.mem_cons_of_mem _ h)
  have hown : s.vm.findClass R_Bx = some m.cls := findClass_of_methodNamed B.named
  have hlocks := B.notSynchronized
  have hl := lv_entry ([.ref (a 12), .int 0]) (n := 8) (Nat.le_of_ble_eq_true rfl)
  rw [lg_entry_eq]
  generalize (lg_sl ([.ref (a 12), .int 0]) ++ List.replicate (8 - (lg_sl ([.ref (a 12), .int 0])).length) Slot.unset).toArray = ls at hl ⊢
  have hl : lv_has ls 8 [(0, .ref (a 12)), (1, .int 0)] := hl
  refine lv_lconst (v := 0) hx hb d_Bx_firstShortDay_0 (by decide +kernel) ?_
  refine lv_lstore_n (lv' := [(2, .long 0), (0, .ref (a 12)), (1, .int 0)]) hx hb d_Bx_firstShortDay_1 rfl hl (by decide) rfl (fun ls hl => ?_)
  refine lv_iconst (v := 0) hx hb d_Bx_firstShortDay_2 (by decide +kernel) ?_
  refine lv_iload_n hx hb d_Bx_firstShortDay_3 rfl (lv_at hl 2 rfl) ?_
  refine lv_bipush (v := 100) hx hb d_Bx_firstShortDay_4 (by decide +kernel) ?_
  refine lv_isub hx hb d_Bx_firstShortDay_6 ?_
  refine hb_ti (-100) (by decide +kernel) ?_
  refine va_mmax hx hb (hml.trans hl.1.symm) hown (htb (.methodLink R_Bx 51 Lib.Math.max.name) tw_104) (htb (.static Lib.Math.max.name) tw_105) (htb (.initialized "java/lang/Math") tw_106) (htb (.code Lib.Math.max.name Lib.Math.max.code 2 (some .int)) tw_107) (Nat.le_of_ble_eq_true rfl) (Nat.le_of_ble_eq_true rfl) (Nat.le_of_ble_eq_true rfl) (Nat.le_of_ble_eq_true rfl) d_Bx_firstShortDay_7 ?_
  refine hb_ti 0 (by decide +kernel) ?_
  refine lv_istore (lv' := [(4, .int 0), (2, .long 0), (0, .ref (a 12)), (1, .int 0)]) hx hb d_Bx_firstShortDay_10 hl (by decide) rfl (fun ls hl => ?_)
  refine lv_iload hx hb d_Bx_firstShortDay_12 (lv_at hl 0 rfl) ?_
  refine lv_iload_n hx hb d_Bx_firstShortDay_14 rfl (lv_at hl 3 rfl) ?_
  refine lv_icmp_gt (tgt := 35) hx hb d_Bx_firstShortDay_15 (by decide) (fun h => absurd h (by decide +kernel)) (fun _ => ?_)
  refine lv_lload_n hx hb d_Bx_firstShortDay_18 rfl (lv_at hl 1 rfl) ?_
  refine lv_aload_n hx hb d_Bx_firstShortDay_19 rfl (lv_at hl 2 rfl) ?_
  refine va_get (D := (dC, dI)) (ci := 5) (v := .ref (a 13)) (C := R_Bx) (T := F_Bx) (N := 7) hx hb htb i_Bx hown hK hP 12 rfl rfl 4 (by decide) (htb (.fieldLink R_Bx 9 "WaterMen$Box" "income" "[I") tw_108) (fun _ h9 => h9) rfl d_Bx_firstShortDay_20 ?_
  refine lv_iload hx hb d_Bx_firstShortDay_23 (lv_at hl 0 rfl) ?_
  refine va_iald hx hb hK hP 13 9 rfl rfl (by unfold vp_in; decide +kernel) d_Bx_firstShortDay_25 ?_
  refine hb_ti 0 rfl ?_
  refine lv_i2l hx hb d_Bx_firstShortDay_26 rfl ?_
  refine hb_tl 0 (by decide +kernel) ?_
  refine lv_ladd hx hb d_Bx_firstShortDay_27 ?_
  refine hb_tl 0 (by decide +kernel) ?_
  refine lv_lstore_n (lv' := [(2, .long 0), (4, .int 0), (0, .ref (a 12)), (1, .int 0)]) hx hb d_Bx_firstShortDay_28 rfl hl (by decide) rfl (fun ls hl => ?_)
  refine lv_iinc (v := 1) (lv' := [(4, .int 1), (2, .long 0), (0, .ref (a 12)), (1, .int 0)]) hx hb d_Bx_firstShortDay_29 hl (k := 1) rfl (by decide +kernel) (by decide) rfl (fun ls hl => ?_)
  refine lv_goto (tgt := 12) hx hb d_Bx_firstShortDay_32 (by decide) ?_
  refine lv_iload hx hb d_Bx_firstShortDay_12 (lv_at hl 0 rfl) ?_
  refine lv_iload_n hx hb d_Bx_firstShortDay_14 rfl (lv_at hl 3 rfl) ?_
  refine lv_icmp_gt (tgt := 35) hx hb d_Bx_firstShortDay_15 (by decide) (fun _ => ?_) (fun h => absurd (by decide +kernel) h)
  refine lv_aload_n hx hb d_Bx_firstShortDay_35 rfl (lv_at hl 2 rfl) ?_
  refine va_get (D := (dC, dI)) (ci := 5) (v := .int 0) (C := R_Bx) (T := F_Bx) (N := 7) hx hb htb i_Bx hown hK hP 12 rfl rfl 0 (by decide) (htb (.fieldLink R_Bx 21 "WaterMen$Box" "coins" "I") tw_109) (fun _ h9 => h9) rfl d_Bx_firstShortDay_36 ?_
  refine lv_i2l hx hb d_Bx_firstShortDay_39 rfl ?_
  refine hb_tl 0 (by decide +kernel) ?_
  refine lv_lstore (lv' := [(4, .long 0), (2, .long 0), (0, .ref (a 12)), (1, .int 0)]) hx hb d_Bx_firstShortDay_40 hl (by decide) rfl (fun ls hl => ?_)
  refine lv_iload_n hx hb d_Bx_firstShortDay_42 rfl (lv_at hl 3 rfl) ?_
  refine lv_iload_n hx hb d_Bx_firstShortDay_43 rfl (lv_at hl 3 rfl) ?_
  refine lv_bipush (v := 100) hx hb d_Bx_firstShortDay_44 (by decide +kernel) ?_
  refine lv_irem hx hb d_Bx_firstShortDay_46 (by decide) ?_
  refine hb_ti 0 (by decide +kernel) ?_
  refine lv_isub hx hb d_Bx_firstShortDay_47 ?_
  refine hb_ti 0 (by decide +kernel) ?_
  refine lv_istore (lv' := [(6, .int 0), (4, .long 0), (2, .long 0), (0, .ref (a 12)), (1, .int 0)]) hx hb d_Bx_firstShortDay_48 hl (by decide) rfl (fun ls hl => ?_)
  refine lv_iconst (v := 0) hx hb d_Bx_firstShortDay_50 (by decide +kernel) ?_
  refine lv_istore (lv' := [(7, .int 0), (6, .int 0), (4, .long 0), (2, .long 0), (0, .ref (a 12)), (1, .int 0)]) hx hb d_Bx_firstShortDay_51 hl (by decide) rfl (fun ls hl => ?_)
  refine lv_iload hx hb d_Bx_firstShortDay_53 (lv_at hl 0 rfl) ?_
  refine lv_bipush (v := 40) hx hb d_Bx_firstShortDay_55 (by decide +kernel) ?_
  refine lv_icmp_ge (tgt := 93) hx hb d_Bx_firstShortDay_57 (by decide) (fun h => absurd h (by decide +kernel)) (fun _ => ?_)
  refine lv_iinc (v := 100) (lv' := [(6, .int 100), (7, .int 0), (4, .long 0), (2, .long 0), (0, .ref (a 12)), (1, .int 0)]) hx hb d_Bx_firstShortDay_60 hl (k := 1) rfl (by decide +kernel) (by decide) rfl (fun ls hl => ?_)
  refine lv_lload hx hb d_Bx_firstShortDay_63 (lv_at hl 2 rfl) ?_
  refine lv_lload_n hx hb d_Bx_firstShortDay_65 rfl (lv_at hl 3 rfl) ?_
  refine lv_aload_n hx hb d_Bx_firstShortDay_66 rfl (lv_at hl 4 rfl) ?_
  refine lv_iload hx hb d_Bx_firstShortDay_67 (lv_at hl 0 rfl) ?_
  refine vp_callSi (va_Run.run (va_runV (As := [.int 100]) (rest := [.long 0, .long 0]) ⟨hx, hb, hml, hown, htb⟩ (c_Bx_owedOn l dC dI a k L hL 100) (cwV 1 htb (gd_V tw_113 tw_114 tw_115 tw_112 tw_111) rfl rfl rfl (by decide +kernel) ⟨Nat.le_of_ble_eq_true rfl, Nat.le_of_ble_eq_true rfl⟩) ⟨pr_blind, va_recv hK hP (ci := 5) (q0 := 12) rfl rfl, pr_pre hP hK hN⟩ rfl rfl hl.1 rfl (lv_room (Nat.le_of_ble_eq_true rfl)) d_Bx_firstShortDay_69 ⟨Nat.le_of_ble_eq_true rfl, Nat.le_of_ble_eq_true rfl⟩)) (fun r er => ?_)
  subst er
  refine hb_ti 0 rfl ?_
  refine lv_i2l hx hb d_Bx_firstShortDay_72 rfl ?_
  refine hb_tl 0 (by decide +kernel) ?_
  refine lv_lsub hx hb d_Bx_firstShortDay_73 ?_
  refine hb_tl 0 (by decide +kernel) ?_
  refine lv_ladd hx hb d_Bx_firstShortDay_74 ?_
  refine hb_tl 0 (by decide +kernel) ?_
  refine lv_lstore (lv' := [(4, .long 0), (6, .int 100), (7, .int 0), (2, .long 0), (0, .ref (a 12)), (1, .int 0)]) hx hb d_Bx_firstShortDay_75 hl (by decide) rfl (fun ls hl => ?_)
  refine lv_lload hx hb d_Bx_firstShortDay_77 (lv_at hl 0 rfl) ?_
  refine lv_lconst (v := 0) hx hb d_Bx_firstShortDay_79 (by decide +kernel) ?_
  refine W.lcmp hx hb d_Bx_firstShortDay_80 ?_
  refine hb_ti 0 (by decide +kernel) ?_
  refine lv_if_ge (tgt := 87) hx hb d_Bx_firstShortDay_81 (by decide) (fun _ => ?_) (fun h => absurd (by decide +kernel) h)
  refine lv_iinc (v := 1) (lv' := [(7, .int 1), (4, .long 0), (6, .int 100), (2, .long 0), (0, .ref (a 12)), (1, .int 0)]) hx hb d_Bx_firstShortDay_87 hl (k := 2) rfl (by decide +kernel) (by decide) rfl (fun ls hl => ?_)
  refine lv_goto (tgt := 53) hx hb d_Bx_firstShortDay_90 (by decide) ?_
  refine lv_iload hx hb d_Bx_firstShortDay_53 (lv_at hl 0 rfl) ?_
  refine lv_bipush (v := 40) hx hb d_Bx_firstShortDay_55 (by decide +kernel) ?_
  refine lv_icmp_ge (tgt := 93) hx hb d_Bx_firstShortDay_57 (by decide) (fun h => absurd h (by decide +kernel)) (fun _ => ?_)
  refine lv_iinc (v := 200) (lv' := [(6, .int 200), (7, .int 1), (4, .long 0), (2, .long 0), (0, .ref (a 12)), (1, .int 0)]) hx hb d_Bx_firstShortDay_60 hl (k := 2) rfl (by decide +kernel) (by decide) rfl (fun ls hl => ?_)
  refine lv_lload hx hb d_Bx_firstShortDay_63 (lv_at hl 2 rfl) ?_
  refine lv_lload_n hx hb d_Bx_firstShortDay_65 rfl (lv_at hl 3 rfl) ?_
  refine lv_aload_n hx hb d_Bx_firstShortDay_66 rfl (lv_at hl 4 rfl) ?_
  refine lv_iload hx hb d_Bx_firstShortDay_67 (lv_at hl 0 rfl) ?_
  refine vp_callSi (va_Run.run (va_runV (As := [.int 200]) (rest := [.long 0, .long 0]) ⟨hx, hb, hml, hown, htb⟩ (c_Bx_owedOn l dC dI a k L hL 200) (cwV 1 htb (gd_V tw_113 tw_114 tw_115 tw_112 tw_111) rfl rfl rfl (by decide +kernel) ⟨Nat.le_of_ble_eq_true rfl, Nat.le_of_ble_eq_true rfl⟩) ⟨pr_blind, va_recv hK hP (ci := 5) (q0 := 12) rfl rfl, pr_pre hP hK hN⟩ rfl rfl hl.1 rfl (lv_room (Nat.le_of_ble_eq_true rfl)) d_Bx_firstShortDay_69 ⟨Nat.le_of_ble_eq_true rfl, Nat.le_of_ble_eq_true rfl⟩)) (fun r er => ?_)
  subst er
  refine hb_ti 0 rfl ?_
  refine lv_i2l hx hb d_Bx_firstShortDay_72 rfl ?_
  refine hb_tl 0 (by decide +kernel) ?_
  refine lv_lsub hx hb d_Bx_firstShortDay_73 ?_
  refine hb_tl 0 (by decide +kernel) ?_
  refine lv_ladd hx hb d_Bx_firstShortDay_74 ?_
  refine hb_tl 0 (by decide +kernel) ?_
  refine lv_lstore (lv' := [(4, .long 0), (6, .int 200), (7, .int 1), (2, .long 0), (0, .ref (a 12)), (1, .int 0)]) hx hb d_Bx_firstShortDay_75 hl (by decide) rfl (fun ls hl => ?_)
  refine lv_lload hx hb d_Bx_firstShortDay_77 (lv_at hl 0 rfl) ?_
  refine lv_lconst (v := 0) hx hb d_Bx_firstShortDay_79 (by decide +kernel) ?_
  refine W.lcmp hx hb d_Bx_firstShortDay_80 ?_
  refine hb_ti 0 (by decide +kernel) ?_
  refine lv_if_ge (tgt := 87) hx hb d_Bx_firstShortDay_81 (by decide) (fun _ => ?_) (fun h => absurd (by decide +kernel) h)
  refine lv_iinc (v := 2) (lv' := [(7, .int 2), (4, .long 0), (6, .int 200), (2, .long 0), (0, .ref (a 12)), (1, .int 0)]) hx hb d_Bx_firstShortDay_87 hl (k := 2) rfl (by decide +kernel) (by decide) rfl (fun ls hl => ?_)
  refine lv_goto (tgt := 53) hx hb d_Bx_firstShortDay_90 (by decide) ?_
  refine lv_iload hx hb d_Bx_firstShortDay_53 (lv_at hl 0 rfl) ?_
  refine lv_bipush (v := 40) hx hb d_Bx_firstShortDay_55 (by decide +kernel) ?_
  refine lv_icmp_ge (tgt := 93) hx hb d_Bx_firstShortDay_57 (by decide) (fun h => absurd h (by decide +kernel)) (fun _ => ?_)
  refine lv_iinc (v := 300) (lv' := [(6, .int 300), (7, .int 2), (4, .long 0), (2, .long 0), (0, .ref (a 12)), (1, .int 0)]) hx hb d_Bx_firstShortDay_60 hl (k := 2) rfl (by decide +kernel) (by decide) rfl (fun ls hl => ?_)
  refine lv_lload hx hb d_Bx_firstShortDay_63 (lv_at hl 2 rfl) ?_
  refine lv_lload_n hx hb d_Bx_firstShortDay_65 rfl (lv_at hl 3 rfl) ?_
  refine lv_aload_n hx hb d_Bx_firstShortDay_66 rfl (lv_at hl 4 rfl) ?_
  refine lv_iload hx hb d_Bx_firstShortDay_67 (lv_at hl 0 rfl) ?_
  refine vp_callSi (va_Run.run (va_runV (As := [.int 300]) (rest := [.long 0, .long 0]) ⟨hx, hb, hml, hown, htb⟩ (c_Bx_owedOn l dC dI a k L hL 300) (cwV 1 htb (gd_V tw_113 tw_114 tw_115 tw_112 tw_111) rfl rfl rfl (by decide +kernel) ⟨Nat.le_of_ble_eq_true rfl, Nat.le_of_ble_eq_true rfl⟩) ⟨pr_blind, va_recv hK hP (ci := 5) (q0 := 12) rfl rfl, pr_pre hP hK hN⟩ rfl rfl hl.1 rfl (lv_room (Nat.le_of_ble_eq_true rfl)) d_Bx_firstShortDay_69 ⟨Nat.le_of_ble_eq_true rfl, Nat.le_of_ble_eq_true rfl⟩)) (fun r er => ?_)
  subst er
  refine hb_ti 0 rfl ?_
  refine lv_i2l hx hb d_Bx_firstShortDay_72 rfl ?_
  refine hb_tl 0 (by decide +kernel) ?_
  refine lv_lsub hx hb d_Bx_firstShortDay_73 ?_
  refine hb_tl 0 (by decide +kernel) ?_
  refine lv_ladd hx hb d_Bx_firstShortDay_74 ?_
  refine hb_tl 0 (by decide +kernel) ?_
  refine lv_lstore (lv' := [(4, .long 0), (6, .int 300), (7, .int 2), (2, .long 0), (0, .ref (a 12)), (1, .int 0)]) hx hb d_Bx_firstShortDay_75 hl (by decide) rfl (fun ls hl => ?_)
  refine lv_lload hx hb d_Bx_firstShortDay_77 (lv_at hl 0 rfl) ?_
  refine lv_lconst (v := 0) hx hb d_Bx_firstShortDay_79 (by decide +kernel) ?_
  refine W.lcmp hx hb d_Bx_firstShortDay_80 ?_
  refine hb_ti 0 (by decide +kernel) ?_
  refine lv_if_ge (tgt := 87) hx hb d_Bx_firstShortDay_81 (by decide) (fun _ => ?_) (fun h => absurd (by decide +kernel) h)
  refine lv_iinc (v := 3) (lv' := [(7, .int 3), (4, .long 0), (6, .int 300), (2, .long 0), (0, .ref (a 12)), (1, .int 0)]) hx hb d_Bx_firstShortDay_87 hl (k := 2) rfl (by decide +kernel) (by decide) rfl (fun ls hl => ?_)
  refine lv_goto (tgt := 53) hx hb d_Bx_firstShortDay_90 (by decide) ?_
  refine lv_iload hx hb d_Bx_firstShortDay_53 (lv_at hl 0 rfl) ?_
  refine lv_bipush (v := 40) hx hb d_Bx_firstShortDay_55 (by decide +kernel) ?_
  refine lv_icmp_ge (tgt := 93) hx hb d_Bx_firstShortDay_57 (by decide) (fun h => absurd h (by decide +kernel)) (fun _ => ?_)
  refine lv_iinc (v := 400) (lv' := [(6, .int 400), (7, .int 3), (4, .long 0), (2, .long 0), (0, .ref (a 12)), (1, .int 0)]) hx hb d_Bx_firstShortDay_60 hl (k := 2) rfl (by decide +kernel) (by decide) rfl (fun ls hl => ?_)
  refine lv_lload hx hb d_Bx_firstShortDay_63 (lv_at hl 2 rfl) ?_
  refine lv_lload_n hx hb d_Bx_firstShortDay_65 rfl (lv_at hl 3 rfl) ?_
  refine lv_aload_n hx hb d_Bx_firstShortDay_66 rfl (lv_at hl 4 rfl) ?_
  refine lv_iload hx hb d_Bx_firstShortDay_67 (lv_at hl 0 rfl) ?_
  refine vp_callSi (va_Run.run (va_runV (As := [.int 400]) (rest := [.long 0, .long 0]) ⟨hx, hb, hml, hown, htb⟩ (c_Bx_owedOn l dC dI a k L hL 400) (cwV 1 htb (gd_V tw_113 tw_114 tw_115 tw_112 tw_111) rfl rfl rfl (by decide +kernel) ⟨Nat.le_of_ble_eq_true rfl, Nat.le_of_ble_eq_true rfl⟩) ⟨pr_blind, va_recv hK hP (ci := 5) (q0 := 12) rfl rfl, pr_pre hP hK hN⟩ rfl rfl hl.1 rfl (lv_room (Nat.le_of_ble_eq_true rfl)) d_Bx_firstShortDay_69 ⟨Nat.le_of_ble_eq_true rfl, Nat.le_of_ble_eq_true rfl⟩)) (fun r er => ?_)
  subst er
  refine hb_ti 0 rfl ?_
  refine lv_i2l hx hb d_Bx_firstShortDay_72 rfl ?_
  refine hb_tl 0 (by decide +kernel) ?_
  refine lv_lsub hx hb d_Bx_firstShortDay_73 ?_
  refine hb_tl 0 (by decide +kernel) ?_
  refine lv_ladd hx hb d_Bx_firstShortDay_74 ?_
  refine hb_tl 0 (by decide +kernel) ?_
  refine lv_lstore (lv' := [(4, .long 0), (6, .int 400), (7, .int 3), (2, .long 0), (0, .ref (a 12)), (1, .int 0)]) hx hb d_Bx_firstShortDay_75 hl (by decide) rfl (fun ls hl => ?_)
  refine lv_lload hx hb d_Bx_firstShortDay_77 (lv_at hl 0 rfl) ?_
  refine lv_lconst (v := 0) hx hb d_Bx_firstShortDay_79 (by decide +kernel) ?_
  refine W.lcmp hx hb d_Bx_firstShortDay_80 ?_
  refine hb_ti 0 (by decide +kernel) ?_
  refine lv_if_ge (tgt := 87) hx hb d_Bx_firstShortDay_81 (by decide) (fun _ => ?_) (fun h => absurd (by decide +kernel) h)
  refine lv_iinc (v := 4) (lv' := [(7, .int 4), (4, .long 0), (6, .int 400), (2, .long 0), (0, .ref (a 12)), (1, .int 0)]) hx hb d_Bx_firstShortDay_87 hl (k := 2) rfl (by decide +kernel) (by decide) rfl (fun ls hl => ?_)
  refine lv_goto (tgt := 53) hx hb d_Bx_firstShortDay_90 (by decide) ?_
  refine lv_iload hx hb d_Bx_firstShortDay_53 (lv_at hl 0 rfl) ?_
  refine lv_bipush (v := 40) hx hb d_Bx_firstShortDay_55 (by decide +kernel) ?_
  refine lv_icmp_ge (tgt := 93) hx hb d_Bx_firstShortDay_57 (by decide) (fun h => absurd h (by decide +kernel)) (fun _ => ?_)
  refine lv_iinc (v := 500) (lv' := [(6, .int 500), (7, .int 4), (4, .long 0), (2, .long 0), (0, .ref (a 12)), (1, .int 0)]) hx hb d_Bx_firstShortDay_60 hl (k := 2) rfl (by decide +kernel) (by decide) rfl (fun ls hl => ?_)
  refine lv_lload hx hb d_Bx_firstShortDay_63 (lv_at hl 2 rfl) ?_
  refine lv_lload_n hx hb d_Bx_firstShortDay_65 rfl (lv_at hl 3 rfl) ?_
  refine lv_aload_n hx hb d_Bx_firstShortDay_66 rfl (lv_at hl 4 rfl) ?_
  refine lv_iload hx hb d_Bx_firstShortDay_67 (lv_at hl 0 rfl) ?_
  refine vp_callSi (va_Run.run (va_runV (As := [.int 500]) (rest := [.long 0, .long 0]) ⟨hx, hb, hml, hown, htb⟩ (c_Bx_owedOn l dC dI a k L hL 500) (cwV 1 htb (gd_V tw_113 tw_114 tw_115 tw_112 tw_111) rfl rfl rfl (by decide +kernel) ⟨Nat.le_of_ble_eq_true rfl, Nat.le_of_ble_eq_true rfl⟩) ⟨pr_blind, va_recv hK hP (ci := 5) (q0 := 12) rfl rfl, pr_pre hP hK hN⟩ rfl rfl hl.1 rfl (lv_room (Nat.le_of_ble_eq_true rfl)) d_Bx_firstShortDay_69 ⟨Nat.le_of_ble_eq_true rfl, Nat.le_of_ble_eq_true rfl⟩)) (fun r er => ?_)
  subst er
  refine hb_ti 0 rfl ?_
  refine lv_i2l hx hb d_Bx_firstShortDay_72 rfl ?_
  refine hb_tl 0 (by decide +kernel) ?_
  refine lv_lsub hx hb d_Bx_firstShortDay_73 ?_
  refine hb_tl 0 (by decide +kernel) ?_
  refine lv_ladd hx hb d_Bx_firstShortDay_74 ?_
  refine hb_tl 0 (by decide +kernel) ?_
  refine lv_lstore (lv' := [(4, .long 0), (6, .int 500), (7, .int 4), (2, .long 0), (0, .ref (a 12)), (1, .int 0)]) hx hb d_Bx_firstShortDay_75 hl (by decide) rfl (fun ls hl => ?_)
  refine lv_lload hx hb d_Bx_firstShortDay_77 (lv_at hl 0 rfl) ?_
  refine lv_lconst (v := 0) hx hb d_Bx_firstShortDay_79 (by decide +kernel) ?_
  refine W.lcmp hx hb d_Bx_firstShortDay_80 ?_
  refine hb_ti 0 (by decide +kernel) ?_
  refine lv_if_ge (tgt := 87) hx hb d_Bx_firstShortDay_81 (by decide) (fun _ => ?_) (fun h => absurd (by decide +kernel) h)
  refine lv_iinc (v := 5) (lv' := [(7, .int 5), (4, .long 0), (6, .int 500), (2, .long 0), (0, .ref (a 12)), (1, .int 0)]) hx hb d_Bx_firstShortDay_87 hl (k := 2) rfl (by decide +kernel) (by decide) rfl (fun ls hl => ?_)
  refine lv_goto (tgt := 53) hx hb d_Bx_firstShortDay_90 (by decide) ?_
  refine lv_iload hx hb d_Bx_firstShortDay_53 (lv_at hl 0 rfl) ?_
  refine lv_bipush (v := 40) hx hb d_Bx_firstShortDay_55 (by decide +kernel) ?_
  refine lv_icmp_ge (tgt := 93) hx hb d_Bx_firstShortDay_57 (by decide) (fun h => absurd h (by decide +kernel)) (fun _ => ?_)
  refine lv_iinc (v := 600) (lv' := [(6, .int 600), (7, .int 5), (4, .long 0), (2, .long 0), (0, .ref (a 12)), (1, .int 0)]) hx hb d_Bx_firstShortDay_60 hl (k := 2) rfl (by decide +kernel) (by decide) rfl (fun ls hl => ?_)
  refine lv_lload hx hb d_Bx_firstShortDay_63 (lv_at hl 2 rfl) ?_
  refine lv_lload_n hx hb d_Bx_firstShortDay_65 rfl (lv_at hl 3 rfl) ?_
  refine lv_aload_n hx hb d_Bx_firstShortDay_66 rfl (lv_at hl 4 rfl) ?_
  refine lv_iload hx hb d_Bx_firstShortDay_67 (lv_at hl 0 rfl) ?_
  refine vp_callSi (va_Run.run (va_runV (As := [.int 600]) (rest := [.long 0, .long 0]) ⟨hx, hb, hml, hown, htb⟩ (c_Bx_owedOn l dC dI a k L hL 600) (cwV 1 htb (gd_V tw_113 tw_114 tw_115 tw_112 tw_111) rfl rfl rfl (by decide +kernel) ⟨Nat.le_of_ble_eq_true rfl, Nat.le_of_ble_eq_true rfl⟩) ⟨pr_blind, va_recv hK hP (ci := 5) (q0 := 12) rfl rfl, pr_pre hP hK hN⟩ rfl rfl hl.1 rfl (lv_room (Nat.le_of_ble_eq_true rfl)) d_Bx_firstShortDay_69 ⟨Nat.le_of_ble_eq_true rfl, Nat.le_of_ble_eq_true rfl⟩)) (fun r er => ?_)
  subst er
  refine hb_ti 0 rfl ?_
  refine lv_i2l hx hb d_Bx_firstShortDay_72 rfl ?_
  refine hb_tl 0 (by decide +kernel) ?_
  refine lv_lsub hx hb d_Bx_firstShortDay_73 ?_
  refine hb_tl 0 (by decide +kernel) ?_
  refine lv_ladd hx hb d_Bx_firstShortDay_74 ?_
  refine hb_tl 0 (by decide +kernel) ?_
  refine lv_lstore (lv' := [(4, .long 0), (6, .int 600), (7, .int 5), (2, .long 0), (0, .ref (a 12)), (1, .int 0)]) hx hb d_Bx_firstShortDay_75 hl (by decide) rfl (fun ls hl => ?_)
  refine lv_lload hx hb d_Bx_firstShortDay_77 (lv_at hl 0 rfl) ?_
  refine lv_lconst (v := 0) hx hb d_Bx_firstShortDay_79 (by decide +kernel) ?_
  refine W.lcmp hx hb d_Bx_firstShortDay_80 ?_
  refine hb_ti 0 (by decide +kernel) ?_
  refine lv_if_ge (tgt := 87) hx hb d_Bx_firstShortDay_81 (by decide) (fun _ => ?_) (fun h => absurd (by decide +kernel) h)
  refine lv_iinc (v := 6) (lv' := [(7, .int 6), (4, .long 0), (6, .int 600), (2, .long 0), (0, .ref (a 12)), (1, .int 0)]) hx hb d_Bx_firstShortDay_87 hl (k := 2) rfl (by decide +kernel) (by decide) rfl (fun ls hl => ?_)
  refine lv_goto (tgt := 53) hx hb d_Bx_firstShortDay_90 (by decide) ?_
  refine lv_iload hx hb d_Bx_firstShortDay_53 (lv_at hl 0 rfl) ?_
  refine lv_bipush (v := 40) hx hb d_Bx_firstShortDay_55 (by decide +kernel) ?_
  refine lv_icmp_ge (tgt := 93) hx hb d_Bx_firstShortDay_57 (by decide) (fun h => absurd h (by decide +kernel)) (fun _ => ?_)
  refine lv_iinc (v := 700) (lv' := [(6, .int 700), (7, .int 6), (4, .long 0), (2, .long 0), (0, .ref (a 12)), (1, .int 0)]) hx hb d_Bx_firstShortDay_60 hl (k := 2) rfl (by decide +kernel) (by decide) rfl (fun ls hl => ?_)
  refine lv_lload hx hb d_Bx_firstShortDay_63 (lv_at hl 2 rfl) ?_
  refine lv_lload_n hx hb d_Bx_firstShortDay_65 rfl (lv_at hl 3 rfl) ?_
  refine lv_aload_n hx hb d_Bx_firstShortDay_66 rfl (lv_at hl 4 rfl) ?_
  refine lv_iload hx hb d_Bx_firstShortDay_67 (lv_at hl 0 rfl) ?_
  refine vp_callSi (va_Run.run (va_runV (As := [.int 700]) (rest := [.long 0, .long 0]) ⟨hx, hb, hml, hown, htb⟩ (c_Bx_owedOn l dC dI a k L hL 700) (cwV 1 htb (gd_V tw_113 tw_114 tw_115 tw_112 tw_111) rfl rfl rfl (by decide +kernel) ⟨Nat.le_of_ble_eq_true rfl, Nat.le_of_ble_eq_true rfl⟩) ⟨pr_blind, va_recv hK hP (ci := 5) (q0 := 12) rfl rfl, pr_pre hP hK hN⟩ rfl rfl hl.1 rfl (lv_room (Nat.le_of_ble_eq_true rfl)) d_Bx_firstShortDay_69 ⟨Nat.le_of_ble_eq_true rfl, Nat.le_of_ble_eq_true rfl⟩)) (fun r er => ?_)
  subst er
  refine hb_ti 0 rfl ?_
  refine lv_i2l hx hb d_Bx_firstShortDay_72 rfl ?_
  refine hb_tl 0 (by decide +kernel) ?_
  refine lv_lsub hx hb d_Bx_firstShortDay_73 ?_
  refine hb_tl 0 (by decide +kernel) ?_
  refine lv_ladd hx hb d_Bx_firstShortDay_74 ?_
  refine hb_tl 0 (by decide +kernel) ?_
  refine lv_lstore (lv' := [(4, .long 0), (6, .int 700), (7, .int 6), (2, .long 0), (0, .ref (a 12)), (1, .int 0)]) hx hb d_Bx_firstShortDay_75 hl (by decide) rfl (fun ls hl => ?_)
  refine lv_lload hx hb d_Bx_firstShortDay_77 (lv_at hl 0 rfl) ?_
  refine lv_lconst (v := 0) hx hb d_Bx_firstShortDay_79 (by decide +kernel) ?_
  refine W.lcmp hx hb d_Bx_firstShortDay_80 ?_
  refine hb_ti 0 (by decide +kernel) ?_
  refine lv_if_ge (tgt := 87) hx hb d_Bx_firstShortDay_81 (by decide) (fun _ => ?_) (fun h => absurd (by decide +kernel) h)
  refine lv_iinc (v := 7) (lv' := [(7, .int 7), (4, .long 0), (6, .int 700), (2, .long 0), (0, .ref (a 12)), (1, .int 0)]) hx hb d_Bx_firstShortDay_87 hl (k := 2) rfl (by decide +kernel) (by decide) rfl (fun ls hl => ?_)
  refine lv_goto (tgt := 53) hx hb d_Bx_firstShortDay_90 (by decide) ?_
  refine lv_iload hx hb d_Bx_firstShortDay_53 (lv_at hl 0 rfl) ?_
  refine lv_bipush (v := 40) hx hb d_Bx_firstShortDay_55 (by decide +kernel) ?_
  refine lv_icmp_ge (tgt := 93) hx hb d_Bx_firstShortDay_57 (by decide) (fun h => absurd h (by decide +kernel)) (fun _ => ?_)
  refine lv_iinc (v := 800) (lv' := [(6, .int 800), (7, .int 7), (4, .long 0), (2, .long 0), (0, .ref (a 12)), (1, .int 0)]) hx hb d_Bx_firstShortDay_60 hl (k := 2) rfl (by decide +kernel) (by decide) rfl (fun ls hl => ?_)
  refine lv_lload hx hb d_Bx_firstShortDay_63 (lv_at hl 2 rfl) ?_
  refine lv_lload_n hx hb d_Bx_firstShortDay_65 rfl (lv_at hl 3 rfl) ?_
  refine lv_aload_n hx hb d_Bx_firstShortDay_66 rfl (lv_at hl 4 rfl) ?_
  refine lv_iload hx hb d_Bx_firstShortDay_67 (lv_at hl 0 rfl) ?_
  refine vp_callSi (va_Run.run (va_runV (As := [.int 800]) (rest := [.long 0, .long 0]) ⟨hx, hb, hml, hown, htb⟩ (c_Bx_owedOn l dC dI a k L hL 800) (cwV 1 htb (gd_V tw_113 tw_114 tw_115 tw_112 tw_111) rfl rfl rfl (by decide +kernel) ⟨Nat.le_of_ble_eq_true rfl, Nat.le_of_ble_eq_true rfl⟩) ⟨pr_blind, va_recv hK hP (ci := 5) (q0 := 12) rfl rfl, pr_pre hP hK hN⟩ rfl rfl hl.1 rfl (lv_room (Nat.le_of_ble_eq_true rfl)) d_Bx_firstShortDay_69 ⟨Nat.le_of_ble_eq_true rfl, Nat.le_of_ble_eq_true rfl⟩)) (fun r er => ?_)
  subst er
  refine hb_ti 0 rfl ?_
  refine lv_i2l hx hb d_Bx_firstShortDay_72 rfl ?_
  refine hb_tl 0 (by decide +kernel) ?_
  refine lv_lsub hx hb d_Bx_firstShortDay_73 ?_
  refine hb_tl 0 (by decide +kernel) ?_
  refine lv_ladd hx hb d_Bx_firstShortDay_74 ?_
  refine hb_tl 0 (by decide +kernel) ?_
  refine lv_lstore (lv' := [(4, .long 0), (6, .int 800), (7, .int 7), (2, .long 0), (0, .ref (a 12)), (1, .int 0)]) hx hb d_Bx_firstShortDay_75 hl (by decide) rfl (fun ls hl => ?_)
  refine lv_lload hx hb d_Bx_firstShortDay_77 (lv_at hl 0 rfl) ?_
  refine lv_lconst (v := 0) hx hb d_Bx_firstShortDay_79 (by decide +kernel) ?_
  refine W.lcmp hx hb d_Bx_firstShortDay_80 ?_
  refine hb_ti 0 (by decide +kernel) ?_
  refine lv_if_ge (tgt := 87) hx hb d_Bx_firstShortDay_81 (by decide) (fun _ => ?_) (fun h => absurd (by decide +kernel) h)
  refine lv_iinc (v := 8) (lv' := [(7, .int 8), (4, .long 0), (6, .int 800), (2, .long 0), (0, .ref (a 12)), (1, .int 0)]) hx hb d_Bx_firstShortDay_87 hl (k := 2) rfl (by decide +kernel) (by decide) rfl (fun ls hl => ?_)
  refine lv_goto (tgt := 53) hx hb d_Bx_firstShortDay_90 (by decide) ?_
  refine lv_iload hx hb d_Bx_firstShortDay_53 (lv_at hl 0 rfl) ?_
  refine lv_bipush (v := 40) hx hb d_Bx_firstShortDay_55 (by decide +kernel) ?_
  refine lv_icmp_ge (tgt := 93) hx hb d_Bx_firstShortDay_57 (by decide) (fun h => absurd h (by decide +kernel)) (fun _ => ?_)
  refine lv_iinc (v := 900) (lv' := [(6, .int 900), (7, .int 8), (4, .long 0), (2, .long 0), (0, .ref (a 12)), (1, .int 0)]) hx hb d_Bx_firstShortDay_60 hl (k := 2) rfl (by decide +kernel) (by decide) rfl (fun ls hl => ?_)
  refine lv_lload hx hb d_Bx_firstShortDay_63 (lv_at hl 2 rfl) ?_
  refine lv_lload_n hx hb d_Bx_firstShortDay_65 rfl (lv_at hl 3 rfl) ?_
  refine lv_aload_n hx hb d_Bx_firstShortDay_66 rfl (lv_at hl 4 rfl) ?_
  refine lv_iload hx hb d_Bx_firstShortDay_67 (lv_at hl 0 rfl) ?_
  refine vp_callSi (va_Run.run (va_runV (As := [.int 900]) (rest := [.long 0, .long 0]) ⟨hx, hb, hml, hown, htb⟩ (c_Bx_owedOn l dC dI a k L hL 900) (cwV 1 htb (gd_V tw_113 tw_114 tw_115 tw_112 tw_111) rfl rfl rfl (by decide +kernel) ⟨Nat.le_of_ble_eq_true rfl, Nat.le_of_ble_eq_true rfl⟩) ⟨pr_blind, va_recv hK hP (ci := 5) (q0 := 12) rfl rfl, pr_pre hP hK hN⟩ rfl rfl hl.1 rfl (lv_room (Nat.le_of_ble_eq_true rfl)) d_Bx_firstShortDay_69 ⟨Nat.le_of_ble_eq_true rfl, Nat.le_of_ble_eq_true rfl⟩)) (fun r er => ?_)
  subst er
  refine hb_ti 0 rfl ?_
  refine lv_i2l hx hb d_Bx_firstShortDay_72 rfl ?_
  refine hb_tl 0 (by decide +kernel) ?_
  refine lv_lsub hx hb d_Bx_firstShortDay_73 ?_
  refine hb_tl 0 (by decide +kernel) ?_
  refine lv_ladd hx hb d_Bx_firstShortDay_74 ?_
  refine hb_tl 0 (by decide +kernel) ?_
  refine lv_lstore (lv' := [(4, .long 0), (6, .int 900), (7, .int 8), (2, .long 0), (0, .ref (a 12)), (1, .int 0)]) hx hb d_Bx_firstShortDay_75 hl (by decide) rfl (fun ls hl => ?_)
  refine lv_lload hx hb d_Bx_firstShortDay_77 (lv_at hl 0 rfl) ?_
  refine lv_lconst (v := 0) hx hb d_Bx_firstShortDay_79 (by decide +kernel) ?_
  refine W.lcmp hx hb d_Bx_firstShortDay_80 ?_
  refine hb_ti 0 (by decide +kernel) ?_
  refine lv_if_ge (tgt := 87) hx hb d_Bx_firstShortDay_81 (by decide) (fun _ => ?_) (fun h => absurd (by decide +kernel) h)
  refine lv_iinc (v := 9) (lv' := [(7, .int 9), (4, .long 0), (6, .int 900), (2, .long 0), (0, .ref (a 12)), (1, .int 0)]) hx hb d_Bx_firstShortDay_87 hl (k := 2) rfl (by decide +kernel) (by decide) rfl (fun ls hl => ?_)
  refine lv_goto (tgt := 53) hx hb d_Bx_firstShortDay_90 (by decide) ?_
  refine lv_iload hx hb d_Bx_firstShortDay_53 (lv_at hl 0 rfl) ?_
  refine lv_bipush (v := 40) hx hb d_Bx_firstShortDay_55 (by decide +kernel) ?_
  refine lv_icmp_ge (tgt := 93) hx hb d_Bx_firstShortDay_57 (by decide) (fun h => absurd h (by decide +kernel)) (fun _ => ?_)
  refine lv_iinc (v := 1000) (lv' := [(6, .int 1000), (7, .int 9), (4, .long 0), (2, .long 0), (0, .ref (a 12)), (1, .int 0)]) hx hb d_Bx_firstShortDay_60 hl (k := 2) rfl (by decide +kernel) (by decide) rfl (fun ls hl => ?_)
  refine lv_lload hx hb d_Bx_firstShortDay_63 (lv_at hl 2 rfl) ?_
  refine lv_lload_n hx hb d_Bx_firstShortDay_65 rfl (lv_at hl 3 rfl) ?_
  refine lv_aload_n hx hb d_Bx_firstShortDay_66 rfl (lv_at hl 4 rfl) ?_
  refine lv_iload hx hb d_Bx_firstShortDay_67 (lv_at hl 0 rfl) ?_
  refine vp_callSi (va_Run.run (va_runV (As := [.int 1000]) (rest := [.long 0, .long 0]) ⟨hx, hb, hml, hown, htb⟩ (c_Bx_owedOn l dC dI a k L hL 1000) (cwV 1 htb (gd_V tw_113 tw_114 tw_115 tw_112 tw_111) rfl rfl rfl (by decide +kernel) ⟨Nat.le_of_ble_eq_true rfl, Nat.le_of_ble_eq_true rfl⟩) ⟨pr_blind, va_recv hK hP (ci := 5) (q0 := 12) rfl rfl, pr_pre hP hK hN⟩ rfl rfl hl.1 rfl (lv_room (Nat.le_of_ble_eq_true rfl)) d_Bx_firstShortDay_69 ⟨Nat.le_of_ble_eq_true rfl, Nat.le_of_ble_eq_true rfl⟩)) (fun r er => ?_)
  subst er
  refine hb_ti 0 rfl ?_
  refine lv_i2l hx hb d_Bx_firstShortDay_72 rfl ?_
  refine hb_tl 0 (by decide +kernel) ?_
  refine lv_lsub hx hb d_Bx_firstShortDay_73 ?_
  refine hb_tl 0 (by decide +kernel) ?_
  refine lv_ladd hx hb d_Bx_firstShortDay_74 ?_
  refine hb_tl 0 (by decide +kernel) ?_
  refine lv_lstore (lv' := [(4, .long 0), (6, .int 1000), (7, .int 9), (2, .long 0), (0, .ref (a 12)), (1, .int 0)]) hx hb d_Bx_firstShortDay_75 hl (by decide) rfl (fun ls hl => ?_)
  refine lv_lload hx hb d_Bx_firstShortDay_77 (lv_at hl 0 rfl) ?_
  refine lv_lconst (v := 0) hx hb d_Bx_firstShortDay_79 (by decide +kernel) ?_
  refine W.lcmp hx hb d_Bx_firstShortDay_80 ?_
  refine hb_ti 0 (by decide +kernel) ?_
  refine lv_if_ge (tgt := 87) hx hb d_Bx_firstShortDay_81 (by decide) (fun _ => ?_) (fun h => absurd (by decide +kernel) h)
  refine lv_iinc (v := 10) (lv' := [(7, .int 10), (4, .long 0), (6, .int 1000), (2, .long 0), (0, .ref (a 12)), (1, .int 0)]) hx hb d_Bx_firstShortDay_87 hl (k := 2) rfl (by decide +kernel) (by decide) rfl (fun ls hl => ?_)
  refine lv_goto (tgt := 53) hx hb d_Bx_firstShortDay_90 (by decide) ?_
  refine lv_iload hx hb d_Bx_firstShortDay_53 (lv_at hl 0 rfl) ?_
  refine lv_bipush (v := 40) hx hb d_Bx_firstShortDay_55 (by decide +kernel) ?_
  refine lv_icmp_ge (tgt := 93) hx hb d_Bx_firstShortDay_57 (by decide) (fun h => absurd h (by decide +kernel)) (fun _ => ?_)
  refine lv_iinc (v := 1100) (lv' := [(6, .int 1100), (7, .int 10), (4, .long 0), (2, .long 0), (0, .ref (a 12)), (1, .int 0)]) hx hb d_Bx_firstShortDay_60 hl (k := 2) rfl (by decide +kernel) (by decide) rfl (fun ls hl => ?_)
  refine lv_lload hx hb d_Bx_firstShortDay_63 (lv_at hl 2 rfl) ?_
  refine lv_lload_n hx hb d_Bx_firstShortDay_65 rfl (lv_at hl 3 rfl) ?_
  refine lv_aload_n hx hb d_Bx_firstShortDay_66 rfl (lv_at hl 4 rfl) ?_
  refine lv_iload hx hb d_Bx_firstShortDay_67 (lv_at hl 0 rfl) ?_
  refine vp_callSi (va_Run.run (va_runV (As := [.int 1100]) (rest := [.long 0, .long 0]) ⟨hx, hb, hml, hown, htb⟩ (c_Bx_owedOn l dC dI a k L hL 1100) (cwV 1 htb (gd_V tw_113 tw_114 tw_115 tw_112 tw_111) rfl rfl rfl (by decide +kernel) ⟨Nat.le_of_ble_eq_true rfl, Nat.le_of_ble_eq_true rfl⟩) ⟨pr_blind, va_recv hK hP (ci := 5) (q0 := 12) rfl rfl, pr_pre hP hK hN⟩ rfl rfl hl.1 rfl (lv_room (Nat.le_of_ble_eq_true rfl)) d_Bx_firstShortDay_69 ⟨Nat.le_of_ble_eq_true rfl, Nat.le_of_ble_eq_true rfl⟩)) (fun r er => ?_)
  subst er
  refine hb_ti 0 rfl ?_
  refine lv_i2l hx hb d_Bx_firstShortDay_72 rfl ?_
  refine hb_tl 0 (by decide +kernel) ?_
  refine lv_lsub hx hb d_Bx_firstShortDay_73 ?_
  refine hb_tl 0 (by decide +kernel) ?_
  refine lv_ladd hx hb d_Bx_firstShortDay_74 ?_
  refine hb_tl 0 (by decide +kernel) ?_
  refine lv_lstore (lv' := [(4, .long 0), (6, .int 1100), (7, .int 10), (2, .long 0), (0, .ref (a 12)), (1, .int 0)]) hx hb d_Bx_firstShortDay_75 hl (by decide) rfl (fun ls hl => ?_)
  refine lv_lload hx hb d_Bx_firstShortDay_77 (lv_at hl 0 rfl) ?_
  refine lv_lconst (v := 0) hx hb d_Bx_firstShortDay_79 (by decide +kernel) ?_
  refine W.lcmp hx hb d_Bx_firstShortDay_80 ?_
  refine hb_ti 0 (by decide +kernel) ?_
  refine lv_if_ge (tgt := 87) hx hb d_Bx_firstShortDay_81 (by decide) (fun _ => ?_) (fun h => absurd (by decide +kernel) h)
  refine lv_iinc (v := 11) (lv' := [(7, .int 11), (4, .long 0), (6, .int 1100), (2, .long 0), (0, .ref (a 12)), (1, .int 0)]) hx hb d_Bx_firstShortDay_87 hl (k := 2) rfl (by decide +kernel) (by decide) rfl (fun ls hl => ?_)
  refine lv_goto (tgt := 53) hx hb d_Bx_firstShortDay_90 (by decide) ?_
  refine lv_iload hx hb d_Bx_firstShortDay_53 (lv_at hl 0 rfl) ?_
  refine lv_bipush (v := 40) hx hb d_Bx_firstShortDay_55 (by decide +kernel) ?_
  refine lv_icmp_ge (tgt := 93) hx hb d_Bx_firstShortDay_57 (by decide) (fun h => absurd h (by decide +kernel)) (fun _ => ?_)
  refine lv_iinc (v := 1200) (lv' := [(6, .int 1200), (7, .int 11), (4, .long 0), (2, .long 0), (0, .ref (a 12)), (1, .int 0)]) hx hb d_Bx_firstShortDay_60 hl (k := 2) rfl (by decide +kernel) (by decide) rfl (fun ls hl => ?_)
  refine lv_lload hx hb d_Bx_firstShortDay_63 (lv_at hl 2 rfl) ?_
  refine lv_lload_n hx hb d_Bx_firstShortDay_65 rfl (lv_at hl 3 rfl) ?_
  refine lv_aload_n hx hb d_Bx_firstShortDay_66 rfl (lv_at hl 4 rfl) ?_
  refine lv_iload hx hb d_Bx_firstShortDay_67 (lv_at hl 0 rfl) ?_
  refine vp_callSi (va_Run.run (va_runV (As := [.int 1200]) (rest := [.long 0, .long 0]) ⟨hx, hb, hml, hown, htb⟩ (c_Bx_owedOn l dC dI a k L hL 1200) (cwV 1 htb (gd_V tw_113 tw_114 tw_115 tw_112 tw_111) rfl rfl rfl (by decide +kernel) ⟨Nat.le_of_ble_eq_true rfl, Nat.le_of_ble_eq_true rfl⟩) ⟨pr_blind, va_recv hK hP (ci := 5) (q0 := 12) rfl rfl, pr_pre hP hK hN⟩ rfl rfl hl.1 rfl (lv_room (Nat.le_of_ble_eq_true rfl)) d_Bx_firstShortDay_69 ⟨Nat.le_of_ble_eq_true rfl, Nat.le_of_ble_eq_true rfl⟩)) (fun r er => ?_)
  subst er
  refine hb_ti 0 rfl ?_
  refine lv_i2l hx hb d_Bx_firstShortDay_72 rfl ?_
  refine hb_tl 0 (by decide +kernel) ?_
  refine lv_lsub hx hb d_Bx_firstShortDay_73 ?_
  refine hb_tl 0 (by decide +kernel) ?_
  refine lv_ladd hx hb d_Bx_firstShortDay_74 ?_
  refine hb_tl 0 (by decide +kernel) ?_
  refine lv_lstore (lv' := [(4, .long 0), (6, .int 1200), (7, .int 11), (2, .long 0), (0, .ref (a 12)), (1, .int 0)]) hx hb d_Bx_firstShortDay_75 hl (by decide) rfl (fun ls hl => ?_)
  refine lv_lload hx hb d_Bx_firstShortDay_77 (lv_at hl 0 rfl) ?_
  refine lv_lconst (v := 0) hx hb d_Bx_firstShortDay_79 (by decide +kernel) ?_
  refine W.lcmp hx hb d_Bx_firstShortDay_80 ?_
  refine hb_ti 0 (by decide +kernel) ?_
  refine lv_if_ge (tgt := 87) hx hb d_Bx_firstShortDay_81 (by decide) (fun _ => ?_) (fun h => absurd (by decide +kernel) h)
  refine lv_iinc (v := 12) (lv' := [(7, .int 12), (4, .long 0), (6, .int 1200), (2, .long 0), (0, .ref (a 12)), (1, .int 0)]) hx hb d_Bx_firstShortDay_87 hl (k := 2) rfl (by decide +kernel) (by decide) rfl (fun ls hl => ?_)
  refine lv_goto (tgt := 53) hx hb d_Bx_firstShortDay_90 (by decide) ?_
  refine lv_iload hx hb d_Bx_firstShortDay_53 (lv_at hl 0 rfl) ?_
  refine lv_bipush (v := 40) hx hb d_Bx_firstShortDay_55 (by decide +kernel) ?_
  refine lv_icmp_ge (tgt := 93) hx hb d_Bx_firstShortDay_57 (by decide) (fun h => absurd h (by decide +kernel)) (fun _ => ?_)
  refine lv_iinc (v := 1300) (lv' := [(6, .int 1300), (7, .int 12), (4, .long 0), (2, .long 0), (0, .ref (a 12)), (1, .int 0)]) hx hb d_Bx_firstShortDay_60 hl (k := 2) rfl (by decide +kernel) (by decide) rfl (fun ls hl => ?_)
  refine lv_lload hx hb d_Bx_firstShortDay_63 (lv_at hl 2 rfl) ?_
  refine lv_lload_n hx hb d_Bx_firstShortDay_65 rfl (lv_at hl 3 rfl) ?_
  refine lv_aload_n hx hb d_Bx_firstShortDay_66 rfl (lv_at hl 4 rfl) ?_
  refine lv_iload hx hb d_Bx_firstShortDay_67 (lv_at hl 0 rfl) ?_
  refine vp_callSi (va_Run.run (va_runV (As := [.int 1300]) (rest := [.long 0, .long 0]) ⟨hx, hb, hml, hown, htb⟩ (c_Bx_owedOn l dC dI a k L hL 1300) (cwV 1 htb (gd_V tw_113 tw_114 tw_115 tw_112 tw_111) rfl rfl rfl (by decide +kernel) ⟨Nat.le_of_ble_eq_true rfl, Nat.le_of_ble_eq_true rfl⟩) ⟨pr_blind, va_recv hK hP (ci := 5) (q0 := 12) rfl rfl, pr_pre hP hK hN⟩ rfl rfl hl.1 rfl (lv_room (Nat.le_of_ble_eq_true rfl)) d_Bx_firstShortDay_69 ⟨Nat.le_of_ble_eq_true rfl, Nat.le_of_ble_eq_true rfl⟩)) (fun r er => ?_)
  subst er
  refine hb_ti 0 rfl ?_
  refine lv_i2l hx hb d_Bx_firstShortDay_72 rfl ?_
  refine hb_tl 0 (by decide +kernel) ?_
  refine lv_lsub hx hb d_Bx_firstShortDay_73 ?_
  refine hb_tl 0 (by decide +kernel) ?_
  refine lv_ladd hx hb d_Bx_firstShortDay_74 ?_
  refine hb_tl 0 (by decide +kernel) ?_
  refine lv_lstore (lv' := [(4, .long 0), (6, .int 1300), (7, .int 12), (2, .long 0), (0, .ref (a 12)), (1, .int 0)]) hx hb d_Bx_firstShortDay_75 hl (by decide) rfl (fun ls hl => ?_)
  refine lv_lload hx hb d_Bx_firstShortDay_77 (lv_at hl 0 rfl) ?_
  refine lv_lconst (v := 0) hx hb d_Bx_firstShortDay_79 (by decide +kernel) ?_
  refine W.lcmp hx hb d_Bx_firstShortDay_80 ?_
  refine hb_ti 0 (by decide +kernel) ?_
  refine lv_if_ge (tgt := 87) hx hb d_Bx_firstShortDay_81 (by decide) (fun _ => ?_) (fun h => absurd (by decide +kernel) h)
  refine lv_iinc (v := 13) (lv' := [(7, .int 13), (4, .long 0), (6, .int 1300), (2, .long 0), (0, .ref (a 12)), (1, .int 0)]) hx hb d_Bx_firstShortDay_87 hl (k := 2) rfl (by decide +kernel) (by decide) rfl (fun ls hl => ?_)
  refine lv_goto (tgt := 53) hx hb d_Bx_firstShortDay_90 (by decide) ?_
  refine lv_iload hx hb d_Bx_firstShortDay_53 (lv_at hl 0 rfl) ?_
  refine lv_bipush (v := 40) hx hb d_Bx_firstShortDay_55 (by decide +kernel) ?_
  refine lv_icmp_ge (tgt := 93) hx hb d_Bx_firstShortDay_57 (by decide) (fun h => absurd h (by decide +kernel)) (fun _ => ?_)
  refine lv_iinc (v := 1400) (lv' := [(6, .int 1400), (7, .int 13), (4, .long 0), (2, .long 0), (0, .ref (a 12)), (1, .int 0)]) hx hb d_Bx_firstShortDay_60 hl (k := 2) rfl (by decide +kernel) (by decide) rfl (fun ls hl => ?_)
  refine lv_lload hx hb d_Bx_firstShortDay_63 (lv_at hl 2 rfl) ?_
  refine lv_lload_n hx hb d_Bx_firstShortDay_65 rfl (lv_at hl 3 rfl) ?_
  refine lv_aload_n hx hb d_Bx_firstShortDay_66 rfl (lv_at hl 4 rfl) ?_
  refine lv_iload hx hb d_Bx_firstShortDay_67 (lv_at hl 0 rfl) ?_
  refine vp_callSi (va_Run.run (va_runV (As := [.int 1400]) (rest := [.long 0, .long 0]) ⟨hx, hb, hml, hown, htb⟩ (c_Bx_owedOn l dC dI a k L hL 1400) (cwV 1 htb (gd_V tw_113 tw_114 tw_115 tw_112 tw_111) rfl rfl rfl (by decide +kernel) ⟨Nat.le_of_ble_eq_true rfl, Nat.le_of_ble_eq_true rfl⟩) ⟨pr_blind, va_recv hK hP (ci := 5) (q0 := 12) rfl rfl, pr_pre hP hK hN⟩ rfl rfl hl.1 rfl (lv_room (Nat.le_of_ble_eq_true rfl)) d_Bx_firstShortDay_69 ⟨Nat.le_of_ble_eq_true rfl, Nat.le_of_ble_eq_true rfl⟩)) (fun r er => ?_)
  subst er
  refine hb_ti 0 rfl ?_
  refine lv_i2l hx hb d_Bx_firstShortDay_72 rfl ?_
  refine hb_tl 0 (by decide +kernel) ?_
  refine lv_lsub hx hb d_Bx_firstShortDay_73 ?_
  refine hb_tl 0 (by decide +kernel) ?_
  refine lv_ladd hx hb d_Bx_firstShortDay_74 ?_
  refine hb_tl 0 (by decide +kernel) ?_
  refine lv_lstore (lv' := [(4, .long 0), (6, .int 1400), (7, .int 13), (2, .long 0), (0, .ref (a 12)), (1, .int 0)]) hx hb d_Bx_firstShortDay_75 hl (by decide) rfl (fun ls hl => ?_)
  refine lv_lload hx hb d_Bx_firstShortDay_77 (lv_at hl 0 rfl) ?_
  refine lv_lconst (v := 0) hx hb d_Bx_firstShortDay_79 (by decide +kernel) ?_
  refine W.lcmp hx hb d_Bx_firstShortDay_80 ?_
  refine hb_ti 0 (by decide +kernel) ?_
  refine lv_if_ge (tgt := 87) hx hb d_Bx_firstShortDay_81 (by decide) (fun _ => ?_) (fun h => absurd (by decide +kernel) h)
  refine lv_iinc (v := 14) (lv' := [(7, .int 14), (4, .long 0), (6, .int 1400), (2, .long 0), (0, .ref (a 12)), (1, .int 0)]) hx hb d_Bx_firstShortDay_87 hl (k := 2) rfl (by decide +kernel) (by decide) rfl (fun ls hl => ?_)
  refine lv_goto (tgt := 53) hx hb d_Bx_firstShortDay_90 (by decide) ?_
  refine lv_iload hx hb d_Bx_firstShortDay_53 (lv_at hl 0 rfl) ?_
  refine lv_bipush (v := 40) hx hb d_Bx_firstShortDay_55 (by decide +kernel) ?_
  refine lv_icmp_ge (tgt := 93) hx hb d_Bx_firstShortDay_57 (by decide) (fun h => absurd h (by decide +kernel)) (fun _ => ?_)
  refine lv_iinc (v := 1500) (lv' := [(6, .int 1500), (7, .int 14), (4, .long 0), (2, .long 0), (0, .ref (a 12)), (1, .int 0)]) hx hb d_Bx_firstShortDay_60 hl (k := 2) rfl (by decide +kernel) (by decide) rfl (fun ls hl => ?_)
  refine lv_lload hx hb d_Bx_firstShortDay_63 (lv_at hl 2 rfl) ?_
  refine lv_lload_n hx hb d_Bx_firstShortDay_65 rfl (lv_at hl 3 rfl) ?_
  refine lv_aload_n hx hb d_Bx_firstShortDay_66 rfl (lv_at hl 4 rfl) ?_
  refine lv_iload hx hb d_Bx_firstShortDay_67 (lv_at hl 0 rfl) ?_
  refine vp_callSi (va_Run.run (va_runV (As := [.int 1500]) (rest := [.long 0, .long 0]) ⟨hx, hb, hml, hown, htb⟩ (c_Bx_owedOn l dC dI a k L hL 1500) (cwV 1 htb (gd_V tw_113 tw_114 tw_115 tw_112 tw_111) rfl rfl rfl (by decide +kernel) ⟨Nat.le_of_ble_eq_true rfl, Nat.le_of_ble_eq_true rfl⟩) ⟨pr_blind, va_recv hK hP (ci := 5) (q0 := 12) rfl rfl, pr_pre hP hK hN⟩ rfl rfl hl.1 rfl (lv_room (Nat.le_of_ble_eq_true rfl)) d_Bx_firstShortDay_69 ⟨Nat.le_of_ble_eq_true rfl, Nat.le_of_ble_eq_true rfl⟩)) (fun r er => ?_)
  subst er
  refine hb_ti 0 rfl ?_
  refine lv_i2l hx hb d_Bx_firstShortDay_72 rfl ?_
  refine hb_tl 0 (by decide +kernel) ?_
  refine lv_lsub hx hb d_Bx_firstShortDay_73 ?_
  refine hb_tl 0 (by decide +kernel) ?_
  refine lv_ladd hx hb d_Bx_firstShortDay_74 ?_
  refine hb_tl 0 (by decide +kernel) ?_
  refine lv_lstore (lv' := [(4, .long 0), (6, .int 1500), (7, .int 14), (2, .long 0), (0, .ref (a 12)), (1, .int 0)]) hx hb d_Bx_firstShortDay_75 hl (by decide) rfl (fun ls hl => ?_)
  refine lv_lload hx hb d_Bx_firstShortDay_77 (lv_at hl 0 rfl) ?_
  refine lv_lconst (v := 0) hx hb d_Bx_firstShortDay_79 (by decide +kernel) ?_
  refine W.lcmp hx hb d_Bx_firstShortDay_80 ?_
  refine hb_ti 0 (by decide +kernel) ?_
  refine lv_if_ge (tgt := 87) hx hb d_Bx_firstShortDay_81 (by decide) (fun _ => ?_) (fun h => absurd (by decide +kernel) h)
  refine lv_iinc (v := 15) (lv' := [(7, .int 15), (4, .long 0), (6, .int 1500), (2, .long 0), (0, .ref (a 12)), (1, .int 0)]) hx hb d_Bx_firstShortDay_87 hl (k := 2) rfl (by decide +kernel) (by decide) rfl (fun ls hl => ?_)
  refine lv_goto (tgt := 53) hx hb d_Bx_firstShortDay_90 (by decide) ?_
  refine lv_iload hx hb d_Bx_firstShortDay_53 (lv_at hl 0 rfl) ?_
  refine lv_bipush (v := 40) hx hb d_Bx_firstShortDay_55 (by decide +kernel) ?_
  refine lv_icmp_ge (tgt := 93) hx hb d_Bx_firstShortDay_57 (by decide) (fun h => absurd h (by decide +kernel)) (fun _ => ?_)
  refine lv_iinc (v := 1600) (lv' := [(6, .int 1600), (7, .int 15), (4, .long 0), (2, .long 0), (0, .ref (a 12)), (1, .int 0)]) hx hb d_Bx_firstShortDay_60 hl (k := 2) rfl (by decide +kernel) (by decide) rfl (fun ls hl => ?_)
  refine lv_lload hx hb d_Bx_firstShortDay_63 (lv_at hl 2 rfl) ?_
  refine lv_lload_n hx hb d_Bx_firstShortDay_65 rfl (lv_at hl 3 rfl) ?_
  refine lv_aload_n hx hb d_Bx_firstShortDay_66 rfl (lv_at hl 4 rfl) ?_
  refine lv_iload hx hb d_Bx_firstShortDay_67 (lv_at hl 0 rfl) ?_
  refine vp_callSi (va_Run.run (va_runV (As := [.int 1600]) (rest := [.long 0, .long 0]) ⟨hx, hb, hml, hown, htb⟩ (c_Bx_owedOn l dC dI a k L hL 1600) (cwV 1 htb (gd_V tw_113 tw_114 tw_115 tw_112 tw_111) rfl rfl rfl (by decide +kernel) ⟨Nat.le_of_ble_eq_true rfl, Nat.le_of_ble_eq_true rfl⟩) ⟨pr_blind, va_recv hK hP (ci := 5) (q0 := 12) rfl rfl, pr_pre hP hK hN⟩ rfl rfl hl.1 rfl (lv_room (Nat.le_of_ble_eq_true rfl)) d_Bx_firstShortDay_69 ⟨Nat.le_of_ble_eq_true rfl, Nat.le_of_ble_eq_true rfl⟩)) (fun r er => ?_)
  subst er
  refine hb_ti 0 rfl ?_
  refine lv_i2l hx hb d_Bx_firstShortDay_72 rfl ?_
  refine hb_tl 0 (by decide +kernel) ?_
  refine lv_lsub hx hb d_Bx_firstShortDay_73 ?_
  refine hb_tl 0 (by decide +kernel) ?_
  refine lv_ladd hx hb d_Bx_firstShortDay_74 ?_
  refine hb_tl 0 (by decide +kernel) ?_
  refine lv_lstore (lv' := [(4, .long 0), (6, .int 1600), (7, .int 15), (2, .long 0), (0, .ref (a 12)), (1, .int 0)]) hx hb d_Bx_firstShortDay_75 hl (by decide) rfl (fun ls hl => ?_)
  refine lv_lload hx hb d_Bx_firstShortDay_77 (lv_at hl 0 rfl) ?_
  refine lv_lconst (v := 0) hx hb d_Bx_firstShortDay_79 (by decide +kernel) ?_
  refine W.lcmp hx hb d_Bx_firstShortDay_80 ?_
  refine hb_ti 0 (by decide +kernel) ?_
  refine lv_if_ge (tgt := 87) hx hb d_Bx_firstShortDay_81 (by decide) (fun _ => ?_) (fun h => absurd (by decide +kernel) h)
  refine lv_iinc (v := 16) (lv' := [(7, .int 16), (4, .long 0), (6, .int 1600), (2, .long 0), (0, .ref (a 12)), (1, .int 0)]) hx hb d_Bx_firstShortDay_87 hl (k := 2) rfl (by decide +kernel) (by decide) rfl (fun ls hl => ?_)
  refine lv_goto (tgt := 53) hx hb d_Bx_firstShortDay_90 (by decide) ?_
  refine lv_iload hx hb d_Bx_firstShortDay_53 (lv_at hl 0 rfl) ?_
  refine lv_bipush (v := 40) hx hb d_Bx_firstShortDay_55 (by decide +kernel) ?_
  refine lv_icmp_ge (tgt := 93) hx hb d_Bx_firstShortDay_57 (by decide) (fun h => absurd h (by decide +kernel)) (fun _ => ?_)
  refine lv_iinc (v := 1700) (lv' := [(6, .int 1700), (7, .int 16), (4, .long 0), (2, .long 0), (0, .ref (a 12)), (1, .int 0)]) hx hb d_Bx_firstShortDay_60 hl (k := 2) rfl (by decide +kernel) (by decide) rfl (fun ls hl => ?_)
  refine lv_lload hx hb d_Bx_firstShortDay_63 (lv_at hl 2 rfl) ?_
  refine lv_lload_n hx hb d_Bx_firstShortDay_65 rfl (lv_at hl 3 rfl) ?_
  refine lv_aload_n hx hb d_Bx_firstShortDay_66 rfl (lv_at hl 4 rfl) ?_
  refine lv_iload hx hb d_Bx_firstShortDay_67 (lv_at hl 0 rfl) ?_
  refine vp_callSi (va_Run.run (va_runV (As := [.int 1700]) (rest := [.long 0, .long 0]) ⟨hx, hb, hml, hown, htb⟩ (c_Bx_owedOn l dC dI a k L hL 1700) (cwV 1 htb (gd_V tw_113 tw_114 tw_115 tw_112 tw_111) rfl rfl rfl (by decide +kernel) ⟨Nat.le_of_ble_eq_true rfl, Nat.le_of_ble_eq_true rfl⟩) ⟨pr_blind, va_recv hK hP (ci := 5) (q0 := 12) rfl rfl, pr_pre hP hK hN⟩ rfl rfl hl.1 rfl (lv_room (Nat.le_of_ble_eq_true rfl)) d_Bx_firstShortDay_69 ⟨Nat.le_of_ble_eq_true rfl, Nat.le_of_ble_eq_true rfl⟩)) (fun r er => ?_)
  subst er
  refine hb_ti 0 rfl ?_
  refine lv_i2l hx hb d_Bx_firstShortDay_72 rfl ?_
  refine hb_tl 0 (by decide +kernel) ?_
  refine lv_lsub hx hb d_Bx_firstShortDay_73 ?_
  refine hb_tl 0 (by decide +kernel) ?_
  refine lv_ladd hx hb d_Bx_firstShortDay_74 ?_
  refine hb_tl 0 (by decide +kernel) ?_
  refine lv_lstore (lv' := [(4, .long 0), (6, .int 1700), (7, .int 16), (2, .long 0), (0, .ref (a 12)), (1, .int 0)]) hx hb d_Bx_firstShortDay_75 hl (by decide) rfl (fun ls hl => ?_)
  refine lv_lload hx hb d_Bx_firstShortDay_77 (lv_at hl 0 rfl) ?_
  refine lv_lconst (v := 0) hx hb d_Bx_firstShortDay_79 (by decide +kernel) ?_
  refine W.lcmp hx hb d_Bx_firstShortDay_80 ?_
  refine hb_ti 0 (by decide +kernel) ?_
  refine lv_if_ge (tgt := 87) hx hb d_Bx_firstShortDay_81 (by decide) (fun _ => ?_) (fun h => absurd (by decide +kernel) h)
  refine lv_iinc (v := 17) (lv' := [(7, .int 17), (4, .long 0), (6, .int 1700), (2, .long 0), (0, .ref (a 12)), (1, .int 0)]) hx hb d_Bx_firstShortDay_87 hl (k := 2) rfl (by decide +kernel) (by decide) rfl (fun ls hl => ?_)
  refine lv_goto (tgt := 53) hx hb d_Bx_firstShortDay_90 (by decide) ?_
  refine lv_iload hx hb d_Bx_firstShortDay_53 (lv_at hl 0 rfl) ?_
  refine lv_bipush (v := 40) hx hb d_Bx_firstShortDay_55 (by decide +kernel) ?_
  refine lv_icmp_ge (tgt := 93) hx hb d_Bx_firstShortDay_57 (by decide) (fun h => absurd h (by decide +kernel)) (fun _ => ?_)
  refine lv_iinc (v := 1800) (lv' := [(6, .int 1800), (7, .int 17), (4, .long 0), (2, .long 0), (0, .ref (a 12)), (1, .int 0)]) hx hb d_Bx_firstShortDay_60 hl (k := 2) rfl (by decide +kernel) (by decide) rfl (fun ls hl => ?_)
  refine lv_lload hx hb d_Bx_firstShortDay_63 (lv_at hl 2 rfl) ?_
  refine lv_lload_n hx hb d_Bx_firstShortDay_65 rfl (lv_at hl 3 rfl) ?_
  refine lv_aload_n hx hb d_Bx_firstShortDay_66 rfl (lv_at hl 4 rfl) ?_
  refine lv_iload hx hb d_Bx_firstShortDay_67 (lv_at hl 0 rfl) ?_
  refine vp_callSi (va_Run.run (va_runV (As := [.int 1800]) (rest := [.long 0, .long 0]) ⟨hx, hb, hml, hown, htb⟩ (c_Bx_owedOn l dC dI a k L hL 1800) (cwV 1 htb (gd_V tw_113 tw_114 tw_115 tw_112 tw_111) rfl rfl rfl (by decide +kernel) ⟨Nat.le_of_ble_eq_true rfl, Nat.le_of_ble_eq_true rfl⟩) ⟨pr_blind, va_recv hK hP (ci := 5) (q0 := 12) rfl rfl, pr_pre hP hK hN⟩ rfl rfl hl.1 rfl (lv_room (Nat.le_of_ble_eq_true rfl)) d_Bx_firstShortDay_69 ⟨Nat.le_of_ble_eq_true rfl, Nat.le_of_ble_eq_true rfl⟩)) (fun r er => ?_)
  subst er
  refine hb_ti 0 rfl ?_
  refine lv_i2l hx hb d_Bx_firstShortDay_72 rfl ?_
  refine hb_tl 0 (by decide +kernel) ?_
  refine lv_lsub hx hb d_Bx_firstShortDay_73 ?_
  refine hb_tl 0 (by decide +kernel) ?_
  refine lv_ladd hx hb d_Bx_firstShortDay_74 ?_
  refine hb_tl 0 (by decide +kernel) ?_
  refine lv_lstore (lv' := [(4, .long 0), (6, .int 1800), (7, .int 17), (2, .long 0), (0, .ref (a 12)), (1, .int 0)]) hx hb d_Bx_firstShortDay_75 hl (by decide) rfl (fun ls hl => ?_)
  refine lv_lload hx hb d_Bx_firstShortDay_77 (lv_at hl 0 rfl) ?_
  refine lv_lconst (v := 0) hx hb d_Bx_firstShortDay_79 (by decide +kernel) ?_
  refine W.lcmp hx hb d_Bx_firstShortDay_80 ?_
  refine hb_ti 0 (by decide +kernel) ?_
  refine lv_if_ge (tgt := 87) hx hb d_Bx_firstShortDay_81 (by decide) (fun _ => ?_) (fun h => absurd (by decide +kernel) h)
  refine lv_iinc (v := 18) (lv' := [(7, .int 18), (4, .long 0), (6, .int 1800), (2, .long 0), (0, .ref (a 12)), (1, .int 0)]) hx hb d_Bx_firstShortDay_87 hl (k := 2) rfl (by decide +kernel) (by decide) rfl (fun ls hl => ?_)
  refine lv_goto (tgt := 53) hx hb d_Bx_firstShortDay_90 (by decide) ?_
  refine lv_iload hx hb d_Bx_firstShortDay_53 (lv_at hl 0 rfl) ?_
  refine lv_bipush (v := 40) hx hb d_Bx_firstShortDay_55 (by decide +kernel) ?_
  refine lv_icmp_ge (tgt := 93) hx hb d_Bx_firstShortDay_57 (by decide) (fun h => absurd h (by decide +kernel)) (fun _ => ?_)
  refine lv_iinc (v := 1900) (lv' := [(6, .int 1900), (7, .int 18), (4, .long 0), (2, .long 0), (0, .ref (a 12)), (1, .int 0)]) hx hb d_Bx_firstShortDay_60 hl (k := 2) rfl (by decide +kernel) (by decide) rfl (fun ls hl => ?_)
  refine lv_lload hx hb d_Bx_firstShortDay_63 (lv_at hl 2 rfl) ?_
  refine lv_lload_n hx hb d_Bx_firstShortDay_65 rfl (lv_at hl 3 rfl) ?_
  refine lv_aload_n hx hb d_Bx_firstShortDay_66 rfl (lv_at hl 4 rfl) ?_
  refine lv_iload hx hb d_Bx_firstShortDay_67 (lv_at hl 0 rfl) ?_
  refine vp_callSi (va_Run.run (va_runV (As := [.int 1900]) (rest := [.long 0, .long 0]) ⟨hx, hb, hml, hown, htb⟩ (c_Bx_owedOn l dC dI a k L hL 1900) (cwV 1 htb (gd_V tw_113 tw_114 tw_115 tw_112 tw_111) rfl rfl rfl (by decide +kernel) ⟨Nat.le_of_ble_eq_true rfl, Nat.le_of_ble_eq_true rfl⟩) ⟨pr_blind, va_recv hK hP (ci := 5) (q0 := 12) rfl rfl, pr_pre hP hK hN⟩ rfl rfl hl.1 rfl (lv_room (Nat.le_of_ble_eq_true rfl)) d_Bx_firstShortDay_69 ⟨Nat.le_of_ble_eq_true rfl, Nat.le_of_ble_eq_true rfl⟩)) (fun r er => ?_)
  subst er
  refine hb_ti 0 rfl ?_
  refine lv_i2l hx hb d_Bx_firstShortDay_72 rfl ?_
  refine hb_tl 0 (by decide +kernel) ?_
  refine lv_lsub hx hb d_Bx_firstShortDay_73 ?_
  refine hb_tl 0 (by decide +kernel) ?_
  refine lv_ladd hx hb d_Bx_firstShortDay_74 ?_
  refine hb_tl 0 (by decide +kernel) ?_
  refine lv_lstore (lv' := [(4, .long 0), (6, .int 1900), (7, .int 18), (2, .long 0), (0, .ref (a 12)), (1, .int 0)]) hx hb d_Bx_firstShortDay_75 hl (by decide) rfl (fun ls hl => ?_)
  refine lv_lload hx hb d_Bx_firstShortDay_77 (lv_at hl 0 rfl) ?_
  refine lv_lconst (v := 0) hx hb d_Bx_firstShortDay_79 (by decide +kernel) ?_
  refine W.lcmp hx hb d_Bx_firstShortDay_80 ?_
  refine hb_ti 0 (by decide +kernel) ?_
  refine lv_if_ge (tgt := 87) hx hb d_Bx_firstShortDay_81 (by decide) (fun _ => ?_) (fun h => absurd (by decide +kernel) h)
  refine lv_iinc (v := 19) (lv' := [(7, .int 19), (4, .long 0), (6, .int 1900), (2, .long 0), (0, .ref (a 12)), (1, .int 0)]) hx hb d_Bx_firstShortDay_87 hl (k := 2) rfl (by decide +kernel) (by decide) rfl (fun ls hl => ?_)
  refine lv_goto (tgt := 53) hx hb d_Bx_firstShortDay_90 (by decide) ?_
  refine lv_iload hx hb d_Bx_firstShortDay_53 (lv_at hl 0 rfl) ?_
  refine lv_bipush (v := 40) hx hb d_Bx_firstShortDay_55 (by decide +kernel) ?_
  refine lv_icmp_ge (tgt := 93) hx hb d_Bx_firstShortDay_57 (by decide) (fun h => absurd h (by decide +kernel)) (fun _ => ?_)
  refine lv_iinc (v := 2000) (lv' := [(6, .int 2000), (7, .int 19), (4, .long 0), (2, .long 0), (0, .ref (a 12)), (1, .int 0)]) hx hb d_Bx_firstShortDay_60 hl (k := 2) rfl (by decide +kernel) (by decide) rfl (fun ls hl => ?_)
  refine lv_lload hx hb d_Bx_firstShortDay_63 (lv_at hl 2 rfl) ?_
  refine lv_lload_n hx hb d_Bx_firstShortDay_65 rfl (lv_at hl 3 rfl) ?_
  refine lv_aload_n hx hb d_Bx_firstShortDay_66 rfl (lv_at hl 4 rfl) ?_
  refine lv_iload hx hb d_Bx_firstShortDay_67 (lv_at hl 0 rfl) ?_
  refine vp_callSi (va_Run.run (va_runV (As := [.int 2000]) (rest := [.long 0, .long 0]) ⟨hx, hb, hml, hown, htb⟩ (c_Bx_owedOn l dC dI a k L hL 2000) (cwV 1 htb (gd_V tw_113 tw_114 tw_115 tw_112 tw_111) rfl rfl rfl (by decide +kernel) ⟨Nat.le_of_ble_eq_true rfl, Nat.le_of_ble_eq_true rfl⟩) ⟨pr_blind, va_recv hK hP (ci := 5) (q0 := 12) rfl rfl, pr_pre hP hK hN⟩ rfl rfl hl.1 rfl (lv_room (Nat.le_of_ble_eq_true rfl)) d_Bx_firstShortDay_69 ⟨Nat.le_of_ble_eq_true rfl, Nat.le_of_ble_eq_true rfl⟩)) (fun r er => ?_)
  subst er
  refine hb_ti 0 rfl ?_
  refine lv_i2l hx hb d_Bx_firstShortDay_72 rfl ?_
  refine hb_tl 0 (by decide +kernel) ?_
  refine lv_lsub hx hb d_Bx_firstShortDay_73 ?_
  refine hb_tl 0 (by decide +kernel) ?_
  refine lv_ladd hx hb d_Bx_firstShortDay_74 ?_
  refine hb_tl 0 (by decide +kernel) ?_
  refine lv_lstore (lv' := [(4, .long 0), (6, .int 2000), (7, .int 19), (2, .long 0), (0, .ref (a 12)), (1, .int 0)]) hx hb d_Bx_firstShortDay_75 hl (by decide) rfl (fun ls hl => ?_)
  refine lv_lload hx hb d_Bx_firstShortDay_77 (lv_at hl 0 rfl) ?_
  refine lv_lconst (v := 0) hx hb d_Bx_firstShortDay_79 (by decide +kernel) ?_
  refine W.lcmp hx hb d_Bx_firstShortDay_80 ?_
  refine hb_ti 0 (by decide +kernel) ?_
  refine lv_if_ge (tgt := 87) hx hb d_Bx_firstShortDay_81 (by decide) (fun _ => ?_) (fun h => absurd (by decide +kernel) h)
  refine lv_iinc (v := 20) (lv' := [(7, .int 20), (4, .long 0), (6, .int 2000), (2, .long 0), (0, .ref (a 12)), (1, .int 0)]) hx hb d_Bx_firstShortDay_87 hl (k := 2) rfl (by decide +kernel) (by decide) rfl (fun ls hl => ?_)
  refine lv_goto (tgt := 53) hx hb d_Bx_firstShortDay_90 (by decide) ?_
  refine lv_iload hx hb d_Bx_firstShortDay_53 (lv_at hl 0 rfl) ?_
  refine lv_bipush (v := 40) hx hb d_Bx_firstShortDay_55 (by decide +kernel) ?_
  refine lv_icmp_ge (tgt := 93) hx hb d_Bx_firstShortDay_57 (by decide) (fun h => absurd h (by decide +kernel)) (fun _ => ?_)
  refine lv_iinc (v := 2100) (lv' := [(6, .int 2100), (7, .int 20), (4, .long 0), (2, .long 0), (0, .ref (a 12)), (1, .int 0)]) hx hb d_Bx_firstShortDay_60 hl (k := 2) rfl (by decide +kernel) (by decide) rfl (fun ls hl => ?_)
  refine lv_lload hx hb d_Bx_firstShortDay_63 (lv_at hl 2 rfl) ?_
  refine lv_lload_n hx hb d_Bx_firstShortDay_65 rfl (lv_at hl 3 rfl) ?_
  refine lv_aload_n hx hb d_Bx_firstShortDay_66 rfl (lv_at hl 4 rfl) ?_
  refine lv_iload hx hb d_Bx_firstShortDay_67 (lv_at hl 0 rfl) ?_
  refine vp_callSi (va_Run.run (va_runV (As := [.int 2100]) (rest := [.long 0, .long 0]) ⟨hx, hb, hml, hown, htb⟩ (c_Bx_owedOn l dC dI a k L hL 2100) (cwV 1 htb (gd_V tw_113 tw_114 tw_115 tw_112 tw_111) rfl rfl rfl (by decide +kernel) ⟨Nat.le_of_ble_eq_true rfl, Nat.le_of_ble_eq_true rfl⟩) ⟨pr_blind, va_recv hK hP (ci := 5) (q0 := 12) rfl rfl, pr_pre hP hK hN⟩ rfl rfl hl.1 rfl (lv_room (Nat.le_of_ble_eq_true rfl)) d_Bx_firstShortDay_69 ⟨Nat.le_of_ble_eq_true rfl, Nat.le_of_ble_eq_true rfl⟩)) (fun r er => ?_)
  subst er
  refine hb_ti 0 rfl ?_
  refine lv_i2l hx hb d_Bx_firstShortDay_72 rfl ?_
  refine hb_tl 0 (by decide +kernel) ?_
  refine lv_lsub hx hb d_Bx_firstShortDay_73 ?_
  refine hb_tl 0 (by decide +kernel) ?_
  refine lv_ladd hx hb d_Bx_firstShortDay_74 ?_
  refine hb_tl 0 (by decide +kernel) ?_
  refine lv_lstore (lv' := [(4, .long 0), (6, .int 2100), (7, .int 20), (2, .long 0), (0, .ref (a 12)), (1, .int 0)]) hx hb d_Bx_firstShortDay_75 hl (by decide) rfl (fun ls hl => ?_)
  refine lv_lload hx hb d_Bx_firstShortDay_77 (lv_at hl 0 rfl) ?_
  refine lv_lconst (v := 0) hx hb d_Bx_firstShortDay_79 (by decide +kernel) ?_
  refine W.lcmp hx hb d_Bx_firstShortDay_80 ?_
  refine hb_ti 0 (by decide +kernel) ?_
  refine lv_if_ge (tgt := 87) hx hb d_Bx_firstShortDay_81 (by decide) (fun _ => ?_) (fun h => absurd (by decide +kernel) h)
  refine lv_iinc (v := 21) (lv' := [(7, .int 21), (4, .long 0), (6, .int 2100), (2, .long 0), (0, .ref (a 12)), (1, .int 0)]) hx hb d_Bx_firstShortDay_87 hl (k := 2) rfl (by decide +kernel) (by decide) rfl (fun ls hl => ?_)
  refine lv_goto (tgt := 53) hx hb d_Bx_firstShortDay_90 (by decide) ?_
  refine lv_iload hx hb d_Bx_firstShortDay_53 (lv_at hl 0 rfl) ?_
  refine lv_bipush (v := 40) hx hb d_Bx_firstShortDay_55 (by decide +kernel) ?_
  refine lv_icmp_ge (tgt := 93) hx hb d_Bx_firstShortDay_57 (by decide) (fun h => absurd h (by decide +kernel)) (fun _ => ?_)
  refine lv_iinc (v := 2200) (lv' := [(6, .int 2200), (7, .int 21), (4, .long 0), (2, .long 0), (0, .ref (a 12)), (1, .int 0)]) hx hb d_Bx_firstShortDay_60 hl (k := 2) rfl (by decide +kernel) (by decide) rfl (fun ls hl => ?_)
  refine lv_lload hx hb d_Bx_firstShortDay_63 (lv_at hl 2 rfl) ?_
  refine lv_lload_n hx hb d_Bx_firstShortDay_65 rfl (lv_at hl 3 rfl) ?_
  refine lv_aload_n hx hb d_Bx_firstShortDay_66 rfl (lv_at hl 4 rfl) ?_
  refine lv_iload hx hb d_Bx_firstShortDay_67 (lv_at hl 0 rfl) ?_
  refine vp_callSi (va_Run.run (va_runV (As := [.int 2200]) (rest := [.long 0, .long 0]) ⟨hx, hb, hml, hown, htb⟩ (c_Bx_owedOn l dC dI a k L hL 2200) (cwV 1 htb (gd_V tw_113 tw_114 tw_115 tw_112 tw_111) rfl rfl rfl (by decide +kernel) ⟨Nat.le_of_ble_eq_true rfl, Nat.le_of_ble_eq_true rfl⟩) ⟨pr_blind, va_recv hK hP (ci := 5) (q0 := 12) rfl rfl, pr_pre hP hK hN⟩ rfl rfl hl.1 rfl (lv_room (Nat.le_of_ble_eq_true rfl)) d_Bx_firstShortDay_69 ⟨Nat.le_of_ble_eq_true rfl, Nat.le_of_ble_eq_true rfl⟩)) (fun r er => ?_)
  subst er
  refine hb_ti 0 rfl ?_
  refine lv_i2l hx hb d_Bx_firstShortDay_72 rfl ?_
  refine hb_tl 0 (by decide +kernel) ?_
  refine lv_lsub hx hb d_Bx_firstShortDay_73 ?_
  refine hb_tl 0 (by decide +kernel) ?_
  refine lv_ladd hx hb d_Bx_firstShortDay_74 ?_
  refine hb_tl 0 (by decide +kernel) ?_
  refine lv_lstore (lv' := [(4, .long 0), (6, .int 2200), (7, .int 21), (2, .long 0), (0, .ref (a 12)), (1, .int 0)]) hx hb d_Bx_firstShortDay_75 hl (by decide) rfl (fun ls hl => ?_)
  refine lv_lload hx hb d_Bx_firstShortDay_77 (lv_at hl 0 rfl) ?_
  refine lv_lconst (v := 0) hx hb d_Bx_firstShortDay_79 (by decide +kernel) ?_
  refine W.lcmp hx hb d_Bx_firstShortDay_80 ?_
  refine hb_ti 0 (by decide +kernel) ?_
  refine lv_if_ge (tgt := 87) hx hb d_Bx_firstShortDay_81 (by decide) (fun _ => ?_) (fun h => absurd (by decide +kernel) h)
  refine lv_iinc (v := 22) (lv' := [(7, .int 22), (4, .long 0), (6, .int 2200), (2, .long 0), (0, .ref (a 12)), (1, .int 0)]) hx hb d_Bx_firstShortDay_87 hl (k := 2) rfl (by decide +kernel) (by decide) rfl (fun ls hl => ?_)
  refine lv_goto (tgt := 53) hx hb d_Bx_firstShortDay_90 (by decide) ?_
  refine lv_iload hx hb d_Bx_firstShortDay_53 (lv_at hl 0 rfl) ?_
  refine lv_bipush (v := 40) hx hb d_Bx_firstShortDay_55 (by decide +kernel) ?_
  refine lv_icmp_ge (tgt := 93) hx hb d_Bx_firstShortDay_57 (by decide) (fun h => absurd h (by decide +kernel)) (fun _ => ?_)
  refine lv_iinc (v := 2300) (lv' := [(6, .int 2300), (7, .int 22), (4, .long 0), (2, .long 0), (0, .ref (a 12)), (1, .int 0)]) hx hb d_Bx_firstShortDay_60 hl (k := 2) rfl (by decide +kernel) (by decide) rfl (fun ls hl => ?_)
  refine lv_lload hx hb d_Bx_firstShortDay_63 (lv_at hl 2 rfl) ?_
  refine lv_lload_n hx hb d_Bx_firstShortDay_65 rfl (lv_at hl 3 rfl) ?_
  refine lv_aload_n hx hb d_Bx_firstShortDay_66 rfl (lv_at hl 4 rfl) ?_
  refine lv_iload hx hb d_Bx_firstShortDay_67 (lv_at hl 0 rfl) ?_
  refine vp_callSi (va_Run.run (va_runV (As := [.int 2300]) (rest := [.long 0, .long 0]) ⟨hx, hb, hml, hown, htb⟩ (c_Bx_owedOn l dC dI a k L hL 2300) (cwV 1 htb (gd_V tw_113 tw_114 tw_115 tw_112 tw_111) rfl rfl rfl (by decide +kernel) ⟨Nat.le_of_ble_eq_true rfl, Nat.le_of_ble_eq_true rfl⟩) ⟨pr_blind, va_recv hK hP (ci := 5) (q0 := 12) rfl rfl, pr_pre hP hK hN⟩ rfl rfl hl.1 rfl (lv_room (Nat.le_of_ble_eq_true rfl)) d_Bx_firstShortDay_69 ⟨Nat.le_of_ble_eq_true rfl, Nat.le_of_ble_eq_true rfl⟩)) (fun r er => ?_)
  subst er
  refine hb_ti 0 rfl ?_
  refine lv_i2l hx hb d_Bx_firstShortDay_72 rfl ?_
  refine hb_tl 0 (by decide +kernel) ?_
  refine lv_lsub hx hb d_Bx_firstShortDay_73 ?_
  refine hb_tl 0 (by decide +kernel) ?_
  refine lv_ladd hx hb d_Bx_firstShortDay_74 ?_
  refine hb_tl 0 (by decide +kernel) ?_
  refine lv_lstore (lv' := [(4, .long 0), (6, .int 2300), (7, .int 22), (2, .long 0), (0, .ref (a 12)), (1, .int 0)]) hx hb d_Bx_firstShortDay_75 hl (by decide) rfl (fun ls hl => ?_)
  refine lv_lload hx hb d_Bx_firstShortDay_77 (lv_at hl 0 rfl) ?_
  refine lv_lconst (v := 0) hx hb d_Bx_firstShortDay_79 (by decide +kernel) ?_
  refine W.lcmp hx hb d_Bx_firstShortDay_80 ?_
  refine hb_ti 0 (by decide +kernel) ?_
  refine lv_if_ge (tgt := 87) hx hb d_Bx_firstShortDay_81 (by decide) (fun _ => ?_) (fun h => absurd (by decide +kernel) h)
  refine lv_iinc (v := 23) (lv' := [(7, .int 23), (4, .long 0), (6, .int 2300), (2, .long 0), (0, .ref (a 12)), (1, .int 0)]) hx hb d_Bx_firstShortDay_87 hl (k := 2) rfl (by decide +kernel) (by decide) rfl (fun ls hl => ?_)
  refine lv_goto (tgt := 53) hx hb d_Bx_firstShortDay_90 (by decide) ?_
  refine lv_iload hx hb d_Bx_firstShortDay_53 (lv_at hl 0 rfl) ?_
  refine lv_bipush (v := 40) hx hb d_Bx_firstShortDay_55 (by decide +kernel) ?_
  refine lv_icmp_ge (tgt := 93) hx hb d_Bx_firstShortDay_57 (by decide) (fun h => absurd h (by decide +kernel)) (fun _ => ?_)
  refine lv_iinc (v := 2400) (lv' := [(6, .int 2400), (7, .int 23), (4, .long 0), (2, .long 0), (0, .ref (a 12)), (1, .int 0)]) hx hb d_Bx_firstShortDay_60 hl (k := 2) rfl (by decide +kernel) (by decide) rfl (fun ls hl => ?_)
  refine lv_lload hx hb d_Bx_firstShortDay_63 (lv_at hl 2 rfl) ?_
  refine lv_lload_n hx hb d_Bx_firstShortDay_65 rfl (lv_at hl 3 rfl) ?_
  refine lv_aload_n hx hb d_Bx_firstShortDay_66 rfl (lv_at hl 4 rfl) ?_
  refine lv_iload hx hb d_Bx_firstShortDay_67 (lv_at hl 0 rfl) ?_
  refine vp_callSi (va_Run.run (va_runV (As := [.int 2400]) (rest := [.long 0, .long 0]) ⟨hx, hb, hml, hown, htb⟩ (c_Bx_owedOn l dC dI a k L hL 2400) (cwV 1 htb (gd_V tw_113 tw_114 tw_115 tw_112 tw_111) rfl rfl rfl (by decide +kernel) ⟨Nat.le_of_ble_eq_true rfl, Nat.le_of_ble_eq_true rfl⟩) ⟨pr_blind, va_recv hK hP (ci := 5) (q0 := 12) rfl rfl, pr_pre hP hK hN⟩ rfl rfl hl.1 rfl (lv_room (Nat.le_of_ble_eq_true rfl)) d_Bx_firstShortDay_69 ⟨Nat.le_of_ble_eq_true rfl, Nat.le_of_ble_eq_true rfl⟩)) (fun r er => ?_)
  subst er
  refine hb_ti 0 rfl ?_
  refine lv_i2l hx hb d_Bx_firstShortDay_72 rfl ?_
  refine hb_tl 0 (by decide +kernel) ?_
  refine lv_lsub hx hb d_Bx_firstShortDay_73 ?_
  refine hb_tl 0 (by decide +kernel) ?_
  refine lv_ladd hx hb d_Bx_firstShortDay_74 ?_
  refine hb_tl 0 (by decide +kernel) ?_
  refine lv_lstore (lv' := [(4, .long 0), (6, .int 2400), (7, .int 23), (2, .long 0), (0, .ref (a 12)), (1, .int 0)]) hx hb d_Bx_firstShortDay_75 hl (by decide) rfl (fun ls hl => ?_)
  refine lv_lload hx hb d_Bx_firstShortDay_77 (lv_at hl 0 rfl) ?_
  refine lv_lconst (v := 0) hx hb d_Bx_firstShortDay_79 (by decide +kernel) ?_
  refine W.lcmp hx hb d_Bx_firstShortDay_80 ?_
  refine hb_ti 0 (by decide +kernel) ?_
  refine lv_if_ge (tgt := 87) hx hb d_Bx_firstShortDay_81 (by decide) (fun _ => ?_) (fun h => absurd (by decide +kernel) h)
  refine lv_iinc (v := 24) (lv' := [(7, .int 24), (4, .long 0), (6, .int 2400), (2, .long 0), (0, .ref (a 12)), (1, .int 0)]) hx hb d_Bx_firstShortDay_87 hl (k := 2) rfl (by decide +kernel) (by decide) rfl (fun ls hl => ?_)
  refine lv_goto (tgt := 53) hx hb d_Bx_firstShortDay_90 (by decide) ?_
  refine lv_iload hx hb d_Bx_firstShortDay_53 (lv_at hl 0 rfl) ?_
  refine lv_bipush (v := 40) hx hb d_Bx_firstShortDay_55 (by decide +kernel) ?_
  refine lv_icmp_ge (tgt := 93) hx hb d_Bx_firstShortDay_57 (by decide) (fun h => absurd h (by decide +kernel)) (fun _ => ?_)
  refine lv_iinc (v := 2500) (lv' := [(6, .int 2500), (7, .int 24), (4, .long 0), (2, .long 0), (0, .ref (a 12)), (1, .int 0)]) hx hb d_Bx_firstShortDay_60 hl (k := 2) rfl (by decide +kernel) (by decide) rfl (fun ls hl => ?_)
  refine lv_lload hx hb d_Bx_firstShortDay_63 (lv_at hl 2 rfl) ?_
  refine lv_lload_n hx hb d_Bx_firstShortDay_65 rfl (lv_at hl 3 rfl) ?_
  refine lv_aload_n hx hb d_Bx_firstShortDay_66 rfl (lv_at hl 4 rfl) ?_
  refine lv_iload hx hb d_Bx_firstShortDay_67 (lv_at hl 0 rfl) ?_
  refine vp_callSi (va_Run.run (va_runV (As := [.int 2500]) (rest := [.long 0, .long 0]) ⟨hx, hb, hml, hown, htb⟩ (c_Bx_owedOn l dC dI a k L hL 2500) (cwV 1 htb (gd_V tw_113 tw_114 tw_115 tw_112 tw_111) rfl rfl rfl (by decide +kernel) ⟨Nat.le_of_ble_eq_true rfl, Nat.le_of_ble_eq_true rfl⟩) ⟨pr_blind, va_recv hK hP (ci := 5) (q0 := 12) rfl rfl, pr_pre hP hK hN⟩ rfl rfl hl.1 rfl (lv_room (Nat.le_of_ble_eq_true rfl)) d_Bx_firstShortDay_69 ⟨Nat.le_of_ble_eq_true rfl, Nat.le_of_ble_eq_true rfl⟩)) (fun r er => ?_)
  subst er
  refine hb_ti 0 rfl ?_
  refine lv_i2l hx hb d_Bx_firstShortDay_72 rfl ?_
  refine hb_tl 0 (by decide +kernel) ?_
  refine lv_lsub hx hb d_Bx_firstShortDay_73 ?_
  refine hb_tl 0 (by decide +kernel) ?_
  refine lv_ladd hx hb d_Bx_firstShortDay_74 ?_
  refine hb_tl 0 (by decide +kernel) ?_
  refine lv_lstore (lv' := [(4, .long 0), (6, .int 2500), (7, .int 24), (2, .long 0), (0, .ref (a 12)), (1, .int 0)]) hx hb d_Bx_firstShortDay_75 hl (by decide) rfl (fun ls hl => ?_)
  refine lv_lload hx hb d_Bx_firstShortDay_77 (lv_at hl 0 rfl) ?_
  refine lv_lconst (v := 0) hx hb d_Bx_firstShortDay_79 (by decide +kernel) ?_
  refine W.lcmp hx hb d_Bx_firstShortDay_80 ?_
  refine hb_ti 0 (by decide +kernel) ?_
  refine lv_if_ge (tgt := 87) hx hb d_Bx_firstShortDay_81 (by decide) (fun _ => ?_) (fun h => absurd (by decide +kernel) h)
  refine lv_iinc (v := 25) (lv' := [(7, .int 25), (4, .long 0), (6, .int 2500), (2, .long 0), (0, .ref (a 12)), (1, .int 0)]) hx hb d_Bx_firstShortDay_87 hl (k := 2) rfl (by decide +kernel) (by decide) rfl (fun ls hl => ?_)
  refine lv_goto (tgt := 53) hx hb d_Bx_firstShortDay_90 (by decide) ?_
  refine lv_iload hx hb d_Bx_firstShortDay_53 (lv_at hl 0 rfl) ?_
  refine lv_bipush (v := 40) hx hb d_Bx_firstShortDay_55 (by decide +kernel) ?_
  refine lv_icmp_ge (tgt := 93) hx hb d_Bx_firstShortDay_57 (by decide) (fun h => absurd h (by decide +kernel)) (fun _ => ?_)
  refine lv_iinc (v := 2600) (lv' := [(6, .int 2600), (7, .int 25), (4, .long 0), (2, .long 0), (0, .ref (a 12)), (1, .int 0)]) hx hb d_Bx_firstShortDay_60 hl (k := 2) rfl (by decide +kernel) (by decide) rfl (fun ls hl => ?_)
  refine lv_lload hx hb d_Bx_firstShortDay_63 (lv_at hl 2 rfl) ?_
  refine lv_lload_n hx hb d_Bx_firstShortDay_65 rfl (lv_at hl 3 rfl) ?_
  refine lv_aload_n hx hb d_Bx_firstShortDay_66 rfl (lv_at hl 4 rfl) ?_
  refine lv_iload hx hb d_Bx_firstShortDay_67 (lv_at hl 0 rfl) ?_
  refine vp_callSi (va_Run.run (va_runV (As := [.int 2600]) (rest := [.long 0, .long 0]) ⟨hx, hb, hml, hown, htb⟩ (c_Bx_owedOn l dC dI a k L hL 2600) (cwV 1 htb (gd_V tw_113 tw_114 tw_115 tw_112 tw_111) rfl rfl rfl (by decide +kernel) ⟨Nat.le_of_ble_eq_true rfl, Nat.le_of_ble_eq_true rfl⟩) ⟨pr_blind, va_recv hK hP (ci := 5) (q0 := 12) rfl rfl, pr_pre hP hK hN⟩ rfl rfl hl.1 rfl (lv_room (Nat.le_of_ble_eq_true rfl)) d_Bx_firstShortDay_69 ⟨Nat.le_of_ble_eq_true rfl, Nat.le_of_ble_eq_true rfl⟩)) (fun r er => ?_)
  subst er
  refine hb_ti 0 rfl ?_
  refine lv_i2l hx hb d_Bx_firstShortDay_72 rfl ?_
  refine hb_tl 0 (by decide +kernel) ?_
  refine lv_lsub hx hb d_Bx_firstShortDay_73 ?_
  refine hb_tl 0 (by decide +kernel) ?_
  refine lv_ladd hx hb d_Bx_firstShortDay_74 ?_
  refine hb_tl 0 (by decide +kernel) ?_
  refine lv_lstore (lv' := [(4, .long 0), (6, .int 2600), (7, .int 25), (2, .long 0), (0, .ref (a 12)), (1, .int 0)]) hx hb d_Bx_firstShortDay_75 hl (by decide) rfl (fun ls hl => ?_)
  refine lv_lload hx hb d_Bx_firstShortDay_77 (lv_at hl 0 rfl) ?_
  refine lv_lconst (v := 0) hx hb d_Bx_firstShortDay_79 (by decide +kernel) ?_
  refine W.lcmp hx hb d_Bx_firstShortDay_80 ?_
  refine hb_ti 0 (by decide +kernel) ?_
  refine lv_if_ge (tgt := 87) hx hb d_Bx_firstShortDay_81 (by decide) (fun _ => ?_) (fun h => absurd (by decide +kernel) h)
  refine lv_iinc (v := 26) (lv' := [(7, .int 26), (4, .long 0), (6, .int 2600), (2, .long 0), (0, .ref (a 12)), (1, .int 0)]) hx hb d_Bx_firstShortDay_87 hl (k := 2) rfl (by decide +kernel) (by decide) rfl (fun ls hl => ?_)
  refine lv_goto (tgt := 53) hx hb d_Bx_firstShortDay_90 (by decide) ?_
  refine lv_iload hx hb d_Bx_firstShortDay_53 (lv_at hl 0 rfl) ?_
  refine lv_bipush (v := 40) hx hb d_Bx_firstShortDay_55 (by decide +kernel) ?_
  refine lv_icmp_ge (tgt := 93) hx hb d_Bx_firstShortDay_57 (by decide) (fun h => absurd h (by decide +kernel)) (fun _ => ?_)
  refine lv_iinc (v := 2700) (lv' := [(6, .int 2700), (7, .int 26), (4, .long 0), (2, .long 0), (0, .ref (a 12)), (1, .int 0)]) hx hb d_Bx_firstShortDay_60 hl (k := 2) rfl (by decide +kernel) (by decide) rfl (fun ls hl => ?_)
  refine lv_lload hx hb d_Bx_firstShortDay_63 (lv_at hl 2 rfl) ?_
  refine lv_lload_n hx hb d_Bx_firstShortDay_65 rfl (lv_at hl 3 rfl) ?_
  refine lv_aload_n hx hb d_Bx_firstShortDay_66 rfl (lv_at hl 4 rfl) ?_
  refine lv_iload hx hb d_Bx_firstShortDay_67 (lv_at hl 0 rfl) ?_
  refine vp_callSi (va_Run.run (va_runV (As := [.int 2700]) (rest := [.long 0, .long 0]) ⟨hx, hb, hml, hown, htb⟩ (c_Bx_owedOn l dC dI a k L hL 2700) (cwV 1 htb (gd_V tw_113 tw_114 tw_115 tw_112 tw_111) rfl rfl rfl (by decide +kernel) ⟨Nat.le_of_ble_eq_true rfl, Nat.le_of_ble_eq_true rfl⟩) ⟨pr_blind, va_recv hK hP (ci := 5) (q0 := 12) rfl rfl, pr_pre hP hK hN⟩ rfl rfl hl.1 rfl (lv_room (Nat.le_of_ble_eq_true rfl)) d_Bx_firstShortDay_69 ⟨Nat.le_of_ble_eq_true rfl, Nat.le_of_ble_eq_true rfl⟩)) (fun r er => ?_)
  subst er
  refine hb_ti 0 rfl ?_
  refine lv_i2l hx hb d_Bx_firstShortDay_72 rfl ?_
  refine hb_tl 0 (by decide +kernel) ?_
  refine lv_lsub hx hb d_Bx_firstShortDay_73 ?_
  refine hb_tl 0 (by decide +kernel) ?_
  refine lv_ladd hx hb d_Bx_firstShortDay_74 ?_
  refine hb_tl 0 (by decide +kernel) ?_
  refine lv_lstore (lv' := [(4, .long 0), (6, .int 2700), (7, .int 26), (2, .long 0), (0, .ref (a 12)), (1, .int 0)]) hx hb d_Bx_firstShortDay_75 hl (by decide) rfl (fun ls hl => ?_)
  refine lv_lload hx hb d_Bx_firstShortDay_77 (lv_at hl 0 rfl) ?_
  refine lv_lconst (v := 0) hx hb d_Bx_firstShortDay_79 (by decide +kernel) ?_
  refine W.lcmp hx hb d_Bx_firstShortDay_80 ?_
  refine hb_ti 0 (by decide +kernel) ?_
  refine lv_if_ge (tgt := 87) hx hb d_Bx_firstShortDay_81 (by decide) (fun _ => ?_) (fun h => absurd (by decide +kernel) h)
  refine lv_iinc (v := 27) (lv' := [(7, .int 27), (4, .long 0), (6, .int 2700), (2, .long 0), (0, .ref (a 12)), (1, .int 0)]) hx hb d_Bx_firstShortDay_87 hl (k := 2) rfl (by decide +kernel) (by decide) rfl (fun ls hl => ?_)
  refine lv_goto (tgt := 53) hx hb d_Bx_firstShortDay_90 (by decide) ?_
  refine lv_iload hx hb d_Bx_firstShortDay_53 (lv_at hl 0 rfl) ?_
  refine lv_bipush (v := 40) hx hb d_Bx_firstShortDay_55 (by decide +kernel) ?_
  refine lv_icmp_ge (tgt := 93) hx hb d_Bx_firstShortDay_57 (by decide) (fun h => absurd h (by decide +kernel)) (fun _ => ?_)
  refine lv_iinc (v := 2800) (lv' := [(6, .int 2800), (7, .int 27), (4, .long 0), (2, .long 0), (0, .ref (a 12)), (1, .int 0)]) hx hb d_Bx_firstShortDay_60 hl (k := 2) rfl (by decide +kernel) (by decide) rfl (fun ls hl => ?_)
  refine lv_lload hx hb d_Bx_firstShortDay_63 (lv_at hl 2 rfl) ?_
  refine lv_lload_n hx hb d_Bx_firstShortDay_65 rfl (lv_at hl 3 rfl) ?_
  refine lv_aload_n hx hb d_Bx_firstShortDay_66 rfl (lv_at hl 4 rfl) ?_
  refine lv_iload hx hb d_Bx_firstShortDay_67 (lv_at hl 0 rfl) ?_
  refine vp_callSi (va_Run.run (va_runV (As := [.int 2800]) (rest := [.long 0, .long 0]) ⟨hx, hb, hml, hown, htb⟩ (c_Bx_owedOn l dC dI a k L hL 2800) (cwV 1 htb (gd_V tw_113 tw_114 tw_115 tw_112 tw_111) rfl rfl rfl (by decide +kernel) ⟨Nat.le_of_ble_eq_true rfl, Nat.le_of_ble_eq_true rfl⟩) ⟨pr_blind, va_recv hK hP (ci := 5) (q0 := 12) rfl rfl, pr_pre hP hK hN⟩ rfl rfl hl.1 rfl (lv_room (Nat.le_of_ble_eq_true rfl)) d_Bx_firstShortDay_69 ⟨Nat.le_of_ble_eq_true rfl, Nat.le_of_ble_eq_true rfl⟩)) (fun r er => ?_)
  subst er
  refine hb_ti 0 rfl ?_
  refine lv_i2l hx hb d_Bx_firstShortDay_72 rfl ?_
  refine hb_tl 0 (by decide +kernel) ?_
  refine lv_lsub hx hb d_Bx_firstShortDay_73 ?_
  refine hb_tl 0 (by decide +kernel) ?_
  refine lv_ladd hx hb d_Bx_firstShortDay_74 ?_
  refine hb_tl 0 (by decide +kernel) ?_
  refine lv_lstore (lv' := [(4, .long 0), (6, .int 2800), (7, .int 27), (2, .long 0), (0, .ref (a 12)), (1, .int 0)]) hx hb d_Bx_firstShortDay_75 hl (by decide) rfl (fun ls hl => ?_)
  refine lv_lload hx hb d_Bx_firstShortDay_77 (lv_at hl 0 rfl) ?_
  refine lv_lconst (v := 0) hx hb d_Bx_firstShortDay_79 (by decide +kernel) ?_
  refine W.lcmp hx hb d_Bx_firstShortDay_80 ?_
  refine hb_ti 0 (by decide +kernel) ?_
  refine lv_if_ge (tgt := 87) hx hb d_Bx_firstShortDay_81 (by decide) (fun _ => ?_) (fun h => absurd (by decide +kernel) h)
  refine lv_iinc (v := 28) (lv' := [(7, .int 28), (4, .long 0), (6, .int 2800), (2, .long 0), (0, .ref (a 12)), (1, .int 0)]) hx hb d_Bx_firstShortDay_87 hl (k := 2) rfl (by decide +kernel) (by decide) rfl (fun ls hl => ?_)
  refine lv_goto (tgt := 53) hx hb d_Bx_firstShortDay_90 (by decide) ?_
  refine lv_iload hx hb d_Bx_firstShortDay_53 (lv_at hl 0 rfl) ?_
  refine lv_bipush (v := 40) hx hb d_Bx_firstShortDay_55 (by decide +kernel) ?_
  refine lv_icmp_ge (tgt := 93) hx hb d_Bx_firstShortDay_57 (by decide) (fun h => absurd h (by decide +kernel)) (fun _ => ?_)
  refine lv_iinc (v := 2900) (lv' := [(6, .int 2900), (7, .int 28), (4, .long 0), (2, .long 0), (0, .ref (a 12)), (1, .int 0)]) hx hb d_Bx_firstShortDay_60 hl (k := 2) rfl (by decide +kernel) (by decide) rfl (fun ls hl => ?_)
  refine lv_lload hx hb d_Bx_firstShortDay_63 (lv_at hl 2 rfl) ?_
  refine lv_lload_n hx hb d_Bx_firstShortDay_65 rfl (lv_at hl 3 rfl) ?_
  refine lv_aload_n hx hb d_Bx_firstShortDay_66 rfl (lv_at hl 4 rfl) ?_
  refine lv_iload hx hb d_Bx_firstShortDay_67 (lv_at hl 0 rfl) ?_
  refine vp_callSi (va_Run.run (va_runV (As := [.int 2900]) (rest := [.long 0, .long 0]) ⟨hx, hb, hml, hown, htb⟩ (c_Bx_owedOn l dC dI a k L hL 2900) (cwV 1 htb (gd_V tw_113 tw_114 tw_115 tw_112 tw_111) rfl rfl rfl (by decide +kernel) ⟨Nat.le_of_ble_eq_true rfl, Nat.le_of_ble_eq_true rfl⟩) ⟨pr_blind, va_recv hK hP (ci := 5) (q0 := 12) rfl rfl, pr_pre hP hK hN⟩ rfl rfl hl.1 rfl (lv_room (Nat.le_of_ble_eq_true rfl)) d_Bx_firstShortDay_69 ⟨Nat.le_of_ble_eq_true rfl, Nat.le_of_ble_eq_true rfl⟩)) (fun r er => ?_)
  subst er
  refine hb_ti 0 rfl ?_
  refine lv_i2l hx hb d_Bx_firstShortDay_72 rfl ?_
  refine hb_tl 0 (by decide +kernel) ?_
  refine lv_lsub hx hb d_Bx_firstShortDay_73 ?_
  refine hb_tl 0 (by decide +kernel) ?_
  refine lv_ladd hx hb d_Bx_firstShortDay_74 ?_
  refine hb_tl 0 (by decide +kernel) ?_
  refine lv_lstore (lv' := [(4, .long 0), (6, .int 2900), (7, .int 28), (2, .long 0), (0, .ref (a 12)), (1, .int 0)]) hx hb d_Bx_firstShortDay_75 hl (by decide) rfl (fun ls hl => ?_)
  refine lv_lload hx hb d_Bx_firstShortDay_77 (lv_at hl 0 rfl) ?_
  refine lv_lconst (v := 0) hx hb d_Bx_firstShortDay_79 (by decide +kernel) ?_
  refine W.lcmp hx hb d_Bx_firstShortDay_80 ?_
  refine hb_ti 0 (by decide +kernel) ?_
  refine lv_if_ge (tgt := 87) hx hb d_Bx_firstShortDay_81 (by decide) (fun _ => ?_) (fun h => absurd (by decide +kernel) h)
  refine lv_iinc (v := 29) (lv' := [(7, .int 29), (4, .long 0), (6, .int 2900), (2, .long 0), (0, .ref (a 12)), (1, .int 0)]) hx hb d_Bx_firstShortDay_87 hl (k := 2) rfl (by decide +kernel) (by decide) rfl (fun ls hl => ?_)
  refine lv_goto (tgt := 53) hx hb d_Bx_firstShortDay_90 (by decide) ?_
  refine lv_iload hx hb d_Bx_firstShortDay_53 (lv_at hl 0 rfl) ?_
  refine lv_bipush (v := 40) hx hb d_Bx_firstShortDay_55 (by decide +kernel) ?_
  refine lv_icmp_ge (tgt := 93) hx hb d_Bx_firstShortDay_57 (by decide) (fun h => absurd h (by decide +kernel)) (fun _ => ?_)
  refine lv_iinc (v := 3000) (lv' := [(6, .int 3000), (7, .int 29), (4, .long 0), (2, .long 0), (0, .ref (a 12)), (1, .int 0)]) hx hb d_Bx_firstShortDay_60 hl (k := 2) rfl (by decide +kernel) (by decide) rfl (fun ls hl => ?_)
  refine lv_lload hx hb d_Bx_firstShortDay_63 (lv_at hl 2 rfl) ?_
  refine lv_lload_n hx hb d_Bx_firstShortDay_65 rfl (lv_at hl 3 rfl) ?_
  refine lv_aload_n hx hb d_Bx_firstShortDay_66 rfl (lv_at hl 4 rfl) ?_
  refine lv_iload hx hb d_Bx_firstShortDay_67 (lv_at hl 0 rfl) ?_
  refine vp_callSi (va_Run.run (va_runV (As := [.int 3000]) (rest := [.long 0, .long 0]) ⟨hx, hb, hml, hown, htb⟩ (c_Bx_owedOn l dC dI a k L hL 3000) (cwV 1 htb (gd_V tw_113 tw_114 tw_115 tw_112 tw_111) rfl rfl rfl (by decide +kernel) ⟨Nat.le_of_ble_eq_true rfl, Nat.le_of_ble_eq_true rfl⟩) ⟨pr_blind, va_recv hK hP (ci := 5) (q0 := 12) rfl rfl, pr_pre hP hK hN⟩ rfl rfl hl.1 rfl (lv_room (Nat.le_of_ble_eq_true rfl)) d_Bx_firstShortDay_69 ⟨Nat.le_of_ble_eq_true rfl, Nat.le_of_ble_eq_true rfl⟩)) (fun r er => ?_)
  subst er
  refine hb_ti 0 rfl ?_
  refine lv_i2l hx hb d_Bx_firstShortDay_72 rfl ?_
  refine hb_tl 0 (by decide +kernel) ?_
  refine lv_lsub hx hb d_Bx_firstShortDay_73 ?_
  refine hb_tl 0 (by decide +kernel) ?_
  refine lv_ladd hx hb d_Bx_firstShortDay_74 ?_
  refine hb_tl 0 (by decide +kernel) ?_
  refine lv_lstore (lv' := [(4, .long 0), (6, .int 3000), (7, .int 29), (2, .long 0), (0, .ref (a 12)), (1, .int 0)]) hx hb d_Bx_firstShortDay_75 hl (by decide) rfl (fun ls hl => ?_)
  refine lv_lload hx hb d_Bx_firstShortDay_77 (lv_at hl 0 rfl) ?_
  refine lv_lconst (v := 0) hx hb d_Bx_firstShortDay_79 (by decide +kernel) ?_
  refine W.lcmp hx hb d_Bx_firstShortDay_80 ?_
  refine hb_ti 0 (by decide +kernel) ?_
  refine lv_if_ge (tgt := 87) hx hb d_Bx_firstShortDay_81 (by decide) (fun _ => ?_) (fun h => absurd (by decide +kernel) h)
  refine lv_iinc (v := 30) (lv' := [(7, .int 30), (4, .long 0), (6, .int 3000), (2, .long 0), (0, .ref (a 12)), (1, .int 0)]) hx hb d_Bx_firstShortDay_87 hl (k := 2) rfl (by decide +kernel) (by decide) rfl (fun ls hl => ?_)
  refine lv_goto (tgt := 53) hx hb d_Bx_firstShortDay_90 (by decide) ?_
  refine lv_iload hx hb d_Bx_firstShortDay_53 (lv_at hl 0 rfl) ?_
  refine lv_bipush (v := 40) hx hb d_Bx_firstShortDay_55 (by decide +kernel) ?_
  refine lv_icmp_ge (tgt := 93) hx hb d_Bx_firstShortDay_57 (by decide) (fun h => absurd h (by decide +kernel)) (fun _ => ?_)
  refine lv_iinc (v := 3100) (lv' := [(6, .int 3100), (7, .int 30), (4, .long 0), (2, .long 0), (0, .ref (a 12)), (1, .int 0)]) hx hb d_Bx_firstShortDay_60 hl (k := 2) rfl (by decide +kernel) (by decide) rfl (fun ls hl => ?_)
  refine lv_lload hx hb d_Bx_firstShortDay_63 (lv_at hl 2 rfl) ?_
  refine lv_lload_n hx hb d_Bx_firstShortDay_65 rfl (lv_at hl 3 rfl) ?_
  refine lv_aload_n hx hb d_Bx_firstShortDay_66 rfl (lv_at hl 4 rfl) ?_
  refine lv_iload hx hb d_Bx_firstShortDay_67 (lv_at hl 0 rfl) ?_
  refine vp_callSi (va_Run.run (va_runV (As := [.int 3100]) (rest := [.long 0, .long 0]) ⟨hx, hb, hml, hown, htb⟩ (c_Bx_owedOn l dC dI a k L hL 3100) (cwV 1 htb (gd_V tw_113 tw_114 tw_115 tw_112 tw_111) rfl rfl rfl (by decide +kernel) ⟨Nat.le_of_ble_eq_true rfl, Nat.le_of_ble_eq_true rfl⟩) ⟨pr_blind, va_recv hK hP (ci := 5) (q0 := 12) rfl rfl, pr_pre hP hK hN⟩ rfl rfl hl.1 rfl (lv_room (Nat.le_of_ble_eq_true rfl)) d_Bx_firstShortDay_69 ⟨Nat.le_of_ble_eq_true rfl, Nat.le_of_ble_eq_true rfl⟩)) (fun r er => ?_)
  subst er
  refine hb_ti 0 rfl ?_
  refine lv_i2l hx hb d_Bx_firstShortDay_72 rfl ?_
  refine hb_tl 0 (by decide +kernel) ?_
  refine lv_lsub hx hb d_Bx_firstShortDay_73 ?_
  refine hb_tl 0 (by decide +kernel) ?_
  refine lv_ladd hx hb d_Bx_firstShortDay_74 ?_
  refine hb_tl 0 (by decide +kernel) ?_
  refine lv_lstore (lv' := [(4, .long 0), (6, .int 3100), (7, .int 30), (2, .long 0), (0, .ref (a 12)), (1, .int 0)]) hx hb d_Bx_firstShortDay_75 hl (by decide) rfl (fun ls hl => ?_)
  refine lv_lload hx hb d_Bx_firstShortDay_77 (lv_at hl 0 rfl) ?_
  refine lv_lconst (v := 0) hx hb d_Bx_firstShortDay_79 (by decide +kernel) ?_
  refine W.lcmp hx hb d_Bx_firstShortDay_80 ?_
  refine hb_ti 0 (by decide +kernel) ?_
  refine lv_if_ge (tgt := 87) hx hb d_Bx_firstShortDay_81 (by decide) (fun _ => ?_) (fun h => absurd (by decide +kernel) h)
  refine lv_iinc (v := 31) (lv' := [(7, .int 31), (4, .long 0), (6, .int 3100), (2, .long 0), (0, .ref (a 12)), (1, .int 0)]) hx hb d_Bx_firstShortDay_87 hl (k := 2) rfl (by decide +kernel) (by decide) rfl (fun ls hl => ?_)
  refine lv_goto (tgt := 53) hx hb d_Bx_firstShortDay_90 (by decide) ?_
  refine lv_iload hx hb d_Bx_firstShortDay_53 (lv_at hl 0 rfl) ?_
  refine lv_bipush (v := 40) hx hb d_Bx_firstShortDay_55 (by decide +kernel) ?_
  refine lv_icmp_ge (tgt := 93) hx hb d_Bx_firstShortDay_57 (by decide) (fun h => absurd h (by decide +kernel)) (fun _ => ?_)
  refine lv_iinc (v := 3200) (lv' := [(6, .int 3200), (7, .int 31), (4, .long 0), (2, .long 0), (0, .ref (a 12)), (1, .int 0)]) hx hb d_Bx_firstShortDay_60 hl (k := 2) rfl (by decide +kernel) (by decide) rfl (fun ls hl => ?_)
  refine lv_lload hx hb d_Bx_firstShortDay_63 (lv_at hl 2 rfl) ?_
  refine lv_lload_n hx hb d_Bx_firstShortDay_65 rfl (lv_at hl 3 rfl) ?_
  refine lv_aload_n hx hb d_Bx_firstShortDay_66 rfl (lv_at hl 4 rfl) ?_
  refine lv_iload hx hb d_Bx_firstShortDay_67 (lv_at hl 0 rfl) ?_
  refine vp_callSi (va_Run.run (va_runV (As := [.int 3200]) (rest := [.long 0, .long 0]) ⟨hx, hb, hml, hown, htb⟩ (c_Bx_owedOn l dC dI a k L hL 3200) (cwV 1 htb (gd_V tw_113 tw_114 tw_115 tw_112 tw_111) rfl rfl rfl (by decide +kernel) ⟨Nat.le_of_ble_eq_true rfl, Nat.le_of_ble_eq_true rfl⟩) ⟨pr_blind, va_recv hK hP (ci := 5) (q0 := 12) rfl rfl, pr_pre hP hK hN⟩ rfl rfl hl.1 rfl (lv_room (Nat.le_of_ble_eq_true rfl)) d_Bx_firstShortDay_69 ⟨Nat.le_of_ble_eq_true rfl, Nat.le_of_ble_eq_true rfl⟩)) (fun r er => ?_)
  subst er
  refine hb_ti 0 rfl ?_
  refine lv_i2l hx hb d_Bx_firstShortDay_72 rfl ?_
  refine hb_tl 0 (by decide +kernel) ?_
  refine lv_lsub hx hb d_Bx_firstShortDay_73 ?_
  refine hb_tl 0 (by decide +kernel) ?_
  refine lv_ladd hx hb d_Bx_firstShortDay_74 ?_
  refine hb_tl 0 (by decide +kernel) ?_
  refine lv_lstore (lv' := [(4, .long 0), (6, .int 3200), (7, .int 31), (2, .long 0), (0, .ref (a 12)), (1, .int 0)]) hx hb d_Bx_firstShortDay_75 hl (by decide) rfl (fun ls hl => ?_)
  refine lv_lload hx hb d_Bx_firstShortDay_77 (lv_at hl 0 rfl) ?_
  refine lv_lconst (v := 0) hx hb d_Bx_firstShortDay_79 (by decide +kernel) ?_
  refine W.lcmp hx hb d_Bx_firstShortDay_80 ?_
  refine hb_ti 0 (by decide +kernel) ?_
  refine lv_if_ge (tgt := 87) hx hb d_Bx_firstShortDay_81 (by decide) (fun _ => ?_) (fun h => absurd (by decide +kernel) h)
  refine lv_iinc (v := 32) (lv' := [(7, .int 32), (4, .long 0), (6, .int 3200), (2, .long 0), (0, .ref (a 12)), (1, .int 0)]) hx hb d_Bx_firstShortDay_87 hl (k := 2) rfl (by decide +kernel) (by decide) rfl (fun ls hl => ?_)
  refine lv_goto (tgt := 53) hx hb d_Bx_firstShortDay_90 (by decide) ?_
  refine lv_iload hx hb d_Bx_firstShortDay_53 (lv_at hl 0 rfl) ?_
  refine lv_bipush (v := 40) hx hb d_Bx_firstShortDay_55 (by decide +kernel) ?_
  refine lv_icmp_ge (tgt := 93) hx hb d_Bx_firstShortDay_57 (by decide) (fun h => absurd h (by decide +kernel)) (fun _ => ?_)
  refine lv_iinc (v := 3300) (lv' := [(6, .int 3300), (7, .int 32), (4, .long 0), (2, .long 0), (0, .ref (a 12)), (1, .int 0)]) hx hb d_Bx_firstShortDay_60 hl (k := 2) rfl (by decide +kernel) (by decide) rfl (fun ls hl => ?_)
  refine lv_lload hx hb d_Bx_firstShortDay_63 (lv_at hl 2 rfl) ?_
  refine lv_lload_n hx hb d_Bx_firstShortDay_65 rfl (lv_at hl 3 rfl) ?_
  refine lv_aload_n hx hb d_Bx_firstShortDay_66 rfl (lv_at hl 4 rfl) ?_
  refine lv_iload hx hb d_Bx_firstShortDay_67 (lv_at hl 0 rfl) ?_
  refine vp_callSi (va_Run.run (va_runV (As := [.int 3300]) (rest := [.long 0, .long 0]) ⟨hx, hb, hml, hown, htb⟩ (c_Bx_owedOn l dC dI a k L hL 3300) (cwV 1 htb (gd_V tw_113 tw_114 tw_115 tw_112 tw_111) rfl rfl rfl (by decide +kernel) ⟨Nat.le_of_ble_eq_true rfl, Nat.le_of_ble_eq_true rfl⟩) ⟨pr_blind, va_recv hK hP (ci := 5) (q0 := 12) rfl rfl, pr_pre hP hK hN⟩ rfl rfl hl.1 rfl (lv_room (Nat.le_of_ble_eq_true rfl)) d_Bx_firstShortDay_69 ⟨Nat.le_of_ble_eq_true rfl, Nat.le_of_ble_eq_true rfl⟩)) (fun r er => ?_)
  subst er
  refine hb_ti 0 rfl ?_
  refine lv_i2l hx hb d_Bx_firstShortDay_72 rfl ?_
  refine hb_tl 0 (by decide +kernel) ?_
  refine lv_lsub hx hb d_Bx_firstShortDay_73 ?_
  refine hb_tl 0 (by decide +kernel) ?_
  refine lv_ladd hx hb d_Bx_firstShortDay_74 ?_
  refine hb_tl 0 (by decide +kernel) ?_
  refine lv_lstore (lv' := [(4, .long 0), (6, .int 3300), (7, .int 32), (2, .long 0), (0, .ref (a 12)), (1, .int 0)]) hx hb d_Bx_firstShortDay_75 hl (by decide) rfl (fun ls hl => ?_)
  refine lv_lload hx hb d_Bx_firstShortDay_77 (lv_at hl 0 rfl) ?_
  refine lv_lconst (v := 0) hx hb d_Bx_firstShortDay_79 (by decide +kernel) ?_
  refine W.lcmp hx hb d_Bx_firstShortDay_80 ?_
  refine hb_ti 0 (by decide +kernel) ?_
  refine lv_if_ge (tgt := 87) hx hb d_Bx_firstShortDay_81 (by decide) (fun _ => ?_) (fun h => absurd (by decide +kernel) h)
  refine lv_iinc (v := 33) (lv' := [(7, .int 33), (4, .long 0), (6, .int 3300), (2, .long 0), (0, .ref (a 12)), (1, .int 0)]) hx hb d_Bx_firstShortDay_87 hl (k := 2) rfl (by decide +kernel) (by decide) rfl (fun ls hl => ?_)
  refine lv_goto (tgt := 53) hx hb d_Bx_firstShortDay_90 (by decide) ?_
  refine lv_iload hx hb d_Bx_firstShortDay_53 (lv_at hl 0 rfl) ?_
  refine lv_bipush (v := 40) hx hb d_Bx_firstShortDay_55 (by decide +kernel) ?_
  refine lv_icmp_ge (tgt := 93) hx hb d_Bx_firstShortDay_57 (by decide) (fun h => absurd h (by decide +kernel)) (fun _ => ?_)
  refine lv_iinc (v := 3400) (lv' := [(6, .int 3400), (7, .int 33), (4, .long 0), (2, .long 0), (0, .ref (a 12)), (1, .int 0)]) hx hb d_Bx_firstShortDay_60 hl (k := 2) rfl (by decide +kernel) (by decide) rfl (fun ls hl => ?_)
  refine lv_lload hx hb d_Bx_firstShortDay_63 (lv_at hl 2 rfl) ?_
  refine lv_lload_n hx hb d_Bx_firstShortDay_65 rfl (lv_at hl 3 rfl) ?_
  refine lv_aload_n hx hb d_Bx_firstShortDay_66 rfl (lv_at hl 4 rfl) ?_
  refine lv_iload hx hb d_Bx_firstShortDay_67 (lv_at hl 0 rfl) ?_
  refine vp_callSi (va_Run.run (va_runV (As := [.int 3400]) (rest := [.long 0, .long 0]) ⟨hx, hb, hml, hown, htb⟩ (c_Bx_owedOn l dC dI a k L hL 3400) (cwV 1 htb (gd_V tw_113 tw_114 tw_115 tw_112 tw_111) rfl rfl rfl (by decide +kernel) ⟨Nat.le_of_ble_eq_true rfl, Nat.le_of_ble_eq_true rfl⟩) ⟨pr_blind, va_recv hK hP (ci := 5) (q0 := 12) rfl rfl, pr_pre hP hK hN⟩ rfl rfl hl.1 rfl (lv_room (Nat.le_of_ble_eq_true rfl)) d_Bx_firstShortDay_69 ⟨Nat.le_of_ble_eq_true rfl, Nat.le_of_ble_eq_true rfl⟩)) (fun r er => ?_)
  subst er
  refine hb_ti 0 rfl ?_
  refine lv_i2l hx hb d_Bx_firstShortDay_72 rfl ?_
  refine hb_tl 0 (by decide +kernel) ?_
  refine lv_lsub hx hb d_Bx_firstShortDay_73 ?_
  refine hb_tl 0 (by decide +kernel) ?_
  refine lv_ladd hx hb d_Bx_firstShortDay_74 ?_
  refine hb_tl 0 (by decide +kernel) ?_
  refine lv_lstore (lv' := [(4, .long 0), (6, .int 3400), (7, .int 33), (2, .long 0), (0, .ref (a 12)), (1, .int 0)]) hx hb d_Bx_firstShortDay_75 hl (by decide) rfl (fun ls hl => ?_)
  refine lv_lload hx hb d_Bx_firstShortDay_77 (lv_at hl 0 rfl) ?_
  refine lv_lconst (v := 0) hx hb d_Bx_firstShortDay_79 (by decide +kernel) ?_
  refine W.lcmp hx hb d_Bx_firstShortDay_80 ?_
  refine hb_ti 0 (by decide +kernel) ?_
  refine lv_if_ge (tgt := 87) hx hb d_Bx_firstShortDay_81 (by decide) (fun _ => ?_) (fun h => absurd (by decide +kernel) h)
  refine lv_iinc (v := 34) (lv' := [(7, .int 34), (4, .long 0), (6, .int 3400), (2, .long 0), (0, .ref (a 12)), (1, .int 0)]) hx hb d_Bx_firstShortDay_87 hl (k := 2) rfl (by decide +kernel) (by decide) rfl (fun ls hl => ?_)
  refine lv_goto (tgt := 53) hx hb d_Bx_firstShortDay_90 (by decide) ?_
  refine lv_iload hx hb d_Bx_firstShortDay_53 (lv_at hl 0 rfl) ?_
  refine lv_bipush (v := 40) hx hb d_Bx_firstShortDay_55 (by decide +kernel) ?_
  refine lv_icmp_ge (tgt := 93) hx hb d_Bx_firstShortDay_57 (by decide) (fun h => absurd h (by decide +kernel)) (fun _ => ?_)
  refine lv_iinc (v := 3500) (lv' := [(6, .int 3500), (7, .int 34), (4, .long 0), (2, .long 0), (0, .ref (a 12)), (1, .int 0)]) hx hb d_Bx_firstShortDay_60 hl (k := 2) rfl (by decide +kernel) (by decide) rfl (fun ls hl => ?_)
  refine lv_lload hx hb d_Bx_firstShortDay_63 (lv_at hl 2 rfl) ?_
  refine lv_lload_n hx hb d_Bx_firstShortDay_65 rfl (lv_at hl 3 rfl) ?_
  refine lv_aload_n hx hb d_Bx_firstShortDay_66 rfl (lv_at hl 4 rfl) ?_
  refine lv_iload hx hb d_Bx_firstShortDay_67 (lv_at hl 0 rfl) ?_
  refine vp_callSi (va_Run.run (va_runV (As := [.int 3500]) (rest := [.long 0, .long 0]) ⟨hx, hb, hml, hown, htb⟩ (c_Bx_owedOn l dC dI a k L hL 3500) (cwV 1 htb (gd_V tw_113 tw_114 tw_115 tw_112 tw_111) rfl rfl rfl (by decide +kernel) ⟨Nat.le_of_ble_eq_true rfl, Nat.le_of_ble_eq_true rfl⟩) ⟨pr_blind, va_recv hK hP (ci := 5) (q0 := 12) rfl rfl, pr_pre hP hK hN⟩ rfl rfl hl.1 rfl (lv_room (Nat.le_of_ble_eq_true rfl)) d_Bx_firstShortDay_69 ⟨Nat.le_of_ble_eq_true rfl, Nat.le_of_ble_eq_true rfl⟩)) (fun r er => ?_)
  subst er
  refine hb_ti 0 rfl ?_
  refine lv_i2l hx hb d_Bx_firstShortDay_72 rfl ?_
  refine hb_tl 0 (by decide +kernel) ?_
  refine lv_lsub hx hb d_Bx_firstShortDay_73 ?_
  refine hb_tl 0 (by decide +kernel) ?_
  refine lv_ladd hx hb d_Bx_firstShortDay_74 ?_
  refine hb_tl 0 (by decide +kernel) ?_
  refine lv_lstore (lv' := [(4, .long 0), (6, .int 3500), (7, .int 34), (2, .long 0), (0, .ref (a 12)), (1, .int 0)]) hx hb d_Bx_firstShortDay_75 hl (by decide) rfl (fun ls hl => ?_)
  refine lv_lload hx hb d_Bx_firstShortDay_77 (lv_at hl 0 rfl) ?_
  refine lv_lconst (v := 0) hx hb d_Bx_firstShortDay_79 (by decide +kernel) ?_
  refine W.lcmp hx hb d_Bx_firstShortDay_80 ?_
  refine hb_ti 0 (by decide +kernel) ?_
  refine lv_if_ge (tgt := 87) hx hb d_Bx_firstShortDay_81 (by decide) (fun _ => ?_) (fun h => absurd (by decide +kernel) h)
  refine lv_iinc (v := 35) (lv' := [(7, .int 35), (4, .long 0), (6, .int 3500), (2, .long 0), (0, .ref (a 12)), (1, .int 0)]) hx hb d_Bx_firstShortDay_87 hl (k := 2) rfl (by decide +kernel) (by decide) rfl (fun ls hl => ?_)
  refine lv_goto (tgt := 53) hx hb d_Bx_firstShortDay_90 (by decide) ?_
  refine lv_iload hx hb d_Bx_firstShortDay_53 (lv_at hl 0 rfl) ?_
  refine lv_bipush (v := 40) hx hb d_Bx_firstShortDay_55 (by decide +kernel) ?_
  refine lv_icmp_ge (tgt := 93) hx hb d_Bx_firstShortDay_57 (by decide) (fun h => absurd h (by decide +kernel)) (fun _ => ?_)
  refine lv_iinc (v := 3600) (lv' := [(6, .int 3600), (7, .int 35), (4, .long 0), (2, .long 0), (0, .ref (a 12)), (1, .int 0)]) hx hb d_Bx_firstShortDay_60 hl (k := 2) rfl (by decide +kernel) (by decide) rfl (fun ls hl => ?_)
  refine lv_lload hx hb d_Bx_firstShortDay_63 (lv_at hl 2 rfl) ?_
  refine lv_lload_n hx hb d_Bx_firstShortDay_65 rfl (lv_at hl 3 rfl) ?_
  refine lv_aload_n hx hb d_Bx_firstShortDay_66 rfl (lv_at hl 4 rfl) ?_
  refine lv_iload hx hb d_Bx_firstShortDay_67 (lv_at hl 0 rfl) ?_
  refine vp_callSi (va_Run.run (va_runV (As := [.int 3600]) (rest := [.long 0, .long 0]) ⟨hx, hb, hml, hown, htb⟩ (c_Bx_owedOn l dC dI a k L hL 3600) (cwV 1 htb (gd_V tw_113 tw_114 tw_115 tw_112 tw_111) rfl rfl rfl (by decide +kernel) ⟨Nat.le_of_ble_eq_true rfl, Nat.le_of_ble_eq_true rfl⟩) ⟨pr_blind, va_recv hK hP (ci := 5) (q0 := 12) rfl rfl, pr_pre hP hK hN⟩ rfl rfl hl.1 rfl (lv_room (Nat.le_of_ble_eq_true rfl)) d_Bx_firstShortDay_69 ⟨Nat.le_of_ble_eq_true rfl, Nat.le_of_ble_eq_true rfl⟩)) (fun r er => ?_)
  subst er
  refine hb_ti 0 rfl ?_
  refine lv_i2l hx hb d_Bx_firstShortDay_72 rfl ?_
  refine hb_tl 0 (by decide +kernel) ?_
  refine lv_lsub hx hb d_Bx_firstShortDay_73 ?_
  refine hb_tl 0 (by decide +kernel) ?_
  refine lv_ladd hx hb d_Bx_firstShortDay_74 ?_
  refine hb_tl 0 (by decide +kernel) ?_
  refine lv_lstore (lv' := [(4, .long 0), (6, .int 3600), (7, .int 35), (2, .long 0), (0, .ref (a 12)), (1, .int 0)]) hx hb d_Bx_firstShortDay_75 hl (by decide) rfl (fun ls hl => ?_)
  refine lv_lload hx hb d_Bx_firstShortDay_77 (lv_at hl 0 rfl) ?_
  refine lv_lconst (v := 0) hx hb d_Bx_firstShortDay_79 (by decide +kernel) ?_
  refine W.lcmp hx hb d_Bx_firstShortDay_80 ?_
  refine hb_ti 0 (by decide +kernel) ?_
  refine lv_if_ge (tgt := 87) hx hb d_Bx_firstShortDay_81 (by decide) (fun _ => ?_) (fun h => absurd (by decide +kernel) h)
  refine lv_iinc (v := 36) (lv' := [(7, .int 36), (4, .long 0), (6, .int 3600), (2, .long 0), (0, .ref (a 12)), (1, .int 0)]) hx hb d_Bx_firstShortDay_87 hl (k := 2) rfl (by decide +kernel) (by decide) rfl (fun ls hl => ?_)
  refine lv_goto (tgt := 53) hx hb d_Bx_firstShortDay_90 (by decide) ?_
  refine lv_iload hx hb d_Bx_firstShortDay_53 (lv_at hl 0 rfl) ?_
  refine lv_bipush (v := 40) hx hb d_Bx_firstShortDay_55 (by decide +kernel) ?_
  refine lv_icmp_ge (tgt := 93) hx hb d_Bx_firstShortDay_57 (by decide) (fun h => absurd h (by decide +kernel)) (fun _ => ?_)
  refine lv_iinc (v := 3700) (lv' := [(6, .int 3700), (7, .int 36), (4, .long 0), (2, .long 0), (0, .ref (a 12)), (1, .int 0)]) hx hb d_Bx_firstShortDay_60 hl (k := 2) rfl (by decide +kernel) (by decide) rfl (fun ls hl => ?_)
  refine lv_lload hx hb d_Bx_firstShortDay_63 (lv_at hl 2 rfl) ?_
  refine lv_lload_n hx hb d_Bx_firstShortDay_65 rfl (lv_at hl 3 rfl) ?_
  refine lv_aload_n hx hb d_Bx_firstShortDay_66 rfl (lv_at hl 4 rfl) ?_
  refine lv_iload hx hb d_Bx_firstShortDay_67 (lv_at hl 0 rfl) ?_
  refine vp_callSi (va_Run.run (va_runV (As := [.int 3700]) (rest := [.long 0, .long 0]) ⟨hx, hb, hml, hown, htb⟩ (c_Bx_owedOn l dC dI a k L hL 3700) (cwV 1 htb (gd_V tw_113 tw_114 tw_115 tw_112 tw_111) rfl rfl rfl (by decide +kernel) ⟨Nat.le_of_ble_eq_true rfl, Nat.le_of_ble_eq_true rfl⟩) ⟨pr_blind, va_recv hK hP (ci := 5) (q0 := 12) rfl rfl, pr_pre hP hK hN⟩ rfl rfl hl.1 rfl (lv_room (Nat.le_of_ble_eq_true rfl)) d_Bx_firstShortDay_69 ⟨Nat.le_of_ble_eq_true rfl, Nat.le_of_ble_eq_true rfl⟩)) (fun r er => ?_)
  subst er
  refine hb_ti 0 rfl ?_
  refine lv_i2l hx hb d_Bx_firstShortDay_72 rfl ?_
  refine hb_tl 0 (by decide +kernel) ?_
  refine lv_lsub hx hb d_Bx_firstShortDay_73 ?_
  refine hb_tl 0 (by decide +kernel) ?_
  refine lv_ladd hx hb d_Bx_firstShortDay_74 ?_
  refine hb_tl 0 (by decide +kernel) ?_
  refine lv_lstore (lv' := [(4, .long 0), (6, .int 3700), (7, .int 36), (2, .long 0), (0, .ref (a 12)), (1, .int 0)]) hx hb d_Bx_firstShortDay_75 hl (by decide) rfl (fun ls hl => ?_)
  refine lv_lload hx hb d_Bx_firstShortDay_77 (lv_at hl 0 rfl) ?_
  refine lv_lconst (v := 0) hx hb d_Bx_firstShortDay_79 (by decide +kernel) ?_
  refine W.lcmp hx hb d_Bx_firstShortDay_80 ?_
  refine hb_ti 0 (by decide +kernel) ?_
  refine lv_if_ge (tgt := 87) hx hb d_Bx_firstShortDay_81 (by decide) (fun _ => ?_) (fun h => absurd (by decide +kernel) h)
  refine lv_iinc (v := 37) (lv' := [(7, .int 37), (4, .long 0), (6, .int 3700), (2, .long 0), (0, .ref (a 12)), (1, .int 0)]) hx hb d_Bx_firstShortDay_87 hl (k := 2) rfl (by decide +kernel) (by decide) rfl (fun ls hl => ?_)
  refine lv_goto (tgt := 53) hx hb d_Bx_firstShortDay_90 (by decide) ?_
  refine lv_iload hx hb d_Bx_firstShortDay_53 (lv_at hl 0 rfl) ?_
  refine lv_bipush (v := 40) hx hb d_Bx_firstShortDay_55 (by decide +kernel) ?_
  refine lv_icmp_ge (tgt := 93) hx hb d_Bx_firstShortDay_57 (by decide) (fun h => absurd h (by decide +kernel)) (fun _ => ?_)
  refine lv_iinc (v := 3800) (lv' := [(6, .int 3800), (7, .int 37), (4, .long 0), (2, .long 0), (0, .ref (a 12)), (1, .int 0)]) hx hb d_Bx_firstShortDay_60 hl (k := 2) rfl (by decide +kernel) (by decide) rfl (fun ls hl => ?_)
  refine lv_lload hx hb d_Bx_firstShortDay_63 (lv_at hl 2 rfl) ?_
  refine lv_lload_n hx hb d_Bx_firstShortDay_65 rfl (lv_at hl 3 rfl) ?_
  refine lv_aload_n hx hb d_Bx_firstShortDay_66 rfl (lv_at hl 4 rfl) ?_
  refine lv_iload hx hb d_Bx_firstShortDay_67 (lv_at hl 0 rfl) ?_
  refine vp_callSi (va_Run.run (va_runV (As := [.int 3800]) (rest := [.long 0, .long 0]) ⟨hx, hb, hml, hown, htb⟩ (c_Bx_owedOn l dC dI a k L hL 3800) (cwV 1 htb (gd_V tw_113 tw_114 tw_115 tw_112 tw_111) rfl rfl rfl (by decide +kernel) ⟨Nat.le_of_ble_eq_true rfl, Nat.le_of_ble_eq_true rfl⟩) ⟨pr_blind, va_recv hK hP (ci := 5) (q0 := 12) rfl rfl, pr_pre hP hK hN⟩ rfl rfl hl.1 rfl (lv_room (Nat.le_of_ble_eq_true rfl)) d_Bx_firstShortDay_69 ⟨Nat.le_of_ble_eq_true rfl, Nat.le_of_ble_eq_true rfl⟩)) (fun r er => ?_)
  subst er
  refine hb_ti 0 rfl ?_
  refine lv_i2l hx hb d_Bx_firstShortDay_72 rfl ?_
  refine hb_tl 0 (by decide +kernel) ?_
  refine lv_lsub hx hb d_Bx_firstShortDay_73 ?_
  refine hb_tl 0 (by decide +kernel) ?_
  refine lv_ladd hx hb d_Bx_firstShortDay_74 ?_
  refine hb_tl 0 (by decide +kernel) ?_
  refine lv_lstore (lv' := [(4, .long 0), (6, .int 3800), (7, .int 37), (2, .long 0), (0, .ref (a 12)), (1, .int 0)]) hx hb d_Bx_firstShortDay_75 hl (by decide) rfl (fun ls hl => ?_)
  refine lv_lload hx hb d_Bx_firstShortDay_77 (lv_at hl 0 rfl) ?_
  refine lv_lconst (v := 0) hx hb d_Bx_firstShortDay_79 (by decide +kernel) ?_
  refine W.lcmp hx hb d_Bx_firstShortDay_80 ?_
  refine hb_ti 0 (by decide +kernel) ?_
  refine lv_if_ge (tgt := 87) hx hb d_Bx_firstShortDay_81 (by decide) (fun _ => ?_) (fun h => absurd (by decide +kernel) h)
  refine lv_iinc (v := 38) (lv' := [(7, .int 38), (4, .long 0), (6, .int 3800), (2, .long 0), (0, .ref (a 12)), (1, .int 0)]) hx hb d_Bx_firstShortDay_87 hl (k := 2) rfl (by decide +kernel) (by decide) rfl (fun ls hl => ?_)
  refine lv_goto (tgt := 53) hx hb d_Bx_firstShortDay_90 (by decide) ?_
  refine lv_iload hx hb d_Bx_firstShortDay_53 (lv_at hl 0 rfl) ?_
  refine lv_bipush (v := 40) hx hb d_Bx_firstShortDay_55 (by decide +kernel) ?_
  refine lv_icmp_ge (tgt := 93) hx hb d_Bx_firstShortDay_57 (by decide) (fun h => absurd h (by decide +kernel)) (fun _ => ?_)
  refine lv_iinc (v := 3900) (lv' := [(6, .int 3900), (7, .int 38), (4, .long 0), (2, .long 0), (0, .ref (a 12)), (1, .int 0)]) hx hb d_Bx_firstShortDay_60 hl (k := 2) rfl (by decide +kernel) (by decide) rfl (fun ls hl => ?_)
  refine lv_lload hx hb d_Bx_firstShortDay_63 (lv_at hl 2 rfl) ?_
  refine lv_lload_n hx hb d_Bx_firstShortDay_65 rfl (lv_at hl 3 rfl) ?_
  refine lv_aload_n hx hb d_Bx_firstShortDay_66 rfl (lv_at hl 4 rfl) ?_
  refine lv_iload hx hb d_Bx_firstShortDay_67 (lv_at hl 0 rfl) ?_
  refine vp_callSi (va_Run.run (va_runV (As := [.int 3900]) (rest := [.long 0, .long 0]) ⟨hx, hb, hml, hown, htb⟩ (c_Bx_owedOn l dC dI a k L hL 3900) (cwV 1 htb (gd_V tw_113 tw_114 tw_115 tw_112 tw_111) rfl rfl rfl (by decide +kernel) ⟨Nat.le_of_ble_eq_true rfl, Nat.le_of_ble_eq_true rfl⟩) ⟨pr_blind, va_recv hK hP (ci := 5) (q0 := 12) rfl rfl, pr_pre hP hK hN⟩ rfl rfl hl.1 rfl (lv_room (Nat.le_of_ble_eq_true rfl)) d_Bx_firstShortDay_69 ⟨Nat.le_of_ble_eq_true rfl, Nat.le_of_ble_eq_true rfl⟩)) (fun r er => ?_)
  subst er
  refine hb_ti 0 rfl ?_
  refine lv_i2l hx hb d_Bx_firstShortDay_72 rfl ?_
  refine hb_tl 0 (by decide +kernel) ?_
  refine lv_lsub hx hb d_Bx_firstShortDay_73 ?_
  refine hb_tl 0 (by decide +kernel) ?_
  refine lv_ladd hx hb d_Bx_firstShortDay_74 ?_
  refine hb_tl 0 (by decide +kernel) ?_
  refine lv_lstore (lv' := [(4, .long 0), (6, .int 3900), (7, .int 38), (2, .long 0), (0, .ref (a 12)), (1, .int 0)]) hx hb d_Bx_firstShortDay_75 hl (by decide) rfl (fun ls hl => ?_)
  refine lv_lload hx hb d_Bx_firstShortDay_77 (lv_at hl 0 rfl) ?_
  refine lv_lconst (v := 0) hx hb d_Bx_firstShortDay_79 (by decide +kernel) ?_
  refine W.lcmp hx hb d_Bx_firstShortDay_80 ?_
  refine hb_ti 0 (by decide +kernel) ?_
  refine lv_if_ge (tgt := 87) hx hb d_Bx_firstShortDay_81 (by decide) (fun _ => ?_) (fun h => absurd (by decide +kernel) h)
  refine lv_iinc (v := 39) (lv' := [(7, .int 39), (4, .long 0), (6, .int 3900), (2, .long 0), (0, .ref (a 12)), (1, .int 0)]) hx hb d_Bx_firstShortDay_87 hl (k := 2) rfl (by decide +kernel) (by decide) rfl (fun ls hl => ?_)
  refine lv_goto (tgt := 53) hx hb d_Bx_firstShortDay_90 (by decide) ?_
  refine lv_iload hx hb d_Bx_firstShortDay_53 (lv_at hl 0 rfl) ?_
  refine lv_bipush (v := 40) hx hb d_Bx_firstShortDay_55 (by decide +kernel) ?_
  refine lv_icmp_ge (tgt := 93) hx hb d_Bx_firstShortDay_57 (by decide) (fun h => absurd h (by decide +kernel)) (fun _ => ?_)
  refine lv_iinc (v := 4000) (lv' := [(6, .int 4000), (7, .int 39), (4, .long 0), (2, .long 0), (0, .ref (a 12)), (1, .int 0)]) hx hb d_Bx_firstShortDay_60 hl (k := 2) rfl (by decide +kernel) (by decide) rfl (fun ls hl => ?_)
  refine lv_lload hx hb d_Bx_firstShortDay_63 (lv_at hl 2 rfl) ?_
  refine lv_lload_n hx hb d_Bx_firstShortDay_65 rfl (lv_at hl 3 rfl) ?_
  refine lv_aload_n hx hb d_Bx_firstShortDay_66 rfl (lv_at hl 4 rfl) ?_
  refine lv_iload hx hb d_Bx_firstShortDay_67 (lv_at hl 0 rfl) ?_
  refine vp_callSi (va_Run.run (va_runV (As := [.int 4000]) (rest := [.long 0, .long 0]) ⟨hx, hb, hml, hown, htb⟩ (c_Bx_owedOn l dC dI a k L hL 4000) (cwV 1 htb (gd_V tw_113 tw_114 tw_115 tw_112 tw_111) rfl rfl rfl (by decide +kernel) ⟨Nat.le_of_ble_eq_true rfl, Nat.le_of_ble_eq_true rfl⟩) ⟨pr_blind, va_recv hK hP (ci := 5) (q0 := 12) rfl rfl, pr_pre hP hK hN⟩ rfl rfl hl.1 rfl (lv_room (Nat.le_of_ble_eq_true rfl)) d_Bx_firstShortDay_69 ⟨Nat.le_of_ble_eq_true rfl, Nat.le_of_ble_eq_true rfl⟩)) (fun r er => ?_)
  subst er
  refine hb_ti 0 rfl ?_
  refine lv_i2l hx hb d_Bx_firstShortDay_72 rfl ?_
  refine hb_tl 0 (by decide +kernel) ?_
  refine lv_lsub hx hb d_Bx_firstShortDay_73 ?_
  refine hb_tl 0 (by decide +kernel) ?_
  refine lv_ladd hx hb d_Bx_firstShortDay_74 ?_
  refine hb_tl 0 (by decide +kernel) ?_
  refine lv_lstore (lv' := [(4, .long 0), (6, .int 4000), (7, .int 39), (2, .long 0), (0, .ref (a 12)), (1, .int 0)]) hx hb d_Bx_firstShortDay_75 hl (by decide) rfl (fun ls hl => ?_)
  refine lv_lload hx hb d_Bx_firstShortDay_77 (lv_at hl 0 rfl) ?_
  refine lv_lconst (v := 0) hx hb d_Bx_firstShortDay_79 (by decide +kernel) ?_
  refine W.lcmp hx hb d_Bx_firstShortDay_80 ?_
  refine hb_ti 0 (by decide +kernel) ?_
  refine lv_if_ge (tgt := 87) hx hb d_Bx_firstShortDay_81 (by decide) (fun _ => ?_) (fun h => absurd (by decide +kernel) h)
  refine lv_iinc (v := 40) (lv' := [(7, .int 40), (4, .long 0), (6, .int 4000), (2, .long 0), (0, .ref (a 12)), (1, .int 0)]) hx hb d_Bx_firstShortDay_87 hl (k := 2) rfl (by decide +kernel) (by decide) rfl (fun ls hl => ?_)
  refine lv_goto (tgt := 53) hx hb d_Bx_firstShortDay_90 (by decide) ?_
  refine lv_iload hx hb d_Bx_firstShortDay_53 (lv_at hl 0 rfl) ?_
  refine lv_bipush (v := 40) hx hb d_Bx_firstShortDay_55 (by decide +kernel) ?_
  refine lv_icmp_ge (tgt := 93) hx hb d_Bx_firstShortDay_57 (by decide) (fun _ => ?_) (fun h => absurd (by decide +kernel) h)
  refine lv_iconst (v := (-1)) hx hb d_Bx_firstShortDay_93 (by decide +kernel) ?_
  exact W.iret (v := (-1)) hx hb hr (fun t ht hW => ⟨(-1), rfl, rfl, ht⟩) t_nil d_Bx_firstShortDay_94
