def f_WM_level (p_0 : Int32) (p_1 : Int32) (p_2 : Int32) : Int32 := if p_0 < 0 then ((-1)) else (if 500 ≤ p_0 then ((-1)) else (if p_1 < 0 then ((-1)) else (if 12 ≤ p_1 then ((-1)) else (if p_2 < (-90) then ((-1)) else (if 90 < p_2 then ((-1)) else (1))))))
set_option maxHeartbeats 4000000 in
set_option maxRecDepth 100000 in
theorem c_WM_level (l : Launch) (dC : Nat → ClassId) (dI : Nat → Nat → Nat) (a : Nat → Nat) (k : Nat → ClassId) (L : List Nat) (hL : L.length = 40) (sz : Nat) (p_0 : Int32) (p_1 : Int32) (p_2 : Int32)  : Met l y_WM_level (.code y_WM_level b_WM_level 4 (some .int) :: TB) ({ frames := 1, cells := 1, slots := 12, locals := 25 }) (va_Pc [.ref (a 0), .int p_0, .int p_1, .int p_2] (PC dC dI (XW a k L) (XT k) sz)) (va_Qi (fun r (_ : Unit) => r = f_WM_level p_0 p_1 p_2) (fun (_ : Unit) (_ : State) => True) (va_A (XW a k L) sz)) 1 12 (va_A (XW a k L) sz) := by
  refine Met.ofW (cc := b_WM_level) (maxL := 4) (ret := (some .int)) (by decide) rfl ?_
  intro p e s m args below meth c s₁ B hml hv
  obtain ⟨rfl, hsz, hP, hK, hD0, hN⟩ := hv
  have hx := B.exec
  have hb := B.bytes
  have hr := B.returns
  have hts := atoms_spec (ws := (.code y_WM_level b_WM_level 4 (some .int) :: TB)) B.pre
  have htb := fun w (h : w ∈ TB) => hts w (List.mem_cons_of_mem _ h)
  have hown : s.vm.findClass R_WM = some m.cls := findClass_of_methodNamed B.named
  have hlocks := B.notSynchronized
  have hl := lv_entry ([.ref (a 0), .int p_0, .int p_1, .int p_2]) (n := 4) (Nat.le_of_ble_eq_true rfl)
  rw [lg_entry_eq]
  generalize (lg_sl ([.ref (a 0), .int p_0, .int p_1, .int p_2]) ++ List.replicate (4 - (lg_sl ([.ref (a 0), .int p_0, .int p_1, .int p_2])).length) Slot.unset).toArray = ls at hl ⊢
  have hl : lv_has ls 4 [(0, .ref (a 0)), (1, .int p_0), (2, .int p_1), (3, .int p_2)] := hl
  subst hsz
  have hD := hD0.self (sz := s.heap.size)
  obtain ⟨A, hAe⟩ : ∃ A, va_A (XW a k L) s.heap.size = A := ⟨_, rfl⟩
  rw [hAe] at hD
  have hA : ∀ q : Nat, s.heap.size ≤ q → A q := fun q h => by rw [← hAe]; exact Or.inr h
  have hS : va_S A s.heap s.heap [] := va_S.rf
  have hP := hP
  refine lv_iload_n hx hb d_WM_level_0 rfl (lv_at hl 1 rfl) ?_
  refine vp_callSi (va_Run.run (va_runS (As := [.int p_0]) (rest := []) ⟨hx, hb, hml, hown, htb⟩ (c_WM_isDay l p_0) (cwS 1 htb (gd_S tw_125 tw_126 tw_124 tw_123) rfl rfl rfl (by decide +kernel) ⟨Nat.le_of_ble_eq_true rfl, Nat.le_of_ble_eq_true rfl⟩) ⟨fun _ _ _ _ h => h, fun U _ _ => ⟨rfl, trivial⟩⟩ rfl rfl hl.1 rfl (lv_room (Nat.le_of_ble_eq_true rfl)) d_WM_level_1 ⟨Nat.le_of_ble_eq_true rfl, Nat.le_of_ble_eq_true rfl⟩)) (fun r er => ?_)
  subst er
  by_cases c_1 : p_0 < 0
  · refine hb_ti 0 (by unfold f_WM_isDay; rw [if_pos c_1]) ?_
    refine lv_if_eq (tgt := 21) hx hb d_WM_level_4 (by decide) (fun _ => ?_) (fun h => absurd (by decide +kernel) h)
    refine lv_iconst (v := (-1)) hx hb d_WM_level_21 (by decide +kernel) ?_
    refine W.widen (k := 1) (n := 12) (Nat.le_of_ble_eq_true rfl) (Nat.le_of_ble_eq_true rfl) ?_
    exact W.iret (v := (-1)) hx hb hr (fun t ht hW => ⟨⟨(-1), (), rfl, (by unfold f_WM_level; rw [if_pos c_1]), trivial⟩, by rw [hAe]; exact hS.F ht⟩) (by rw [hAe]; exact hS.2.2) d_WM_level_22
  · by_cases c_2 : 500 ≤ p_0
    · refine hb_ti 0 (by unfold f_WM_isDay; rw [if_neg c_1, if_pos c_2]) ?_
      refine lv_if_eq (tgt := 21) hx hb d_WM_level_4 (by decide) (fun _ => ?_) (fun h => absurd (by decide +kernel) h)
      refine lv_iconst (v := (-1)) hx hb d_WM_level_21 (by decide +kernel) ?_
      refine W.widen (k := 1) (n := 12) (Nat.le_of_ble_eq_true rfl) (Nat.le_of_ble_eq_true rfl) ?_
      exact W.iret (v := (-1)) hx hb hr (fun t ht hW => ⟨⟨(-1), (), rfl, (by unfold f_WM_level; rw [if_neg c_1, if_pos c_2]), trivial⟩, by rw [hAe]; exact hS.F ht⟩) (by rw [hAe]; exact hS.2.2) d_WM_level_22
    · refine hb_ti 1 (by unfold f_WM_isDay; rw [if_neg c_1, if_neg c_2]) ?_
      refine lv_if_eq (tgt := 21) hx hb d_WM_level_4 (by decide) (fun h => absurd h (by decide +kernel)) (fun _ => ?_)
      refine lv_iload_n hx hb d_WM_level_7 rfl (lv_at hl 2 rfl) ?_
      refine vp_callSi (va_Run.run (va_runS (As := [.int p_1]) (rest := []) ⟨hx, hb, hml, hown, htb⟩ (c_WM_isHour l p_1) (cwS 1 htb (gd_S tw_128 tw_129 tw_124 tw_127) rfl rfl rfl (by decide +kernel) ⟨Nat.le_of_ble_eq_true rfl, Nat.le_of_ble_eq_true rfl⟩) ⟨fun _ _ _ _ h => h, fun U _ _ => ⟨rfl, trivial⟩⟩ rfl rfl hl.1 rfl (lv_room (Nat.le_of_ble_eq_true rfl)) d_WM_level_8 ⟨Nat.le_of_ble_eq_true rfl, Nat.le_of_ble_eq_true rfl⟩)) (fun r er => ?_)
      subst er
      by_cases c_3 : p_1 < 0
      · refine hb_ti 0 (by unfold f_WM_isHour; rw [if_pos c_3]) ?_
        refine lv_if_eq (tgt := 21) hx hb d_WM_level_11 (by decide) (fun _ => ?_) (fun h => absurd (by decide +kernel) h)
        refine lv_iconst (v := (-1)) hx hb d_WM_level_21 (by decide +kernel) ?_
        refine W.widen (k := 1) (n := 12) (Nat.le_of_ble_eq_true rfl) (Nat.le_of_ble_eq_true rfl) ?_
        exact W.iret (v := (-1)) hx hb hr (fun t ht hW => ⟨⟨(-1), (), rfl, (by unfold f_WM_level; rw [if_neg c_1, if_neg c_2, if_pos c_3]), trivial⟩, by rw [hAe]; exact hS.F ht⟩) (by rw [hAe]; exact hS.2.2) d_WM_level_22
      · by_cases c_4 : 12 ≤ p_1
        · refine hb_ti 0 (by unfold f_WM_isHour; rw [if_neg c_3, if_pos c_4]) ?_
          refine lv_if_eq (tgt := 21) hx hb d_WM_level_11 (by decide) (fun _ => ?_) (fun h => absurd (by decide +kernel) h)
          refine lv_iconst (v := (-1)) hx hb d_WM_level_21 (by decide +kernel) ?_
          refine W.widen (k := 1) (n := 12) (Nat.le_of_ble_eq_true rfl) (Nat.le_of_ble_eq_true rfl) ?_
          exact W.iret (v := (-1)) hx hb hr (fun t ht hW => ⟨⟨(-1), (), rfl, (by unfold f_WM_level; rw [if_neg c_1, if_neg c_2, if_neg c_3, if_pos c_4]), trivial⟩, by rw [hAe]; exact hS.F ht⟩) (by rw [hAe]; exact hS.2.2) d_WM_level_22
        · refine hb_ti 1 (by unfold f_WM_isHour; rw [if_neg c_3, if_neg c_4]) ?_
          refine lv_if_eq (tgt := 21) hx hb d_WM_level_11 (by decide) (fun h => absurd h (by decide +kernel)) (fun _ => ?_)
          refine lv_iload_n hx hb d_WM_level_14 rfl (lv_at hl 3 rfl) ?_
          refine vp_callSi (va_Run.run (va_runS (As := [.int p_2]) (rest := []) ⟨hx, hb, hml, hown, htb⟩ (c_WM_isLevel l p_2) (cwS 1 htb (gd_S tw_131 tw_132 tw_124 tw_130) rfl rfl rfl (by decide +kernel) ⟨Nat.le_of_ble_eq_true rfl, Nat.le_of_ble_eq_true rfl⟩) ⟨fun _ _ _ _ h => h, fun U _ _ => ⟨rfl, trivial⟩⟩ rfl rfl hl.1 rfl (lv_room (Nat.le_of_ble_eq_true rfl)) d_WM_level_15 ⟨Nat.le_of_ble_eq_true rfl, Nat.le_of_ble_eq_true rfl⟩)) (fun r er => ?_)
          subst er
          by_cases c_5 : p_2 < (-90)
          · refine hb_ti 0 (by unfold f_WM_isLevel; rw [if_pos c_5]) ?_
            refine lv_if_ne (tgt := 23) hx hb d_WM_level_18 (by decide) (fun h => absurd (by decide +kernel) h) (fun _ => ?_)
            refine lv_iconst (v := (-1)) hx hb d_WM_level_21 (by decide +kernel) ?_
            refine W.widen (k := 1) (n := 12) (Nat.le_of_ble_eq_true rfl) (Nat.le_of_ble_eq_true rfl) ?_
            exact W.iret (v := (-1)) hx hb hr (fun t ht hW => ⟨⟨(-1), (), rfl, (by unfold f_WM_level; rw [if_neg c_1, if_neg c_2, if_neg c_3, if_neg c_4, if_pos c_5]), trivial⟩, by rw [hAe]; exact hS.F ht⟩) (by rw [hAe]; exact hS.2.2) d_WM_level_22
          · by_cases c_6 : 90 < p_2
            · refine hb_ti 0 (by unfold f_WM_isLevel; rw [if_neg c_5, if_pos c_6]) ?_
              refine lv_if_ne (tgt := 23) hx hb d_WM_level_18 (by decide) (fun h => absurd (by decide +kernel) h) (fun _ => ?_)
              refine lv_iconst (v := (-1)) hx hb d_WM_level_21 (by decide +kernel) ?_
              refine W.widen (k := 1) (n := 12) (Nat.le_of_ble_eq_true rfl) (Nat.le_of_ble_eq_true rfl) ?_
              exact W.iret (v := (-1)) hx hb hr (fun t ht hW => ⟨⟨(-1), (), rfl, (by unfold f_WM_level; rw [if_neg c_1, if_neg c_2, if_neg c_3, if_neg c_4, if_neg c_5, if_pos c_6]), trivial⟩, by rw [hAe]; exact hS.F ht⟩) (by rw [hAe]; exact hS.2.2) d_WM_level_22
            · refine hb_ti 1 (by unfold f_WM_isLevel; rw [if_neg c_5, if_neg c_6]) ?_
              refine lv_if_ne (tgt := 23) hx hb d_WM_level_18 (by decide) (fun _ => ?_) (fun h => absurd h (by decide +kernel))
              refine lv_aload_n hx hb d_WM_level_23 rfl (lv_at hl 0 rfl) ?_
              refine va_get (D := (dC, dI)) (ci := 0) (v := .ref (a 1)) (C := R_WM) (T := F_WM) (N := 13) hx hb htb i_WM hown hK hP 0 rfl rfl 0 (by decide) (htb (.fieldLink R_WM 12 "WaterMen" "river" "LWaterMen$River;") tw_68) (fun _ h9 => h9) rfl d_WM_level_24 ?_
              refine lv_iload_n hx hb d_WM_level_27 rfl (lv_at hl 1 rfl) ?_
              refine lv_iload_n hx hb d_WM_level_28 rfl (lv_at hl 2 rfl) ?_
              refine lv_iload_n hx hb d_WM_level_29 rfl (lv_at hl 3 rfl) ?_
              have hFc := hb_free hD hS hA
              refine va_callv (va_runV (As := [.int p_0, .int p_1, .int p_2]) (rest := []) ⟨hx, hb, hml, hown, htb⟩ (c_Rv_tell l dC dI a k L hL _ p_0 p_1 p_2 c_1 c_2 c_3 c_4) (cwV 3 htb (gd_V tw_134 tw_135 tw_136 tw_58 tw_133) rfl rfl rfl (by decide +kernel) ⟨Nat.le_of_ble_eq_true rfl, Nat.le_of_ble_eq_true rfl⟩) ⟨pc_blind, va_recv hK hP (ci := 1) (q0 := 1) rfl rfl, pc_pre hP hK hD hN⟩ rfl rfl hl.1 rfl (lv_room (Nat.le_of_ble_eq_true rfl)) d_WM_level_30 ⟨Nat.le_of_ble_eq_true rfl, Nat.le_of_ble_eq_true rfl⟩) hS (fun q _ h => hFc q h) hFc (fun u t H1 locs ht hvm _ hB hz1 hk1 hS => ?_)
              refine lv_iconst (v := 1) hx hb d_WM_level_33 (by decide +kernel) ?_
              refine W.widen (k := 1) (n := 12) (Nat.le_of_ble_eq_true rfl) (Nat.le_of_ble_eq_true rfl) ?_
              exact W.iret (v := 1) hx hb hr (fun t ht hW => ⟨⟨1, (), rfl, (by unfold f_WM_level; rw [if_neg c_1, if_neg c_2, if_neg c_3, if_neg c_4, if_neg c_5, if_neg c_6]), trivial⟩, by rw [hAe]; exact hS.F ht⟩) (by rw [hAe]; exact hS.2.2) d_WM_level_34
def f_WM_table (p_0 : Int32) (p_1 : Int32) : Int32 := if p_0 < 0 then ((-1000)) else (if 12 ≤ p_0 then ((-1000)) else (if p_1 < (-90) then ((-1000)) else (if 90 < p_1 then ((-1000)) else (0))))
set_option maxHeartbeats 4000000 in
set_option maxRecDepth 100000 in
theorem c_WM_table (l : Launch) (dC : Nat → ClassId) (dI : Nat → Nat → Nat) (a : Nat → Nat) (k : Nat → ClassId) (L : List Nat) (hL : L.length = 40) (sz : Nat) (p_0 : Int32) (p_1 : Int32)  : Met l y_WM_table (.code y_WM_table b_WM_table 4 (some .int) :: TB) ({ frames := 1, cells := 0, slots := 0, locals := 20 }) (va_Pc [.ref (a 0), .int p_0, .int p_1] (PC dC dI (XW a k L) (XT k) sz)) (va_Qi (fun r (_ : Unit) => r = f_WM_table p_0 p_1) (fun (_ : Unit) (_ : State) => True) (va_A (XW a k L) sz)) 0 0 (va_A (XW a k L) sz) := by
  refine Met.ofW (cc := b_WM_table) (maxL := 4) (ret := (some .int)) (by decide) rfl ?_
  intro p e s m args below meth c s₁ B hml hv
  obtain ⟨rfl, hsz, hP, hK, hD0, hN⟩ := hv
  have hx := B.exec
  have hb := B.bytes
  have hr := B.returns
  have hts := atoms_spec (ws := (.code y_WM_table b_WM_table 4 (some .int) :: TB)) B.pre
  have htb := fun w (h : w ∈ TB) => hts w (List.mem_cons_of_mem _ h)
  have hown : s.vm.findClass R_WM = some m.cls := findClass_of_methodNamed B.named
  have hlocks := B.notSynchronized
  have hl := lv_entry ([.ref (a 0), .int p_0, .int p_1]) (n := 4) (Nat.le_of_ble_eq_true rfl)
  rw [lg_entry_eq]
  generalize (lg_sl ([.ref (a 0), .int p_0, .int p_1]) ++ List.replicate (4 - (lg_sl ([.ref (a 0), .int p_0, .int p_1])).length) Slot.unset).toArray = ls at hl ⊢
  have hl : lv_has ls 4 [(0, .ref (a 0)), (1, .int p_0), (2, .int p_1)] := hl
  subst hsz
  have hD := hD0.self (sz := s.heap.size)
  obtain ⟨A, hAe⟩ : ∃ A, va_A (XW a k L) s.heap.size = A := ⟨_, rfl⟩
  rw [hAe] at hD
  have hA : ∀ q : Nat, s.heap.size ≤ q → A q := fun q h => by rw [← hAe]; exact Or.inr h
  have hS : va_S A s.heap s.heap [] := va_S.rf
  have hP := hP
  refine lv_iload_n hx hb d_WM_table_0 rfl (lv_at hl 1 rfl) ?_
  refine vp_callSi (va_Run.run (va_runS (As := [.int p_0]) (rest := []) ⟨hx, hb, hml, hown, htb⟩ (c_WM_isHour l p_0) (cwS 1 htb (gd_S tw_128 tw_129 tw_124 tw_127) rfl rfl rfl (by decide +kernel) ⟨Nat.le_of_ble_eq_true rfl, Nat.le_of_ble_eq_true rfl⟩) ⟨fun _ _ _ _ h => h, fun U _ _ => ⟨rfl, trivial⟩⟩ rfl rfl hl.1 rfl (lv_room (Nat.le_of_ble_eq_true rfl)) d_WM_table_1 ⟨Nat.le_of_ble_eq_true rfl, Nat.le_of_ble_eq_true rfl⟩)) (fun r er => ?_)
  subst er
  by_cases c_1 : p_0 < 0
  · refine hb_ti 0 (by unfold f_WM_isHour; rw [if_pos c_1]) ?_
    refine lv_if_eq (tgt := 14) hx hb d_WM_table_4 (by decide) (fun _ => ?_) (fun h => absurd (by decide +kernel) h)
    refine lv_sipush (v := (-1000)) hx hb d_WM_table_14 (by decide +kernel) ?_
    refine W.widen (k := 0) (n := 0) (Nat.le_of_ble_eq_true rfl) (Nat.le_of_ble_eq_true rfl) ?_
    exact W.iret (v := (-1000)) hx hb hr (fun t ht hW => ⟨⟨(-1000), (), rfl, (by unfold f_WM_table; rw [if_pos c_1]), trivial⟩, by rw [hAe]; exact hS.F ht⟩) (by rw [hAe]; exact hS.2.2) d_WM_table_17
  · by_cases c_2 : 12 ≤ p_0
    · refine hb_ti 0 (by unfold f_WM_isHour; rw [if_neg c_1, if_pos c_2]) ?_
      refine lv_if_eq (tgt := 14) hx hb d_WM_table_4 (by decide) (fun _ => ?_) (fun h => absurd (by decide +kernel) h)
      refine lv_sipush (v := (-1000)) hx hb d_WM_table_14 (by decide +kernel) ?_
      refine W.widen (k := 0) (n := 0) (Nat.le_of_ble_eq_true rfl) (Nat.le_of_ble_eq_true rfl) ?_
      exact W.iret (v := (-1000)) hx hb hr (fun t ht hW => ⟨⟨(-1000), (), rfl, (by unfold f_WM_table; rw [if_neg c_1, if_pos c_2]), trivial⟩, by rw [hAe]; exact hS.F ht⟩) (by rw [hAe]; exact hS.2.2) d_WM_table_17
    · refine hb_ti 1 (by unfold f_WM_isHour; rw [if_neg c_1, if_neg c_2]) ?_
      refine lv_if_eq (tgt := 14) hx hb d_WM_table_4 (by decide) (fun h => absurd h (by decide +kernel)) (fun _ => ?_)
      refine lv_iload_n hx hb d_WM_table_7 rfl (lv_at hl 2 rfl) ?_
      refine vp_callSi (va_Run.run (va_runS (As := [.int p_1]) (rest := []) ⟨hx, hb, hml, hown, htb⟩ (c_WM_isLevel l p_1) (cwS 1 htb (gd_S tw_131 tw_132 tw_124 tw_130) rfl rfl rfl (by decide +kernel) ⟨Nat.le_of_ble_eq_true rfl, Nat.le_of_ble_eq_true rfl⟩) ⟨fun _ _ _ _ h => h, fun U _ _ => ⟨rfl, trivial⟩⟩ rfl rfl hl.1 rfl (lv_room (Nat.le_of_ble_eq_true rfl)) d_WM_table_8 ⟨Nat.le_of_ble_eq_true rfl, Nat.le_of_ble_eq_true rfl⟩)) (fun r er => ?_)
      subst er
      by_cases c_3 : p_1 < (-90)
      · refine hb_ti 0 (by unfold f_WM_isLevel; rw [if_pos c_3]) ?_
        refine lv_if_ne (tgt := 18) hx hb d_WM_table_11 (by decide) (fun h => absurd (by decide +kernel) h) (fun _ => ?_)
        refine lv_sipush (v := (-1000)) hx hb d_WM_table_14 (by decide +kernel) ?_
        refine W.widen (k := 0) (n := 0) (Nat.le_of_ble_eq_true rfl) (Nat.le_of_ble_eq_true rfl) ?_
        exact W.iret (v := (-1000)) hx hb hr (fun t ht hW => ⟨⟨(-1000), (), rfl, (by unfold f_WM_table; rw [if_neg c_1, if_neg c_2, if_pos c_3]), trivial⟩, by rw [hAe]; exact hS.F ht⟩) (by rw [hAe]; exact hS.2.2) d_WM_table_17
      · by_cases c_4 : 90 < p_1
        · refine hb_ti 0 (by unfold f_WM_isLevel; rw [if_neg c_3, if_pos c_4]) ?_
          refine lv_if_ne (tgt := 18) hx hb d_WM_table_11 (by decide) (fun h => absurd (by decide +kernel) h) (fun _ => ?_)
          refine lv_sipush (v := (-1000)) hx hb d_WM_table_14 (by decide +kernel) ?_
          refine W.widen (k := 0) (n := 0) (Nat.le_of_ble_eq_true rfl) (Nat.le_of_ble_eq_true rfl) ?_
          exact W.iret (v := (-1000)) hx hb hr (fun t ht hW => ⟨⟨(-1000), (), rfl, (by unfold f_WM_table; rw [if_neg c_1, if_neg c_2, if_neg c_3, if_pos c_4]), trivial⟩, by rw [hAe]; exact hS.F ht⟩) (by rw [hAe]; exact hS.2.2) d_WM_table_17
        · refine hb_ti 1 (by unfold f_WM_isLevel; rw [if_neg c_3, if_neg c_4]) ?_
          refine lv_if_ne (tgt := 18) hx hb d_WM_table_11 (by decide) (fun _ => ?_) (fun h => absurd h (by decide +kernel))
          refine lv_aload_n hx hb d_WM_table_18 rfl (lv_at hl 0 rfl) ?_
          refine va_get (D := (dC, dI)) (ci := 0) (v := .ref (a 1)) (C := R_WM) (T := F_WM) (N := 13) hx hb htb i_WM hown hK hP 0 rfl rfl 0 (by decide) (htb (.fieldLink R_WM 12 "WaterMen" "river" "LWaterMen$River;") tw_68) (fun _ h9 => h9) rfl d_WM_table_19 ?_
          refine va_get (D := (dC, dI)) (ci := 1) (v := .ref (a 3)) (C := R_Rv) (T := F_Rv) (N := 6) hx hb htb i_Rv hown hK hP 1 rfl rfl 1 (by decide) (htb (.fieldLink R_WM 89 "WaterMen$River" "table" "[I") tw_137) (fun _ h9 => h9) rfl d_WM_table_22 ?_
          refine lv_iload_n hx hb d_WM_table_25 rfl (lv_at hl 1 rfl) ?_
          refine va_iald hx hb hK hP 3 1 rfl rfl (hb_in c_1 c_2 (by decide +kernel)) d_WM_table_26 ?_
          refine hb_ti 0 rfl ?_
          refine lv_istore_n (lv' := [(3, .int 0), (0, .ref (a 0)), (1, .int p_0), (2, .int p_1)]) hx hb d_WM_table_27 rfl hl (by decide) rfl (fun ls hl => ?_)
          refine lv_aload_n hx hb d_WM_table_28 rfl (lv_at hl 1 rfl) ?_
          refine va_get (D := (dC, dI)) (ci := 0) (v := .ref (a 1)) (C := R_WM) (T := F_WM) (N := 13) hx hb htb i_WM hown hK hP 0 rfl rfl 0 (by decide) (htb (.fieldLink R_WM 12 "WaterMen" "river" "LWaterMen$River;") tw_68) (fun _ h9 => h9) rfl d_WM_table_29 ?_
          refine va_get (D := (dC, dI)) (ci := 1) (v := .ref (a 3)) (C := R_Rv) (T := F_Rv) (N := 6) hx hb htb i_Rv hown hK hP 1 rfl rfl 1 (by decide) (htb (.fieldLink R_WM 89 "WaterMen$River" "table" "[I") tw_137) (fun _ h9 => h9) rfl d_WM_table_32 ?_
          refine lv_iload_n hx hb d_WM_table_35 rfl (lv_at hl 2 rfl) ?_
          refine lv_iload_n hx hb d_WM_table_36 rfl (lv_at hl 3 rfl) ?_
          refine va_iast hx hb hK hP hD hS 3 1 rfl rfl (hb_in c_1 c_2 (by decide +kernel)) d_WM_table_37 (fun H locs hP hD hS => ?_)
          refine lv_iload_n hx hb d_WM_table_38 rfl (lv_at hl 0 rfl) ?_
          refine W.widen (k := 0) (n := 0) (Nat.le_of_ble_eq_true rfl) (Nat.le_of_ble_eq_true rfl) ?_
          exact W.iret (v := 0) hx hb hr (fun t ht hW => ⟨⟨0, (), rfl, (by unfold f_WM_table; rw [if_neg c_1, if_neg c_2, if_neg c_3, if_neg c_4]), trivial⟩, by rw [hAe]; exact hS.F ht⟩) (by rw [hAe]; exact hS.2.2) d_WM_table_39
def f_Rv_height (p_0 : Int32) (p_1 : Int32) : Int32 := if 500 ≤ p_0 then (0) else (0)
set_option maxHeartbeats 4000000 in
set_option maxRecDepth 100000 in
theorem c_Rv_height (l : Launch) (dC : Nat → ClassId) (dI : Nat → Nat → Nat) (a : Nat → Nat) (k : Nat → ClassId) (L : List Nat) (hL : L.length = 40)  (p_0 : Int32) (p_1 : Int32) (as_0 : ¬ (p_0 < 0)) (as_1 : ¬ (500 < p_0)) (as_2 : ¬ (p_1 < 0)) (as_3 : ¬ (12 ≤ p_1)) : Met l y_Rv_height (.code y_Rv_height b_Rv_height 4 (some .int) :: TB) ({ frames := 0, cells := 0, slots := 0, locals := 0 }) (va_Pc [.ref (a 1), .int p_0, .int p_1] (PR dC dI (XW a k L) (XT k))) (vp_Si (fun r => r = f_Rv_height p_0 p_1)) 0 0 (fun _ => False) := by
  refine Met.ofW (cc := b_Rv_height) (maxL := 4) (ret := (some .int)) (by decide) rfl ?_
  intro p e s m args below meth c s₁ B hml hv
  obtain ⟨rfl, hP, hK, hN⟩ := hv
  have hx := B.exec
  have hb := B.bytes
  have hr := B.returns
  have hts := atoms_spec (ws := (.code y_Rv_height b_Rv_height 4 (some .int) :: TB)) B.pre
  have htb := fun w (h : w ∈ TB) => hts w (List.mem_cons_of_mem _ h)
  have hown : s.vm.findClass R_Rv = some m.cls := findClass_of_methodNamed B.named
  have hlocks := B.notSynchronized
  have hl := lv_entry ([.ref (a 1), .int p_0, .int p_1]) (n := 4) (Nat.le_of_ble_eq_true rfl)
  rw [lg_entry_eq]
  generalize (lg_sl ([.ref (a 1), .int p_0, .int p_1]) ++ List.replicate (4 - (lg_sl ([.ref (a 1), .int p_0, .int p_1])).length) Slot.unset).toArray = ls at hl ⊢
  have hl : lv_has ls 4 [(0, .ref (a 1)), (1, .int p_0), (2, .int p_1)] := hl
  refine lv_iload_n hx hb d_Rv_height_0 rfl (lv_at hl 1 rfl) ?_
  refine lv_sipush (v := 500) hx hb d_Rv_height_1 (by decide +kernel) ?_
  refine lv_icmp_ge (tgt := 16) hx hb d_Rv_height_4 (by decide) (fun c_1 => ?_) (fun c_1 => ?_)
  · refine lv_null hx hb d_Rv_height_16 ?_
    refine lv_astore_nN (lv' := [(3, .null), (0, .ref (a 1)), (1, .int p_0), (2, .int p_1)]) hx hb d_Rv_height_17 rfl hl (by decide) rfl (fun ls hl => ?_)
    refine lv_aload_nN hx hb d_Rv_height_18 rfl (lv_at hl 0 rfl) ?_
    refine lv_ifnonnullN hx hb d_Rv_height_19 ?_
    refine lv_aload_n hx hb d_Rv_height_22 rfl (lv_at hl 1 rfl) ?_
    refine va_get (D := (dC, dI)) (ci := 1) (v := .ref (a 3)) (C := R_Rv) (T := F_Rv) (N := 6) hx hb htb i_Rv hown hK hP 1 rfl rfl 1 (by decide) (htb (.fieldLink R_Rv 15 "WaterMen$River" "table" "[I") tw_61) (fun _ h9 => h9) rfl d_Rv_height_23 ?_
    refine lv_iload_n hx hb d_Rv_height_26 rfl (lv_at hl 3 rfl) ?_
    refine lv_iload_n hx hb d_Rv_height_27 rfl (lv_at hl 2 rfl) ?_
    refine lv_iadd hx hb d_Rv_height_28 ?_
    refine lv_bipush (v := 12) hx hb d_Rv_height_29 (by decide +kernel) ?_
    refine lv_irem hx hb d_Rv_height_31 (by decide) ?_
    refine va_iald hx hb hK hP 3 1 rfl rfl (hb_rem12 as_2 (show ¬ (1000 < p_1) from by have e0 := as_2; rw [Int32.lt_iff_toInt_lt] at e0; have e1 := as_3; rw [Int32.le_iff_toInt_le] at e1; have z0 : (0 : Int32).toInt = 0 := (by decide +kernel); have z1 : (12 : Int32).toInt = 12 := (by decide +kernel); have z2 : (1000 : Int32).toInt = 1000 := (by decide +kernel); rw [Int32.lt_iff_toInt_lt]; omega) as_0 (show ¬ (1000 < p_0) from by have e0 := c_1; rw [Int32.le_iff_toInt_le] at e0; have e1 := as_1; rw [Int32.lt_iff_toInt_lt] at e1; have z0 : (500 : Int32).toInt = 500 := (by decide +kernel); have z1 : (1000 : Int32).toInt = 1000 := (by decide +kernel); rw [Int32.lt_iff_toInt_lt]; omega)) d_Rv_height_32 ?_
    refine hb_ti 0 rfl ?_
    refine lv_goto (tgt := 39) hx hb d_Rv_height_33 (by decide) ?_
    exact W.iret (v := 0) hx hb hr (fun t ht hW => ⟨0, rfl, (by unfold f_Rv_height; rw [if_pos c_1]), ht⟩) t_nil d_Rv_height_39
  · refine lv_aload_n hx hb d_Rv_height_7 rfl (lv_at hl 0 rfl) ?_
    refine va_get (D := (dC, dI)) (ci := 1) (v := .ref (a 4)) (C := R_Rv) (T := F_Rv) (N := 6) hx hb htb i_Rv hown hK hP 1 rfl rfl 2 (by decide) (htb (.fieldLink R_Rv 19 "WaterMen$River" "rows" "[[I") tw_63) (fun _ h9 => h9) rfl d_Rv_height_8 ?_
    refine lv_iload_n hx hb d_Rv_height_11 rfl (lv_at hl 1 rfl) ?_
    refine va_aldA hx hb hK hP 4 2 rfl rfl (hb_in as_0 c_1 (by decide +kernel)) d_Rv_height_12 ?_
    refine hb_tv .null rfl ?_
    refine lv_goto (tgt := 17) hx hb d_Rv_height_13 (by decide) ?_
    refine lv_astore_nN (lv' := [(3, .null), (0, .ref (a 1)), (1, .int p_0), (2, .int p_1)]) hx hb d_Rv_height_17 rfl hl (by decide) rfl (fun ls hl => ?_)
    refine lv_aload_nN hx hb d_Rv_height_18 rfl (lv_at hl 0 rfl) ?_
    refine lv_ifnonnullN hx hb d_Rv_height_19 ?_
    refine lv_aload_n hx hb d_Rv_height_22 rfl (lv_at hl 1 rfl) ?_
    refine va_get (D := (dC, dI)) (ci := 1) (v := .ref (a 3)) (C := R_Rv) (T := F_Rv) (N := 6) hx hb htb i_Rv hown hK hP 1 rfl rfl 1 (by decide) (htb (.fieldLink R_Rv 15 "WaterMen$River" "table" "[I") tw_61) (fun _ h9 => h9) rfl d_Rv_height_23 ?_
    refine lv_iload_n hx hb d_Rv_height_26 rfl (lv_at hl 3 rfl) ?_
    refine lv_iload_n hx hb d_Rv_height_27 rfl (lv_at hl 2 rfl) ?_
    refine lv_iadd hx hb d_Rv_height_28 ?_
    refine lv_bipush (v := 12) hx hb d_Rv_height_29 (by decide +kernel) ?_
    refine lv_irem hx hb d_Rv_height_31 (by decide) ?_
    refine va_iald hx hb hK hP 3 1 rfl rfl (hb_rem12 as_2 (show ¬ (1000 < p_1) from by have e0 := as_2; rw [Int32.lt_iff_toInt_lt] at e0; have e1 := as_3; rw [Int32.le_iff_toInt_le] at e1; have z0 : (0 : Int32).toInt = 0 := (by decide +kernel); have z1 : (12 : Int32).toInt = 12 := (by decide +kernel); have z2 : (1000 : Int32).toInt = 1000 := (by decide +kernel); rw [Int32.lt_iff_toInt_lt]; omega) as_0 (show ¬ (1000 < p_0) from by have e0 := as_0; rw [Int32.lt_iff_toInt_lt] at e0; have e1 := c_1; rw [Int32.le_iff_toInt_le] at e1; have z0 : (0 : Int32).toInt = 0 := (by decide +kernel); have z1 : (500 : Int32).toInt = 500 := (by decide +kernel); have z2 : (1000 : Int32).toInt = 1000 := (by decide +kernel); rw [Int32.lt_iff_toInt_lt]; omega)) d_Rv_height_32 ?_
    refine hb_ti 0 rfl ?_
    refine lv_goto (tgt := 39) hx hb d_Rv_height_33 (by decide) ?_
    exact W.iret (v := 0) hx hb hr (fun t ht hW => ⟨0, rfl, (by unfold f_Rv_height; rw [if_neg c_1]), ht⟩) t_nil d_Rv_height_39
def f_Rv_flowIn (p_0 : Int32) (p_1 : Int32) : Int32 := if p_1 = 11 then (if 500 ≤ (p_0 + 1) then (0) else (0)) else (0)
set_option maxHeartbeats 4000000 in
set_option maxRecDepth 100000 in
theorem c_Rv_flowIn (l : Launch) (dC : Nat → ClassId) (dI : Nat → Nat → Nat) (a : Nat → Nat) (k : Nat → ClassId) (L : List Nat) (hL : L.length = 40)  (p_0 : Int32) (p_1 : Int32) (as_0 : ¬ (p_0 < 0)) (as_1 : ¬ (500 ≤ p_0)) (as_2 : ¬ (p_1 < 0)) (as_3 : ¬ (12 ≤ p_1)) : Met l y_Rv_flowIn (.code y_Rv_flowIn b_Rv_flowIn 4 (some .int) :: TB) ({ frames := 1, cells := 0, slots := 0, locals := 23 }) (va_Pc [.ref (a 1), .int p_0, .int p_1] (PR dC dI (XW a k L) (XT k))) (vp_Si (fun r => r = f_Rv_flowIn p_0 p_1)) 0 0 (fun _ => False) := by
  refine Met.ofW (cc := b_Rv_flowIn) (maxL := 4) (ret := (some .int)) (by decide) rfl ?_
  intro p e s m args below meth c s₁ B hml hv
  obtain ⟨rfl, hP, hK, hN⟩ := hv
  have hx := B.exec
  have hb := B.bytes
  have hr := B.returns
  have hts := atoms_spec (ws := (.code y_Rv_flowIn b_Rv_flowIn 4 (some .int) :: TB)) B.pre
  have htb := fun w (h : w ∈ TB) => hts w (List.mem_cons_of_mem _ h)
  have hown : s.vm.findClass R_Rv = some m.cls := findClass_of_methodNamed B.named
  have hlocks := B.notSynchronized
  have hl := lv_entry ([.ref (a 1), .int p_0, .int p_1]) (n := 4) (Nat.le_of_ble_eq_true rfl)
  rw [lg_entry_eq]
  generalize (lg_sl ([.ref (a 1), .int p_0, .int p_1]) ++ List.replicate (4 - (lg_sl ([.ref (a 1), .int p_0, .int p_1])).length) Slot.unset).toArray = ls at hl ⊢
  have hl : lv_has ls 4 [(0, .ref (a 1)), (1, .int p_0), (2, .int p_1)] := hl
  refine lv_iload_n hx hb d_Rv_flowIn_0 rfl (lv_at hl 2 rfl) ?_
  refine lv_bipush (v := 11) hx hb d_Rv_flowIn_1 (by decide +kernel) ?_
  refine lv_icmp_ne (tgt := 17) hx hb d_Rv_flowIn_3 (by decide) (fun c_1 => ?_) (fun c_1 => ?_)
  · refine lv_aload_n hx hb d_Rv_flowIn_17 rfl (lv_at hl 0 rfl) ?_
    refine lv_iload_n hx hb d_Rv_flowIn_18 rfl (lv_at hl 1 rfl) ?_
    refine lv_iload_n hx hb d_Rv_flowIn_19 rfl (lv_at hl 2 rfl) ?_
    refine lv_iconst (v := 1) hx hb d_Rv_flowIn_20 (by decide +kernel) ?_
    refine lv_iadd hx hb d_Rv_flowIn_21 ?_
    refine vp_callSi (va_Run.run (va_runV (As := [.int p_0, .int (p_1 + 1)]) (rest := []) ⟨hx, hb, hml, hown, htb⟩ (c_Rv_height l dC dI a k L hL p_0 (p_1 + 1) as_0 (show ¬ (500 < p_0) from by have e0 := as_0; rw [Int32.lt_iff_toInt_lt] at e0; have e1 := as_1; rw [Int32.le_iff_toInt_le] at e1; have z0 : (0 : Int32).toInt = 0 := (by decide +kernel); have z1 : (500 : Int32).toInt = 500 := (by decide +kernel); rw [Int32.lt_iff_toInt_lt]; omega) (show ¬ ((p_1 + 1) < 0) from by have e0 := as_2; rw [Int32.lt_iff_toInt_lt] at e0; have e1 := as_3; rw [Int32.le_iff_toInt_le] at e1; have e2 := c_1; rw [← Int32.toInt_inj] at e2; have z0 : (0 : Int32).toInt = 0 := (by decide +kernel); have z1 : (1 : Int32).toInt = 1 := (by decide +kernel); have z2 : (11 : Int32).toInt = 11 := (by decide +kernel); have z3 : (12 : Int32).toInt = 12 := (by decide +kernel); have ss := fb_addI (x := p_1) (y := 1) (by omega) (by omega); rw [Int32.lt_iff_toInt_lt]; omega) (show ¬ (12 ≤ (p_1 + 1)) from by have e0 := as_2; rw [Int32.lt_iff_toInt_lt] at e0; have e1 := as_3; rw [Int32.le_iff_toInt_le] at e1; have e2 := c_1; rw [← Int32.toInt_inj] at e2; have z0 : (0 : Int32).toInt = 0 := (by decide +kernel); have z1 : (1 : Int32).toInt = 1 := (by decide +kernel); have z2 : (11 : Int32).toInt = 11 := (by decide +kernel); have z3 : (12 : Int32).toInt = 12 := (by decide +kernel); have ss := fb_addI (x := p_1) (y := 1) (by omega) (by omega); rw [Int32.le_iff_toInt_le]; omega)) (cwV 2 htb (gd_V tw_139 tw_140 tw_141 tw_58 tw_138) rfl rfl rfl (by decide +kernel) ⟨Nat.le_of_ble_eq_true rfl, Nat.le_of_ble_eq_true rfl⟩) ⟨pr_blind, va_recv hK hP (ci := 1) (q0 := 1) rfl rfl, pr_pre hP hK hN⟩ rfl rfl hl.1 rfl (lv_room (Nat.le_of_ble_eq_true rfl)) d_Rv_flowIn_22 ⟨Nat.le_of_ble_eq_true rfl, Nat.le_of_ble_eq_true rfl⟩)) (fun r er => ?_)
    subst er
    refine hb_ti 0 (by unfold f_Rv_height; rw [if_neg as_1]) ?_
    refine lv_istore_n (lv' := [(3, .int 0), (0, .ref (a 1)), (1, .int p_0), (2, .int p_1)]) hx hb d_Rv_flowIn_25 rfl hl (by decide) rfl (fun ls hl => ?_)
    refine lv_iload_n hx hb d_Rv_flowIn_26 rfl (lv_at hl 0 rfl) ?_
    refine lv_aload_n hx hb d_Rv_flowIn_27 rfl (lv_at hl 1 rfl) ?_
    refine lv_iload_n hx hb d_Rv_flowIn_28 rfl (lv_at hl 2 rfl) ?_
    refine lv_iload_n hx hb d_Rv_flowIn_29 rfl (lv_at hl 3 rfl) ?_
    refine vp_callSi (va_Run.run (va_runV (As := [.int p_0, .int p_1]) (rest := [.int 0]) ⟨hx, hb, hml, hown, htb⟩ (c_Rv_height l dC dI a k L hL p_0 p_1 as_0 (show ¬ (500 < p_0) from by have e0 := as_0; rw [Int32.lt_iff_toInt_lt] at e0; have e1 := as_1; rw [Int32.le_iff_toInt_le] at e1; have z0 : (0 : Int32).toInt = 0 := (by decide +kernel); have z1 : (500 : Int32).toInt = 500 := (by decide +kernel); rw [Int32.lt_iff_toInt_lt]; omega) as_2 as_3) (cwV 2 htb (gd_V tw_139 tw_140 tw_141 tw_58 tw_138) rfl rfl rfl (by decide +kernel) ⟨Nat.le_of_ble_eq_true rfl, Nat.le_of_ble_eq_true rfl⟩) ⟨pr_blind, va_recv hK hP (ci := 1) (q0 := 1) rfl rfl, pr_pre hP hK hN⟩ rfl rfl hl.1 rfl (lv_room (Nat.le_of_ble_eq_true rfl)) d_Rv_flowIn_30 ⟨Nat.le_of_ble_eq_true rfl, Nat.le_of_ble_eq_true rfl⟩)) (fun r er => ?_)
    subst er
    refine hb_ti 0 (by unfold f_Rv_height; rw [if_neg as_1]) ?_
    refine lv_isub hx hb d_Rv_flowIn_33 ?_
    refine hb_ti 0 (by decide +kernel) ?_
    exact W.iret (v := 0) hx hb hr (fun t ht hW => ⟨0, rfl, (by unfold f_Rv_flowIn; rw [if_neg c_1]), ht⟩) t_nil d_Rv_flowIn_34
  · refine lv_aload_n hx hb d_Rv_flowIn_6 rfl (lv_at hl 0 rfl) ?_
    refine lv_iload_n hx hb d_Rv_flowIn_7 rfl (lv_at hl 1 rfl) ?_
    refine lv_iconst (v := 1) hx hb d_Rv_flowIn_8 (by decide +kernel) ?_
    refine lv_iadd hx hb d_Rv_flowIn_9 ?_
    refine lv_iconst (v := 0) hx hb d_Rv_flowIn_10 (by decide +kernel) ?_
    refine vp_callSi (va_Run.run (va_runV (As := [.int (p_0 + 1), .int 0]) (rest := []) ⟨hx, hb, hml, hown, htb⟩ (c_Rv_height l dC dI a k L hL (p_0 + 1) 0 (show ¬ ((p_0 + 1) < 0) from by have e0 := as_0; rw [Int32.lt_iff_toInt_lt] at e0; have e1 := as_1; rw [Int32.le_iff_toInt_le] at e1; have z0 : (0 : Int32).toInt = 0 := (by decide +kernel); have z1 : (1 : Int32).toInt = 1 := (by decide +kernel); have z2 : (500 : Int32).toInt = 500 := (by decide +kernel); have ss := fb_addI (x := p_0) (y := 1) (by omega) (by omega); rw [Int32.lt_iff_toInt_lt]; omega) (show ¬ (500 < (p_0 + 1)) from by have e0 := as_0; rw [Int32.lt_iff_toInt_lt] at e0; have e1 := as_1; rw [Int32.le_iff_toInt_le] at e1; have z0 : (0 : Int32).toInt = 0 := (by decide +kernel); have z1 : (1 : Int32).toInt = 1 := (by decide +kernel); have z2 : (500 : Int32).toInt = 500 := (by decide +kernel); have ss := fb_addI (x := p_0) (y := 1) (by omega) (by omega); rw [Int32.lt_iff_toInt_lt]; omega) (by decide +kernel) (by decide +kernel)) (cwV 2 htb (gd_V tw_139 tw_140 tw_141 tw_58 tw_138) rfl rfl rfl (by decide +kernel) ⟨Nat.le_of_ble_eq_true rfl, Nat.le_of_ble_eq_true rfl⟩) ⟨pr_blind, va_recv hK hP (ci := 1) (q0 := 1) rfl rfl, pr_pre hP hK hN⟩ rfl rfl hl.1 rfl (lv_room (Nat.le_of_ble_eq_true rfl)) d_Rv_flowIn_11 ⟨Nat.le_of_ble_eq_true rfl, Nat.le_of_ble_eq_true rfl⟩)) (fun r er => ?_)
    subst er
    by_cases c_2 : 500 ≤ (p_0 + 1)
    · refine hb_ti 0 (by unfold f_Rv_height; rw [if_pos c_2]) ?_
      refine lv_goto (tgt := 25) hx hb d_Rv_flowIn_14 (by decide) ?_
      refine lv_istore_n (lv' := [(3, .int 0), (0, .ref (a 1)), (1, .int p_0), (2, .int p_1)]) hx hb d_Rv_flowIn_25 rfl hl (by decide) rfl (fun ls hl => ?_)
      refine lv_iload_n hx hb d_Rv_flowIn_26 rfl (lv_at hl 0 rfl) ?_
      refine lv_aload_n hx hb d_Rv_flowIn_27 rfl (lv_at hl 1 rfl) ?_
      refine lv_iload_n hx hb d_Rv_flowIn_28 rfl (lv_at hl 2 rfl) ?_
      refine lv_iload_n hx hb d_Rv_flowIn_29 rfl (lv_at hl 3 rfl) ?_
      refine vp_callSi (va_Run.run (va_runV (As := [.int p_0, .int p_1]) (rest := [.int 0]) ⟨hx, hb, hml, hown, htb⟩ (c_Rv_height l dC dI a k L hL p_0 p_1 as_0 (show ¬ (500 < p_0) from by have e0 := as_0; rw [Int32.lt_iff_toInt_lt] at e0; have e1 := as_1; rw [Int32.le_iff_toInt_le] at e1; have z0 : (0 : Int32).toInt = 0 := (by decide +kernel); have z1 : (500 : Int32).toInt = 500 := (by decide +kernel); rw [Int32.lt_iff_toInt_lt]; omega) as_2 as_3) (cwV 2 htb (gd_V tw_139 tw_140 tw_141 tw_58 tw_138) rfl rfl rfl (by decide +kernel) ⟨Nat.le_of_ble_eq_true rfl, Nat.le_of_ble_eq_true rfl⟩) ⟨pr_blind, va_recv hK hP (ci := 1) (q0 := 1) rfl rfl, pr_pre hP hK hN⟩ rfl rfl hl.1 rfl (lv_room (Nat.le_of_ble_eq_true rfl)) d_Rv_flowIn_30 ⟨Nat.le_of_ble_eq_true rfl, Nat.le_of_ble_eq_true rfl⟩)) (fun r er => ?_)
      subst er
      refine hb_ti 0 (by unfold f_Rv_height; rw [if_neg as_1]) ?_
      refine lv_isub hx hb d_Rv_flowIn_33 ?_
      refine hb_ti 0 (by decide +kernel) ?_
      exact W.iret (v := 0) hx hb hr (fun t ht hW => ⟨0, rfl, (by unfold f_Rv_flowIn; rw [if_pos c_1, if_pos c_2]), ht⟩) t_nil d_Rv_flowIn_34
    · refine hb_ti 0 (by unfold f_Rv_height; rw [if_neg c_2]) ?_
      refine lv_goto (tgt := 25) hx hb d_Rv_flowIn_14 (by decide) ?_
      refine lv_istore_n (lv' := [(3, .int 0), (0, .ref (a 1)), (1, .int p_0), (2, .int p_1)]) hx hb d_Rv_flowIn_25 rfl hl (by decide) rfl (fun ls hl => ?_)
      refine lv_iload_n hx hb d_Rv_flowIn_26 rfl (lv_at hl 0 rfl) ?_
      refine lv_aload_n hx hb d_Rv_flowIn_27 rfl (lv_at hl 1 rfl) ?_
      refine lv_iload_n hx hb d_Rv_flowIn_28 rfl (lv_at hl 2 rfl) ?_
      refine lv_iload_n hx hb d_Rv_flowIn_29 rfl (lv_at hl 3 rfl) ?_
      refine vp_callSi (va_Run.run (va_runV (As := [.int p_0, .int p_1]) (rest := [.int 0]) ⟨hx, hb, hml, hown, htb⟩ (c_Rv_height l dC dI a k L hL p_0 p_1 as_0 (show ¬ (500 < p_0) from by have e0 := as_0; rw [Int32.lt_iff_toInt_lt] at e0; have e1 := as_1; rw [Int32.le_iff_toInt_le] at e1; have z0 : (0 : Int32).toInt = 0 := (by decide +kernel); have z1 : (500 : Int32).toInt = 500 := (by decide +kernel); rw [Int32.lt_iff_toInt_lt]; omega) as_2 as_3) (cwV 2 htb (gd_V tw_139 tw_140 tw_141 tw_58 tw_138) rfl rfl rfl (by decide +kernel) ⟨Nat.le_of_ble_eq_true rfl, Nat.le_of_ble_eq_true rfl⟩) ⟨pr_blind, va_recv hK hP (ci := 1) (q0 := 1) rfl rfl, pr_pre hP hK hN⟩ rfl rfl hl.1 rfl (lv_room (Nat.le_of_ble_eq_true rfl)) d_Rv_flowIn_30 ⟨Nat.le_of_ble_eq_true rfl, Nat.le_of_ble_eq_true rfl⟩)) (fun r er => ?_)
      subst er
      refine hb_ti 0 (by unfold f_Rv_height; rw [if_neg as_1]) ?_
      refine lv_isub hx hb d_Rv_flowIn_33 ?_
      refine hb_ti 0 (by decide +kernel) ?_
      exact W.iret (v := 0) hx hb hr (fun t ht hW => ⟨0, rfl, (by unfold f_Rv_flowIn; rw [if_pos c_1, if_neg c_2]), ht⟩) t_nil d_Rv_flowIn_34
def f_WM_flow (p_0 : Int32) (p_1 : Int32) : Int32 := if p_0 < 0 then ((-1000)) else (if 500 ≤ p_0 then ((-1000)) else (if p_1 < 0 then ((-1000)) else (if 12 ≤ p_1 then ((-1000)) else (if p_1 = 11 then (if 500 ≤ (p_0 + 1) then (0) else (0)) else (0)))))
set_option maxHeartbeats 4000000 in
set_option maxRecDepth 100000 in
theorem c_WM_flow (l : Launch) (dC : Nat → ClassId) (dI : Nat → Nat → Nat) (a : Nat → Nat) (k : Nat → ClassId) (L : List Nat) (hL : L.length = 40)  (p_0 : Int32) (p_1 : Int32)  : Met l y_WM_flow (.code y_WM_flow b_WM_flow 3 (some .int) :: TB) ({ frames := 2, cells := 0, slots := 0, locals := 46 }) (va_Pc [.ref (a 0), .int p_0, .int p_1] (PR dC dI (XW a k L) (XT k))) (vp_Si (fun r => r = f_WM_flow p_0 p_1)) 0 0 (fun _ => False) := by
  refine Met.ofW (cc := b_WM_flow) (maxL := 3) (ret := (some .int)) (by decide) rfl ?_
  intro p e s m args below meth c s₁ B hml hv
  obtain ⟨rfl, hP, hK, hN⟩ := hv
  have hx := B.exec
  have hb := B.bytes
  have hr := B.returns
  have hts := atoms_spec (ws := (.code y_WM_flow b_WM_flow 3 (some .int) :: TB)) B.pre
  have htb := fun w (h : w ∈ TB) => hts w (List.mem_cons_of_mem _ h)
  have hown : s.vm.findClass R_WM = some m.cls := findClass_of_methodNamed B.named
  have hlocks := B.notSynchronized
  have hl := lv_entry ([.ref (a 0), .int p_0, .int p_1]) (n := 3) (Nat.le_of_ble_eq_true rfl)
  rw [lg_entry_eq]
  generalize (lg_sl ([.ref (a 0), .int p_0, .int p_1]) ++ List.replicate (3 - (lg_sl ([.ref (a 0), .int p_0, .int p_1])).length) Slot.unset).toArray = ls at hl ⊢
  have hl : lv_has ls 3 [(0, .ref (a 0)), (1, .int p_0), (2, .int p_1)] := hl
  refine lv_iload_n hx hb d_WM_flow_0 rfl (lv_at hl 1 rfl) ?_
  refine vp_callSi (va_Run.run (va_runS (As := [.int p_0]) (rest := []) ⟨hx, hb, hml, hown, htb⟩ (c_WM_isDay l p_0) (cwS 1 htb (gd_S tw_125 tw_126 tw_124 tw_123) rfl rfl rfl (by decide +kernel) ⟨Nat.le_of_ble_eq_true rfl, Nat.le_of_ble_eq_true rfl⟩) ⟨fun _ _ _ _ h => h, fun U _ _ => ⟨rfl, trivial⟩⟩ rfl rfl hl.1 rfl (lv_room (Nat.le_of_ble_eq_true rfl)) d_WM_flow_1 ⟨Nat.le_of_ble_eq_true rfl, Nat.le_of_ble_eq_true rfl⟩)) (fun r er => ?_)
  subst er
  by_cases c_1 : p_0 < 0
  · refine hb_ti 0 (by unfold f_WM_isDay; rw [if_pos c_1]) ?_
    refine lv_if_eq (tgt := 26) hx hb d_WM_flow_4 (by decide) (fun _ => ?_) (fun h => absurd (by decide +kernel) h)
    refine lv_sipush (v := (-1000)) hx hb d_WM_flow_26 (by decide +kernel) ?_
    exact W.iret (v := (-1000)) hx hb hr (fun t ht hW => ⟨(-1000), rfl, (by unfold f_WM_flow; rw [if_pos c_1]), ht⟩) t_nil d_WM_flow_29
  · by_cases c_2 : 500 ≤ p_0
    · refine hb_ti 0 (by unfold f_WM_isDay; rw [if_neg c_1, if_pos c_2]) ?_
      refine lv_if_eq (tgt := 26) hx hb d_WM_flow_4 (by decide) (fun _ => ?_) (fun h => absurd (by decide +kernel) h)
      refine lv_sipush (v := (-1000)) hx hb d_WM_flow_26 (by decide +kernel) ?_
      exact W.iret (v := (-1000)) hx hb hr (fun t ht hW => ⟨(-1000), rfl, (by unfold f_WM_flow; rw [if_neg c_1, if_pos c_2]), ht⟩) t_nil d_WM_flow_29
    · refine hb_ti 1 (by unfold f_WM_isDay; rw [if_neg c_1, if_neg c_2]) ?_
      refine lv_if_eq (tgt := 26) hx hb d_WM_flow_4 (by decide) (fun h => absurd h (by decide +kernel)) (fun _ => ?_)
      refine lv_iload_n hx hb d_WM_flow_7 rfl (lv_at hl 2 rfl) ?_
      refine vp_callSi (va_Run.run (va_runS (As := [.int p_1]) (rest := []) ⟨hx, hb, hml, hown, htb⟩ (c_WM_isHour l p_1) (cwS 1 htb (gd_S tw_128 tw_129 tw_124 tw_127) rfl rfl rfl (by decide +kernel) ⟨Nat.le_of_ble_eq_true rfl, Nat.le_of_ble_eq_true rfl⟩) ⟨fun _ _ _ _ h => h, fun U _ _ => ⟨rfl, trivial⟩⟩ rfl rfl hl.1 rfl (lv_room (Nat.le_of_ble_eq_true rfl)) d_WM_flow_8 ⟨Nat.le_of_ble_eq_true rfl, Nat.le_of_ble_eq_true rfl⟩)) (fun r er => ?_)
      subst er
      by_cases c_3 : p_1 < 0
      · refine hb_ti 0 (by unfold f_WM_isHour; rw [if_pos c_3]) ?_
        refine lv_if_eq (tgt := 26) hx hb d_WM_flow_11 (by decide) (fun _ => ?_) (fun h => absurd (by decide +kernel) h)
        refine lv_sipush (v := (-1000)) hx hb d_WM_flow_26 (by decide +kernel) ?_
        exact W.iret (v := (-1000)) hx hb hr (fun t ht hW => ⟨(-1000), rfl, (by unfold f_WM_flow; rw [if_neg c_1, if_neg c_2, if_pos c_3]), ht⟩) t_nil d_WM_flow_29
      · by_cases c_4 : 12 ≤ p_1
        · refine hb_ti 0 (by unfold f_WM_isHour; rw [if_neg c_3, if_pos c_4]) ?_
          refine lv_if_eq (tgt := 26) hx hb d_WM_flow_11 (by decide) (fun _ => ?_) (fun h => absurd (by decide +kernel) h)
          refine lv_sipush (v := (-1000)) hx hb d_WM_flow_26 (by decide +kernel) ?_
          exact W.iret (v := (-1000)) hx hb hr (fun t ht hW => ⟨(-1000), rfl, (by unfold f_WM_flow; rw [if_neg c_1, if_neg c_2, if_neg c_3, if_pos c_4]), ht⟩) t_nil d_WM_flow_29
        · refine hb_ti 1 (by unfold f_WM_isHour; rw [if_neg c_3, if_neg c_4]) ?_
          refine lv_if_eq (tgt := 26) hx hb d_WM_flow_11 (by decide) (fun h => absurd h (by decide +kernel)) (fun _ => ?_)
          refine lv_aload_n hx hb d_WM_flow_14 rfl (lv_at hl 0 rfl) ?_
          refine va_get (D := (dC, dI)) (ci := 0) (v := .ref (a 1)) (C := R_WM) (T := F_WM) (N := 13) hx hb htb i_WM hown hK hP 0 rfl rfl 0 (by decide) (htb (.fieldLink R_WM 12 "WaterMen" "river" "LWaterMen$River;") tw_68) (fun _ h9 => h9) rfl d_WM_flow_15 ?_
          refine lv_iload_n hx hb d_WM_flow_18 rfl (lv_at hl 1 rfl) ?_
          refine lv_iload_n hx hb d_WM_flow_19 rfl (lv_at hl 2 rfl) ?_
          refine vp_callSi (va_Run.run (va_runV (As := [.int p_0, .int p_1]) (rest := []) ⟨hx, hb, hml, hown, htb⟩ (c_Rv_flowIn l dC dI a k L hL p_0 p_1 c_1 c_2 c_3 c_4) (cwV 2 htb (gd_V tw_143 tw_144 tw_145 tw_58 tw_142) rfl rfl rfl (by decide +kernel) ⟨Nat.le_of_ble_eq_true rfl, Nat.le_of_ble_eq_true rfl⟩) ⟨pr_blind, va_recv hK hP (ci := 1) (q0 := 1) rfl rfl, pr_pre hP hK hN⟩ rfl rfl hl.1 rfl (lv_room (Nat.le_of_ble_eq_true rfl)) d_WM_flow_20 ⟨Nat.le_of_ble_eq_true rfl, Nat.le_of_ble_eq_true rfl⟩)) (fun r er => ?_)
          subst er
          by_cases c_5 : p_1 = 11
          · by_cases c_6 : 500 ≤ (p_0 + 1)
            · refine hb_ti 0 (by unfold f_Rv_flowIn; rw [if_pos c_5, if_pos c_6]) ?_
              refine lv_goto (tgt := 29) hx hb d_WM_flow_23 (by decide) ?_
              exact W.iret (v := 0) hx hb hr (fun t ht hW => ⟨0, rfl, (by unfold f_WM_flow; rw [if_neg c_1, if_neg c_2, if_neg c_3, if_neg c_4, if_pos c_5, if_pos c_6]), ht⟩) t_nil d_WM_flow_29
            · refine hb_ti 0 (by unfold f_Rv_flowIn; rw [if_pos c_5, if_neg c_6]) ?_
              refine lv_goto (tgt := 29) hx hb d_WM_flow_23 (by decide) ?_
              exact W.iret (v := 0) hx hb hr (fun t ht hW => ⟨0, rfl, (by unfold f_WM_flow; rw [if_neg c_1, if_neg c_2, if_neg c_3, if_neg c_4, if_pos c_5, if_neg c_6]), ht⟩) t_nil d_WM_flow_29
          · refine hb_ti 0 (by unfold f_Rv_flowIn; rw [if_neg c_5]) ?_
            refine lv_goto (tgt := 29) hx hb d_WM_flow_23 (by decide) ?_
            exact W.iret (v := 0) hx hb hr (fun t ht hW => ⟨0, rfl, (by unfold f_WM_flow; rw [if_neg c_1, if_neg c_2, if_neg c_3, if_neg c_4, if_neg c_5]), ht⟩) t_nil d_WM_flow_29
def f_WM_today  : Int32 := 0
set_option maxHeartbeats 4000000 in
set_option maxRecDepth 100000 in
theorem c_WM_today (l : Launch) (dC : Nat → ClassId) (dI : Nat → Nat → Nat) (a : Nat → Nat) (k : Nat → ClassId) (L : List Nat) (hL : L.length = 40)    : Met l y_WM_today (.code y_WM_today b_WM_today 1 (some .int) :: TB) ({ frames := 0, cells := 0, slots := 0, locals := 0 }) (va_Pc [.ref (a 0)] (PR dC dI (XW a k L) (XT k))) (vp_Si (fun r => r = f_WM_today)) 0 0 (fun _ => False) := by
  refine Met.ofW (cc := b_WM_today) (maxL := 1) (ret := (some .int)) (by decide) rfl ?_
  intro p e s m args below meth c s₁ B hml hv
  obtain ⟨rfl, hP, hK, hN⟩ := hv
  have hx := B.exec
  have hb := B.bytes
  have hr := B.returns
  have hts := atoms_spec (ws := (.code y_WM_today b_WM_today 1 (some .int) :: TB)) B.pre
  have htb := fun w (h : w ∈ TB) => hts w (List.mem_cons_of_mem _ h)
  have hown : s.vm.findClass R_WM = some m.cls := findClass_of_methodNamed B.named
  have hlocks := B.notSynchronized
  have hl := lv_entry ([.ref (a 0)]) (n := 1) (Nat.le_of_ble_eq_true rfl)
  rw [lg_entry_eq]
  generalize (lg_sl ([.ref (a 0)]) ++ List.replicate (1 - (lg_sl ([.ref (a 0)])).length) Slot.unset).toArray = ls at hl ⊢
  have hl : lv_has ls 1 [(0, .ref (a 0))] := hl
  refine lv_aload_n hx hb d_WM_today_0 rfl (lv_at hl 0 rfl) ?_
  refine va_get (D := (dC, dI)) (ci := 0) (v := .int 0) (C := R_WM) (T := F_WM) (N := 13) hx hb htb i_WM hown hK hP 0 rfl rfl 10 (by decide) (htb (.fieldLink R_WM 155 "WaterMen" "now" "I") tw_146) (fun _ h9 => h9) rfl d_WM_today_1 ?_
  refine lv_sipush (v := 720) hx hb d_WM_today_4 (by decide +kernel) ?_
  refine lv_idiv hx hb d_WM_today_7 (by decide) ?_
  refine hb_ti 0 (by decide +kernel) ?_
  exact W.iret (v := 0) hx hb hr (fun t ht hW => ⟨0, rfl, rfl, ht⟩) t_nil d_WM_today_8
def f_Rv_isFrozen (p_0 : Int32) : Int32 := if p_0 < 0 then (0) else (if 500 ≤ p_0 then (0) else (0))
set_option maxHeartbeats 4000000 in
set_option maxRecDepth 100000 in
theorem c_Rv_isFrozen (l : Launch) (dC : Nat → ClassId) (dI : Nat → Nat → Nat) (a : Nat → Nat) (k : Nat → ClassId) (L : List Nat) (hL : L.length = 40)  (p_0 : Int32)  : Met l y_Rv_isFrozen (.code y_Rv_isFrozen b_Rv_isFrozen 2 (some .boolean) :: TB) ({ frames := 1, cells := 0, slots := 0, locals := 20 }) (va_Pc [.ref (a 1), .int p_0] (PR dC dI (XW a k L) (XT k))) (vp_Si (fun r => r = f_Rv_isFrozen p_0)) 0 0 (fun _ => False) := by
  refine Met.ofW (cc := b_Rv_isFrozen) (maxL := 2) (ret := (some .boolean)) (by decide) rfl ?_
  intro p e s m args below meth c s₁ B hml hv
  obtain ⟨rfl, hP, hK, hN⟩ := hv
  have hx := B.exec
  have hb := B.bytes
  have hr := B.returns
  have hts := atoms_spec (ws := (.code y_Rv_isFrozen b_Rv_isFrozen 2 (some .boolean) :: TB)) B.pre
  have htb := fun w (h : w ∈ TB) => hts w (List.mem_cons_of_mem _ h)
  have hown : s.vm.findClass R_Rv = some m.cls := findClass_of_methodNamed B.named
  have hlocks := B.notSynchronized
  have hl := lv_entry ([.ref (a 1), .int p_0]) (n := 2) (Nat.le_of_ble_eq_true rfl)
  rw [lg_entry_eq]
  generalize (lg_sl ([.ref (a 1), .int p_0]) ++ List.replicate (2 - (lg_sl ([.ref (a 1), .int p_0])).length) Slot.unset).toArray = ls at hl ⊢
  have hl : lv_has ls 2 [(0, .ref (a 1)), (1, .int p_0)] := hl
  refine lv_iload_n hx hb d_Rv_isFrozen_0 rfl (lv_at hl 1 rfl) ?_
  refine vp_callSi (va_Run.run (va_runSN (As := [.int p_0]) (rest := []) ⟨hx, hb, hml, hown, htb⟩ (c_WM_isDay l p_0) ⟨va_cnB 1 htb (gd_I tw_123) rfl rfl rfl (hN.1 _ nw_5) (htb (.initialized R_WM) tw_124) (by decide +kernel) ⟨Nat.le_of_ble_eq_true rfl, Nat.le_of_ble_eq_true rfl⟩, (htb (.static y_WM_isDay) tw_126), trivial⟩ ⟨fun _ _ _ _ h => h, fun U _ _ => ⟨rfl, trivial⟩⟩ rfl rfl hl.1 rfl (lv_room (Nat.le_of_ble_eq_true rfl)) d_Rv_isFrozen_1 ⟨Nat.le_of_ble_eq_true rfl, Nat.le_of_ble_eq_true rfl⟩)) (fun r er => ?_)
  subst er
  by_cases c_1 : p_0 < 0
  · refine hb_ti 0 (by unfold f_WM_isDay; rw [if_pos c_1]) ?_
    refine lv_if_eq (tgt := 20) hx hb d_Rv_isFrozen_4 (by decide) (fun _ => ?_) (fun h => absurd (by decide +kernel) h)
    refine lv_iconst (v := 0) hx hb d_Rv_isFrozen_20 (by decide +kernel) ?_
    exact W.zret (v := 0) hx hb hr (by decide +kernel) (fun t ht hW => ⟨0, rfl, (by unfold f_Rv_isFrozen; rw [if_pos c_1]), ht⟩) t_nil d_Rv_isFrozen_21
  · by_cases c_2 : 500 ≤ p_0
    · refine hb_ti 0 (by unfold f_WM_isDay; rw [if_neg c_1, if_pos c_2]) ?_
      refine lv_if_eq (tgt := 20) hx hb d_Rv_isFrozen_4 (by decide) (fun _ => ?_) (fun h => absurd (by decide +kernel) h)
      refine lv_iconst (v := 0) hx hb d_Rv_isFrozen_20 (by decide +kernel) ?_
      exact W.zret (v := 0) hx hb hr (by decide +kernel) (fun t ht hW => ⟨0, rfl, (by unfold f_Rv_isFrozen; rw [if_neg c_1, if_pos c_2]), ht⟩) t_nil d_Rv_isFrozen_21
    · refine hb_ti 1 (by unfold f_WM_isDay; rw [if_neg c_1, if_neg c_2]) ?_
      refine lv_if_eq (tgt := 20) hx hb d_Rv_isFrozen_4 (by decide) (fun h => absurd h (by decide +kernel)) (fun _ => ?_)
      refine lv_aload_n hx hb d_Rv_isFrozen_7 rfl (lv_at hl 0 rfl) ?_
      refine va_get (D := (dC, dI)) (ci := 1) (v := .ref (a 5)) (C := R_Rv) (T := F_Rv) (N := 6) hx hb htb i_Rv hown hK hP 1 rfl rfl 3 (by decide) (htb (.fieldLink R_Rv 23 "WaterMen$River" "frozen" "[Z") tw_64) (fun _ h9 => h9) rfl d_Rv_isFrozen_8 ?_
      refine lv_iload_n hx hb d_Rv_isFrozen_11 rfl (lv_at hl 1 rfl) ?_
      refine va_zald hx hb hK hP 5 3 rfl rfl (hb_in c_1 c_2 (by decide +kernel)) d_Rv_isFrozen_12 ?_
      refine hb_ti 0 rfl ?_
      refine lv_if_eq (tgt := 20) hx hb d_Rv_isFrozen_13 (by decide) (fun _ => ?_) (fun h => absurd (by decide +kernel) h)
      refine lv_iconst (v := 0) hx hb d_Rv_isFrozen_20 (by decide +kernel) ?_
      exact W.zret (v := 0) hx hb hr (by decide +kernel) (fun t ht hW => ⟨0, rfl, (by unfold f_Rv_isFrozen; rw [if_neg c_1, if_neg c_2]), ht⟩) t_nil d_Rv_isFrozen_21
def f_WM_frost (p_0 : Int32) (p_1 : Int32) : Int32 := if p_0 < 0 then ((-1)) else (if 500 ≤ p_0 then ((-1)) else (if p_1 < 0 then ((-1)) else (if p_1 ≤ 1 then (if p_1 = 1 then (0) else (0)) else ((-1)))))
set_option maxHeartbeats 4000000 in
set_option maxRecDepth 100000 in
theorem c_WM_frost (l : Launch) (dC : Nat → ClassId) (dI : Nat → Nat → Nat) (a : Nat → Nat) (k : Nat → ClassId) (L : List Nat) (hL : L.length = 40) (sz : Nat) (p_0 : Int32) (p_1 : Int32)  : Met l y_WM_frost (.code y_WM_frost b_WM_frost 4 (some .int) :: TB) ({ frames := 2, cells := 0, slots := 0, locals := 41 }) (va_Pc [.ref (a 0), .int p_0, .int p_1] (PC dC dI (XW a k L) (XT k) sz)) (va_Qi (fun r (_ : Unit) => r = f_WM_frost p_0 p_1) (fun (_ : Unit) (_ : State) => True) (va_A (XW a k L) sz)) 0 0 (va_A (XW a k L) sz) := by
  refine Met.ofW (cc := b_WM_frost) (maxL := 4) (ret := (some .int)) (by decide) rfl ?_
  intro p e s m args below meth c s₁ B hml hv
  obtain ⟨rfl, hsz, hP, hK, hD0, hN⟩ := hv
  have hx := B.exec
  have hb := B.bytes
  have hr := B.returns
  have hts := atoms_spec (ws := (.code y_WM_frost b_WM_frost 4 (some .int) :: TB)) B.pre
  have htb := fun w (h : w ∈ TB) => hts w (List.mem_cons_of_mem _ h)
  have hown : s.vm.findClass R_WM = some m.cls := findClass_of_methodNamed B.named
  have hlocks := B.notSynchronized
  have hl := lv_entry ([.ref (a 0), .int p_0, .int p_1]) (n := 4) (Nat.le_of_ble_eq_true rfl)
  rw [lg_entry_eq]
  generalize (lg_sl ([.ref (a 0), .int p_0, .int p_1]) ++ List.replicate (4 - (lg_sl ([.ref (a 0), .int p_0, .int p_1])).length) Slot.unset).toArray = ls at hl ⊢
  have hl : lv_has ls 4 [(0, .ref (a 0)), (1, .int p_0), (2, .int p_1)] := hl
  subst hsz
  have hD := hD0.self (sz := s.heap.size)
  obtain ⟨A, hAe⟩ : ∃ A, va_A (XW a k L) s.heap.size = A := ⟨_, rfl⟩
  rw [hAe] at hD
  have hA : ∀ q : Nat, s.heap.size ≤ q → A q := fun q h => by rw [← hAe]; exact Or.inr h
  have hS : va_S A s.heap s.heap [] := va_S.rf
  have hP := hP
  refine lv_iload_n hx hb d_WM_frost_0 rfl (lv_at hl 1 rfl) ?_
  refine vp_callSi (va_Run.run (va_runS (As := [.int p_0]) (rest := []) ⟨hx, hb, hml, hown, htb⟩ (c_WM_isDay l p_0) (cwS 1 htb (gd_S tw_125 tw_126 tw_124 tw_123) rfl rfl rfl (by decide +kernel) ⟨Nat.le_of_ble_eq_true rfl, Nat.le_of_ble_eq_true rfl⟩) ⟨fun _ _ _ _ h => h, fun U _ _ => ⟨rfl, trivial⟩⟩ rfl rfl hl.1 rfl (lv_room (Nat.le_of_ble_eq_true rfl)) d_WM_frost_1 ⟨Nat.le_of_ble_eq_true rfl, Nat.le_of_ble_eq_true rfl⟩)) (fun r er => ?_)
  subst er
  by_cases c_1 : p_0 < 0
  · refine hb_ti 0 (by unfold f_WM_isDay; rw [if_pos c_1]) ?_
    refine lv_if_eq (tgt := 24) hx hb d_WM_frost_4 (by decide) (fun _ => ?_) (fun h => absurd (by decide +kernel) h)
    refine lv_iconst (v := (-1)) hx hb d_WM_frost_24 (by decide +kernel) ?_
    refine W.widen (k := 0) (n := 0) (Nat.le_of_ble_eq_true rfl) (Nat.le_of_ble_eq_true rfl) ?_
    exact W.iret (v := (-1)) hx hb hr (fun t ht hW => ⟨⟨(-1), (), rfl, (by unfold f_WM_frost; rw [if_pos c_1]), trivial⟩, by rw [hAe]; exact hS.F ht⟩) (by rw [hAe]; exact hS.2.2) d_WM_frost_25
  · by_cases c_2 : 500 ≤ p_0
    · refine hb_ti 0 (by unfold f_WM_isDay; rw [if_neg c_1, if_pos c_2]) ?_
      refine lv_if_eq (tgt := 24) hx hb d_WM_frost_4 (by decide) (fun _ => ?_) (fun h => absurd (by decide +kernel) h)
      refine lv_iconst (v := (-1)) hx hb d_WM_frost_24 (by decide +kernel) ?_
      refine W.widen (k := 0) (n := 0) (Nat.le_of_ble_eq_true rfl) (Nat.le_of_ble_eq_true rfl) ?_
      exact W.iret (v := (-1)) hx hb hr (fun t ht hW => ⟨⟨(-1), (), rfl, (by unfold f_WM_frost; rw [if_neg c_1, if_pos c_2]), trivial⟩, by rw [hAe]; exact hS.F ht⟩) (by rw [hAe]; exact hS.2.2) d_WM_frost_25
    · refine hb_ti 1 (by unfold f_WM_isDay; rw [if_neg c_1, if_neg c_2]) ?_
      refine lv_if_eq (tgt := 24) hx hb d_WM_frost_4 (by decide) (fun h => absurd h (by decide +kernel)) (fun _ => ?_)
      refine lv_iload_n hx hb d_WM_frost_7 rfl (lv_at hl 1 rfl) ?_
      refine lv_aload_n hx hb d_WM_frost_8 rfl (lv_at hl 0 rfl) ?_
      refine vp_callSi (va_Run.run (va_runV (As := []) (rest := [.int p_0]) ⟨hx, hb, hml, hown, htb⟩ (c_WM_today l dC dI a k L hL) (cwV 0 htb (gd_V tw_148 tw_149 tw_150 tw_124 tw_147) rfl rfl rfl (by decide +kernel) ⟨Nat.le_of_ble_eq_true rfl, Nat.le_of_ble_eq_true rfl⟩) ⟨pr_blind, va_recv hK hP (ci := 0) (q0 := 0) rfl rfl, pr_pre hP hK hN⟩ rfl rfl hl.1 rfl (lv_room (Nat.le_of_ble_eq_true rfl)) d_WM_frost_9 ⟨Nat.le_of_ble_eq_true rfl, Nat.le_of_ble_eq_true rfl⟩)) (fun r er => ?_)
      subst er
      refine hb_ti 0 rfl ?_
      refine lv_icmp_lt (tgt := 24) hx hb d_WM_frost_12 (by decide) (fun h => absurd h c_1) (fun _ => ?_)
      refine lv_iload_n hx hb d_WM_frost_15 rfl (lv_at hl 2 rfl) ?_
      refine lv_if_lt (tgt := 24) hx hb d_WM_frost_16 (by decide) (fun c_3 => ?_) (fun c_3 => ?_)
      · refine lv_iconst (v := (-1)) hx hb d_WM_frost_24 (by decide +kernel) ?_
        refine W.widen (k := 0) (n := 0) (Nat.le_of_ble_eq_true rfl) (Nat.le_of_ble_eq_true rfl) ?_
        exact W.iret (v := (-1)) hx hb hr (fun t ht hW => ⟨⟨(-1), (), rfl, (by unfold f_WM_frost; rw [if_neg c_1, if_neg c_2, if_pos c_3]), trivial⟩, by rw [hAe]; exact hS.F ht⟩) (by rw [hAe]; exact hS.2.2) d_WM_frost_25
      · refine lv_iload_n hx hb d_WM_frost_19 rfl (lv_at hl 2 rfl) ?_
        refine lv_iconst (v := 1) hx hb d_WM_frost_20 (by decide +kernel) ?_
        refine lv_icmp_le (tgt := 26) hx hb d_WM_frost_21 (by decide) (fun c_4 => ?_) (fun c_4 => ?_)
        · refine lv_aload_n hx hb d_WM_frost_26 rfl (lv_at hl 0 rfl) ?_
          refine va_get (D := (dC, dI)) (ci := 0) (v := .ref (a 1)) (C := R_WM) (T := F_WM) (N := 13) hx hb htb i_WM hown hK hP 0 rfl rfl 0 (by decide) (htb (.fieldLink R_WM 12 "WaterMen" "river" "LWaterMen$River;") tw_68) (fun _ h9 => h9) rfl d_WM_frost_27 ?_
          refine lv_iload_n hx hb d_WM_frost_30 rfl (lv_at hl 1 rfl) ?_
          refine vp_callSi (va_Run.run (va_runV (As := [.int p_0]) (rest := []) ⟨hx, hb, hml, hown, htb⟩ (c_Rv_isFrozen l dC dI a k L hL p_0) (cwV 1 htb (gd_V tw_152 tw_153 tw_154 tw_58 tw_151) rfl rfl rfl (by decide +kernel) ⟨Nat.le_of_ble_eq_true rfl, Nat.le_of_ble_eq_true rfl⟩) ⟨pr_blind, va_recv hK hP (ci := 1) (q0 := 1) rfl rfl, pr_pre hP hK hN⟩ rfl rfl hl.1 rfl (lv_room (Nat.le_of_ble_eq_true rfl)) d_WM_frost_31 ⟨Nat.le_of_ble_eq_true rfl, Nat.le_of_ble_eq_true rfl⟩)) (fun r er => ?_)
          subst er
          refine hb_ti 0 (by unfold f_Rv_isFrozen; rw [if_neg c_1, if_neg c_2]) ?_
          refine lv_if_eq (tgt := 41) hx hb d_WM_frost_34 (by decide) (fun _ => ?_) (fun h => absurd (by decide +kernel) h)
          refine lv_iconst (v := 0) hx hb d_WM_frost_41 (by decide +kernel) ?_
          refine lv_istore_n (lv' := [(3, .int 0), (0, .ref (a 0)), (1, .int p_0), (2, .int p_1)]) hx hb d_WM_frost_42 rfl hl (by decide) rfl (fun ls hl => ?_)
          refine lv_aload_n hx hb d_WM_frost_43 rfl (lv_at hl 1 rfl) ?_
          refine va_get (D := (dC, dI)) (ci := 0) (v := .ref (a 1)) (C := R_WM) (T := F_WM) (N := 13) hx hb htb i_WM hown hK hP 0 rfl rfl 0 (by decide) (htb (.fieldLink R_WM 12 "WaterMen" "river" "LWaterMen$River;") tw_68) (fun _ h9 => h9) rfl d_WM_frost_44 ?_
          refine va_get (D := (dC, dI)) (ci := 1) (v := .ref (a 5)) (C := R_Rv) (T := F_Rv) (N := 6) hx hb htb i_Rv hown hK hP 1 rfl rfl 3 (by decide) (htb (.fieldLink R_WM 103 "WaterMen$River" "frozen" "[Z") tw_155) (fun _ h9 => h9) rfl d_WM_frost_47 ?_
          refine lv_iload_n hx hb d_WM_frost_50 rfl (lv_at hl 2 rfl) ?_
          refine lv_iload_n hx hb d_WM_frost_51 rfl (lv_at hl 3 rfl) ?_
          refine lv_iconst (v := 1) hx hb d_WM_frost_52 (by decide +kernel) ?_
          refine lv_icmp_ne (tgt := 60) hx hb d_WM_frost_53 (by decide) (fun c_5 => ?_) (fun c_5 => ?_)
          · refine lv_iconst (v := 0) hx hb d_WM_frost_60 (by decide +kernel) ?_
            refine va_zast hx hb hK hP hD hS 5 3 rfl rfl (hb_in c_1 c_2 (by decide +kernel)) d_WM_frost_61 (fun H locs hP hD hS => ?_)
            rw [hb_upd0 0 (p_0 : Int32).toNatClampNeg (vp_nar .boolean 0) (by decide +kernel)] at hP hD
            refine lv_iload_n hx hb d_WM_frost_62 rfl (lv_at hl 0 rfl) ?_
            refine W.widen (k := 0) (n := 0) (Nat.le_of_ble_eq_true rfl) (Nat.le_of_ble_eq_true rfl) ?_
            exact W.iret (v := 0) hx hb hr (fun t ht hW => ⟨⟨0, (), rfl, (by unfold f_WM_frost; rw [if_neg c_1, if_neg c_2, if_neg c_3, if_pos c_4, if_neg c_5]), trivial⟩, by rw [hAe]; exact hS.F ht⟩) (by rw [hAe]; exact hS.2.2) d_WM_frost_63
          · refine lv_iconst (v := 1) hx hb d_WM_frost_56 (by decide +kernel) ?_
            refine lv_goto (tgt := 61) hx hb d_WM_frost_57 (by decide) ?_
            refine va_zast hx hb hK hP hD hS 5 3 rfl rfl (hb_in c_1 c_2 (by decide +kernel)) d_WM_frost_61 (fun H locs hP hD hS => ?_)
            refine lv_iload_n hx hb d_WM_frost_62 rfl (lv_at hl 0 rfl) ?_
            refine W.widen (k := 0) (n := 0) (Nat.le_of_ble_eq_true rfl) (Nat.le_of_ble_eq_true rfl) ?_
            exact W.iret (v := 0) hx hb hr (fun t ht hW => ⟨⟨0, (), rfl, (by unfold f_WM_frost; rw [if_neg c_1, if_neg c_2, if_neg c_3, if_pos c_4, if_pos c_5]), trivial⟩, by rw [hAe]; exact hS.F ht⟩) (by rw [hAe]; exact hS.2.2) d_WM_frost_63
        · refine lv_iconst (v := (-1)) hx hb d_WM_frost_24 (by decide +kernel) ?_
          refine W.widen (k := 0) (n := 0) (Nat.le_of_ble_eq_true rfl) (Nat.le_of_ble_eq_true rfl) ?_
          exact W.iret (v := (-1)) hx hb hr (fun t ht hW => ⟨⟨(-1), (), rfl, (by unfold f_WM_frost; rw [if_neg c_1, if_neg c_2, if_neg c_3, if_neg c_4]), trivial⟩, by rw [hAe]; exact hS.F ht⟩) (by rw [hAe]; exact hS.2.2) d_WM_frost_25
def f_WM_manAt (a : Nat → Nat) (k : Nat → ClassId) (L : List Nat) (p_0 : Int32) (r : Option Nat) : Prop := if p_0 < 0 then (r = none) else (if 40 ≤ p_0 then (r = none) else (∃ (q kx : Nat), r = some q ∧ (XW a k L)[kx]? = some (q, .inr (2, manF))))
set_option maxHeartbeats 4000000 in
set_option maxRecDepth 100000 in
theorem c_WM_manAt (l : Launch) (dC : Nat → ClassId) (dI : Nat → Nat → Nat) (a : Nat → Nat) (k : Nat → ClassId) (L : List Nat) (hL : L.length = 40) (p_0 : Int32) : Met l y_WM_manAt (.code y_WM_manAt b_WM_manAt 2 (some (.object "WaterMen$Man")) :: TB) ({ frames := 0, cells := 0, slots := 0, locals := 0 }) (va_Pc [.ref (a 0), .int p_0] (PR dC dI (XW a k L) (XT k))) (va_Sq (fun r => f_WM_manAt a k L p_0 r)) 0 0 (fun _ => False) := by
  refine Met.ofW (cc := b_WM_manAt) (maxL := 2) (ret := (some (.object "WaterMen$Man"))) (by decide) rfl ?_
  intro p e s m args below meth c s₁ B hml hv
  obtain ⟨rfl, hP, hK, hN⟩ := hv
  have hx := B.exec
  have hb := B.bytes
  have hr := B.returns
  have hts := atoms_spec (ws := (.code y_WM_manAt b_WM_manAt 2 (some (.object "WaterMen$Man")) :: TB)) B.pre
  have htb := fun w (h : w ∈ TB) => hts w (List.mem_cons_of_mem _ h)
  have hown : s.vm.findClass R_WM = some m.cls := findClass_of_methodNamed B.named
  have hlocks := B.notSynchronized
  have hl := lv_entry ([.ref (a 0), .int p_0]) (n := 2) (Nat.le_of_ble_eq_true rfl)
  rw [lg_entry_eq]
  generalize (lg_sl ([.ref (a 0), .int p_0]) ++ List.replicate (2 - (lg_sl ([.ref (a 0), .int p_0])).length) Slot.unset).toArray = ls at hl ⊢
  have hl : lv_has ls 2 [(0, .ref (a 0)), (1, .int p_0)] := hl
  refine lv_iload_n hx hb d_WM_manAt_0 rfl (lv_at hl 1 rfl) ?_
  refine lv_if_lt (tgt := 19) hx hb d_WM_manAt_1 (by decide) (fun c_1 => ?_) (fun c_1 => ?_)
  · refine lv_null hx hb d_WM_manAt_19 ?_
    exact W.aret (v := .null) (rt := .object "WaterMen$Man") hx hb hr (Or.inl ⟨_, rfl⟩) (Or.inl rfl) (fun t ht hW => ⟨none, rfl, (by show f_WM_manAt a k L p_0 none; unfold f_WM_manAt; rw [if_pos c_1]), ht⟩) t_nil d_WM_manAt_20
  · refine lv_iload_n hx hb d_WM_manAt_4 rfl (lv_at hl 1 rfl) ?_
    refine lv_bipush (v := 40) hx hb d_WM_manAt_5 (by decide +kernel) ?_
    refine lv_icmp_ge (tgt := 19) hx hb d_WM_manAt_7 (by decide) (fun c_2 => ?_) (fun c_2 => ?_)
    · refine lv_null hx hb d_WM_manAt_19 ?_
      exact W.aret (v := .null) (rt := .object "WaterMen$Man") hx hb hr (Or.inl ⟨_, rfl⟩) (Or.inl rfl) (fun t ht hW => ⟨none, rfl, (by show f_WM_manAt a k L p_0 none; unfold f_WM_manAt; rw [if_neg c_1, if_pos c_2]), ht⟩) t_nil d_WM_manAt_20
    · refine lv_aload_n hx hb d_WM_manAt_10 rfl (lv_at hl 0 rfl) ?_
      refine va_get (D := (dC, dI)) (ci := 0) (v := .ref (a 6)) (C := R_WM) (T := F_WM) (N := 13) hx hb htb i_WM hown hK hP 0 rfl rfl 1 (by decide) (htb (.fieldLink R_WM 18 "WaterMen" "men" "[LWaterMen$Man;") tw_70) (fun _ h9 => h9) rfl d_WM_manAt_11 ?_
      refine lv_iload_n hx hb d_WM_manAt_14 rfl (lv_at hl 1 rfl) ?_
      refine va_aldq hx hb hK hP 6 4 rfl rfl (hb_in c_1 c_2 (by decide +kernel)) d_WM_manAt_15 ?_
      obtain ⟨q_3, x_4, hq_5, hk_6⟩ := xw_man (a := a) (k := k) (i := p_0) hL (hb_in c_1 c_2 (by decide +kernel))
      refine hb_tv (.ref q_3) (by show va_rf (L[_]?) = _; rw [hq_5]; rfl) ?_
      refine lv_goto (tgt := 20) hx hb d_WM_manAt_16 (by decide) ?_
      exact W.aret (v := .ref q_3) (rt := .object "WaterMen$Man") hx hb hr (Or.inl ⟨_, rfl⟩) (Or.inr ⟨_, rfl⟩) (fun t ht hW => ⟨some q_3, rfl, (by show f_WM_manAt a k L p_0 (some q_3); unfold f_WM_manAt; rw [if_neg c_1, if_neg c_2]; exact ⟨q_3, x_4, rfl, hk_6⟩), ht⟩) t_nil d_WM_manAt_20
def f_WM_free (p_0 : Int32) : Int32 := if p_0 < 0 then ((-1)) else (if 40 ≤ p_0 then ((-1)) else (1))
set_option maxHeartbeats 4000000 in
set_option maxRecDepth 100000 in
theorem c_WM_free (l : Launch) (dC : Nat → ClassId) (dI : Nat → Nat → Nat) (a : Nat → Nat) (k : Nat → ClassId) (L : List Nat) (hL : L.length = 40) (sz : Nat) (p_0 : Int32)  : Met l y_WM_free (.code y_WM_free b_WM_free 3 (some .int) :: TB) ({ frames := 1, cells := 0, slots := 0, locals := 21 }) (va_Pc [.ref (a 0), .int p_0] (PC dC dI (XW a k L) (XT k) sz)) (va_Qi (fun r (_ : Unit) => r = f_WM_free p_0) (fun (_ : Unit) (_ : State) => True) (va_A (XW a k L) sz)) 0 0 (va_A (XW a k L) sz) := by
  refine Met.ofW (cc := b_WM_free) (maxL := 3) (ret := (some .int)) (by decide) rfl ?_
  intro p e s m args below meth c s₁ B hml hv
  obtain ⟨rfl, hsz, hP, hK, hD0, hN⟩ := hv
  have hx := B.exec
  have hb := B.bytes
  have hr := B.returns
  have hts := atoms_spec (ws := (.code y_WM_free b_WM_free 3 (some .int) :: TB)) B.pre
  have htb := fun w (h : w ∈ TB) => hts w (List.mem_cons_of_mem _ h)
  have hown : s.vm.findClass R_WM = some m.cls := findClass_of_methodNamed B.named
  have hlocks := B.notSynchronized
  have hl := lv_entry ([.ref (a 0), .int p_0]) (n := 3) (Nat.le_of_ble_eq_true rfl)
  rw [lg_entry_eq]
  generalize (lg_sl ([.ref (a 0), .int p_0]) ++ List.replicate (3 - (lg_sl ([.ref (a 0), .int p_0])).length) Slot.unset).toArray = ls at hl ⊢
  have hl : lv_has ls 3 [(0, .ref (a 0)), (1, .int p_0)] := hl
  subst hsz
  have hD := hD0.self (sz := s.heap.size)
  obtain ⟨A, hAe⟩ : ∃ A, va_A (XW a k L) s.heap.size = A := ⟨_, rfl⟩
  rw [hAe] at hD
  have hA : ∀ q : Nat, s.heap.size ≤ q → A q := fun q h => by rw [← hAe]; exact Or.inr h
  have hS : va_S A s.heap s.heap [] := va_S.rf
  have hP := hP
  refine lv_aload_n hx hb d_WM_free_0 rfl (lv_at hl 0 rfl) ?_
  refine lv_iload_n hx hb d_WM_free_1 rfl (lv_at hl 1 rfl) ?_
  refine va_csq (va_Run.run (va_runV (As := [.int p_0]) (rest := []) ⟨hx, hb, hml, hown, htb⟩ (c_WM_manAt l dC dI a k L hL p_0) (cwV 1 htb (gd_V tw_157 tw_158 tw_159 tw_124 tw_156) rfl rfl rfl (by decide +kernel) ⟨Nat.le_of_ble_eq_true rfl, Nat.le_of_ble_eq_true rfl⟩) ⟨pr_blind, va_recv hK hP (ci := 0) (q0 := 0) rfl rfl, pr_pre hP hK hN⟩ rfl rfl hl.1 rfl (lv_room (Nat.le_of_ble_eq_true rfl)) d_WM_free_2 ⟨Nat.le_of_ble_eq_true rfl, Nat.le_of_ble_eq_true rfl⟩)) (fun rr_2 hq_1 => ?_)
  unfold f_WM_manAt at hq_1
  by_cases c_3 : p_0 < 0
  · rw [if_pos c_3] at hq_1
    subst hq_1
    refine hb_tv .null rfl ?_
    refine lv_astore_nN (lv' := [(2, .null), (0, .ref (a 0)), (1, .int p_0)]) hx hb d_WM_free_5 rfl hl (by decide) rfl (fun ls hl => ?_)
    refine lv_aload_nN hx hb d_WM_free_6 rfl (lv_at hl 0 rfl) ?_
    refine lv_ifnonnullN hx hb d_WM_free_7 ?_
    refine lv_iconst (v := (-1)) hx hb d_WM_free_10 (by decide +kernel) ?_
    refine W.widen (k := 0) (n := 0) (Nat.le_of_ble_eq_true rfl) (Nat.le_of_ble_eq_true rfl) ?_
    exact W.iret (v := (-1)) hx hb hr (fun t ht hW => ⟨⟨(-1), (), rfl, (by unfold f_WM_free; rw [if_pos c_3]), trivial⟩, by rw [hAe]; exact hS.F ht⟩) (by rw [hAe]; exact hS.2.2) d_WM_free_11
  · by_cases c_4 : 40 ≤ p_0
    · rw [if_neg c_3, if_pos c_4] at hq_1
      subst hq_1
      refine hb_tv .null rfl ?_
      refine lv_astore_nN (lv' := [(2, .null), (0, .ref (a 0)), (1, .int p_0)]) hx hb d_WM_free_5 rfl hl (by decide) rfl (fun ls hl => ?_)
      refine lv_aload_nN hx hb d_WM_free_6 rfl (lv_at hl 0 rfl) ?_
      refine lv_ifnonnullN hx hb d_WM_free_7 ?_
      refine lv_iconst (v := (-1)) hx hb d_WM_free_10 (by decide +kernel) ?_
      refine W.widen (k := 0) (n := 0) (Nat.le_of_ble_eq_true rfl) (Nat.le_of_ble_eq_true rfl) ?_
      exact W.iret (v := (-1)) hx hb hr (fun t ht hW => ⟨⟨(-1), (), rfl, (by unfold f_WM_free; rw [if_neg c_3, if_pos c_4]), trivial⟩, by rw [hAe]; exact hS.F ht⟩) (by rw [hAe]; exact hS.2.2) d_WM_free_11
    · rw [if_neg c_3, if_neg c_4] at hq_1
      obtain ⟨q_5, x_6, rfl, hk_7⟩ := hq_1
      refine hb_tv (.ref q_5) rfl ?_
      refine lv_astore_n (lv' := [(2, .ref q_5), (0, .ref (a 0)), (1, .int p_0)]) hx hb d_WM_free_5 rfl hl (by decide) rfl (fun ls hl => ?_)
      refine lv_aload_n hx hb d_WM_free_6 rfl (lv_at hl 0 rfl) ?_
      refine lv_ifnonnull (tgt := 12) hx hb d_WM_free_7 (by decide) ?_
      refine lv_aload_n hx hb d_WM_free_12 rfl (lv_at hl 0 rfl) ?_
      refine va_get (D := (dC, dI)) (ci := 2) (v := .int 0) (C := R_Mn) (T := F_Mn) (N := 8) hx hb htb i_Mn hown hK hP x_6 hk_7 rfl 0 (by decide) (htb (.fieldLink R_WM 111 "WaterMen$Man" "state" "I") tw_160) (fun _ h9 => h9) rfl d_WM_free_13 ?_
      refine lv_if_eq (tgt := 22) hx hb d_WM_free_16 (by decide) (fun _ => ?_) (fun h => absurd (by decide +kernel) h)
      refine lv_aload_n hx hb d_WM_free_22 rfl (lv_at hl 0 rfl) ?_
      refine lv_iconst (v := 2) hx hb d_WM_free_23 (by decide +kernel) ?_
      refine va_put (D := (dC, dI)) (ci := 2) (v := .int 2) (ty := .int) (C := R_Mn) (T := F_Mn) (N := 8) hx hb htb i_Mn t_Mn t_Mn_ok n_Mn hown hK hP hD hS x_6 hk_7 rfl 0 (by decide) (htb (.fieldLink R_WM 111 "WaterMen$Man" "state" "I") tw_160) (fun _ h9 => h9) rfl (by decide +kernel) rfl rfl (Nat.le_of_ble_eq_true rfl) d_WM_free_24 (fun H locs hP hD hS => ?_)
      refine lv_iconst (v := 1) hx hb d_WM_free_27 (by decide +kernel) ?_
      refine W.widen (k := 0) (n := 0) (Nat.le_of_ble_eq_true rfl) (Nat.le_of_ble_eq_true rfl) ?_
      exact W.iret (v := 1) hx hb hr (fun t ht hW => ⟨⟨1, (), rfl, (by unfold f_WM_free; rw [if_neg c_3, if_neg c_4]), trivial⟩, by rw [hAe]; exact hS.F ht⟩) (by rw [hAe]; exact hS.2.2) d_WM_free_28
def f_WM_bind (p_0 : Int32) (p_1 : Int32) : Int32 := if p_0 < 0 then (if p_1 < 0 then ((-1)) else (if 40 ≤ p_1 then ((-1)) else ((-1)))) else (if 40 ≤ p_0 then (if p_1 < 0 then ((-1)) else (if 40 ≤ p_1 then ((-1)) else ((-1)))) else (if p_1 < 0 then ((-1)) else (if 40 ≤ p_1 then ((-1)) else ((-2)))))
set_option maxHeartbeats 4000000 in
set_option maxRecDepth 100000 in
theorem c_WM_bind (l : Launch) (dC : Nat → ClassId) (dI : Nat → Nat → Nat) (a : Nat → Nat) (k : Nat → ClassId) (L : List Nat) (hL : L.length = 40)  (p_0 : Int32) (p_1 : Int32)  : Met l y_WM_bind (.code y_WM_bind b_WM_bind 5 (some .int) :: TB) ({ frames := 1, cells := 0, slots := 0, locals := 21 }) (va_Pc [.ref (a 0), .int p_0, .int p_1] (PR dC dI (XW a k L) (XT k))) (vp_Si (fun r => r = f_WM_bind p_0 p_1)) 0 0 (fun _ => False) := by
  refine Met.ofW (cc := b_WM_bind) (maxL := 5) (ret := (some .int)) (by decide) rfl ?_
  intro p e s m args below meth c s₁ B hml hv
  obtain ⟨rfl, hP, hK, hN⟩ := hv
  have hx := B.exec
  have hb := B.bytes
  have hr := B.returns
  have hts := atoms_spec (ws := (.code y_WM_bind b_WM_bind 5 (some .int) :: TB)) B.pre
  have htb := fun w (h : w ∈ TB) => hts w (List.mem_cons_of_mem _ h)
  have hown : s.vm.findClass R_WM = some m.cls := findClass_of_methodNamed B.named
  have hlocks := B.notSynchronized
  have hl := lv_entry ([.ref (a 0), .int p_0, .int p_1]) (n := 5) (Nat.le_of_ble_eq_true rfl)
  rw [lg_entry_eq]
  generalize (lg_sl ([.ref (a 0), .int p_0, .int p_1]) ++ List.replicate (5 - (lg_sl ([.ref (a 0), .int p_0, .int p_1])).length) Slot.unset).toArray = ls at hl ⊢
  have hl : lv_has ls 5 [(0, .ref (a 0)), (1, .int p_0), (2, .int p_1)] := hl
  refine lv_aload_n hx hb d_WM_bind_0 rfl (lv_at hl 0 rfl) ?_
  refine lv_iload_n hx hb d_WM_bind_1 rfl (lv_at hl 1 rfl) ?_
  refine va_csq (va_Run.run (va_runV (As := [.int p_0]) (rest := []) ⟨hx, hb, hml, hown, htb⟩ (c_WM_manAt l dC dI a k L hL p_0) (cwV 1 htb (gd_V tw_157 tw_158 tw_159 tw_124 tw_156) rfl rfl rfl (by decide +kernel) ⟨Nat.le_of_ble_eq_true rfl, Nat.le_of_ble_eq_true rfl⟩) ⟨pr_blind, va_recv hK hP (ci := 0) (q0 := 0) rfl rfl, pr_pre hP hK hN⟩ rfl rfl hl.1 rfl (lv_room (Nat.le_of_ble_eq_true rfl)) d_WM_bind_2 ⟨Nat.le_of_ble_eq_true rfl, Nat.le_of_ble_eq_true rfl⟩)) (fun rr_2 hq_1 => ?_)
  unfold f_WM_manAt at hq_1
  by_cases c_3 : p_0 < 0
  · rw [if_pos c_3] at hq_1
    subst hq_1
    refine hb_tv .null rfl ?_
    refine lv_astore_nN (lv' := [(3, .null), (0, .ref (a 0)), (1, .int p_0), (2, .int p_1)]) hx hb d_WM_bind_5 rfl hl (by decide) rfl (fun ls hl => ?_)
    refine lv_aload_n hx hb d_WM_bind_6 rfl (lv_at hl 1 rfl) ?_
    refine lv_iload_n hx hb d_WM_bind_7 rfl (lv_at hl 3 rfl) ?_
    refine va_csq (va_Run.run (va_runV (As := [.int p_1]) (rest := []) ⟨hx, hb, hml, hown, htb⟩ (c_WM_manAt l dC dI a k L hL p_1) (cwV 1 htb (gd_V tw_157 tw_158 tw_159 tw_124 tw_156) rfl rfl rfl (by decide +kernel) ⟨Nat.le_of_ble_eq_true rfl, Nat.le_of_ble_eq_true rfl⟩) ⟨pr_blind, va_recv hK hP (ci := 0) (q0 := 0) rfl rfl, pr_pre hP hK hN⟩ rfl rfl hl.1 rfl (lv_room (Nat.le_of_ble_eq_true rfl)) d_WM_bind_8 ⟨Nat.le_of_ble_eq_true rfl, Nat.le_of_ble_eq_true rfl⟩)) (fun rr_5 hq_4 => ?_)
    unfold f_WM_manAt at hq_4
    by_cases c_6 : p_1 < 0
    · rw [if_pos c_6] at hq_4
      subst hq_4
      refine hb_tv .null rfl ?_
      refine lv_astoreN (lv' := [(4, .null), (3, .null), (0, .ref (a 0)), (1, .int p_0), (2, .int p_1)]) hx hb d_WM_bind_11 hl (by decide) rfl (fun ls hl => ?_)
      refine lv_aload_nN hx hb d_WM_bind_13 rfl (lv_at hl 1 rfl) ?_
      refine lv_ifnullN (tgt := 22) hx hb d_WM_bind_14 (by decide) ?_
      refine lv_iconst (v := (-1)) hx hb d_WM_bind_22 (by decide +kernel) ?_
      exact W.iret (v := (-1)) hx hb hr (fun t ht hW => ⟨(-1), rfl, (by unfold f_WM_bind; rw [if_pos c_3, if_pos c_6]), ht⟩) t_nil d_WM_bind_23
    · by_cases c_7 : 40 ≤ p_1
      · rw [if_neg c_6, if_pos c_7] at hq_4
        subst hq_4
        refine hb_tv .null rfl ?_
        refine lv_astoreN (lv' := [(4, .null), (3, .null), (0, .ref (a 0)), (1, .int p_0), (2, .int p_1)]) hx hb d_WM_bind_11 hl (by decide) rfl (fun ls hl => ?_)
        refine lv_aload_nN hx hb d_WM_bind_13 rfl (lv_at hl 1 rfl) ?_
        refine lv_ifnullN (tgt := 22) hx hb d_WM_bind_14 (by decide) ?_
        refine lv_iconst (v := (-1)) hx hb d_WM_bind_22 (by decide +kernel) ?_
        exact W.iret (v := (-1)) hx hb hr (fun t ht hW => ⟨(-1), rfl, (by unfold f_WM_bind; rw [if_pos c_3, if_neg c_6, if_pos c_7]), ht⟩) t_nil d_WM_bind_23
      · rw [if_neg c_6, if_neg c_7] at hq_4
        obtain ⟨q_8, x_9, rfl, hk_10⟩ := hq_4
        refine hb_tv (.ref q_8) rfl ?_
        refine lv_astore (lv' := [(4, .ref q_8), (3, .null), (0, .ref (a 0)), (1, .int p_0), (2, .int p_1)]) hx hb d_WM_bind_11 hl (by decide) rfl (fun ls hl => ?_)
        refine lv_aload_nN hx hb d_WM_bind_13 rfl (lv_at hl 1 rfl) ?_
        refine lv_ifnullN (tgt := 22) hx hb d_WM_bind_14 (by decide) ?_
        refine lv_iconst (v := (-1)) hx hb d_WM_bind_22 (by decide +kernel) ?_
        exact W.iret (v := (-1)) hx hb hr (fun t ht hW => ⟨(-1), rfl, (by unfold f_WM_bind; rw [if_pos c_3, if_neg c_6, if_neg c_7]), ht⟩) t_nil d_WM_bind_23
  · by_cases c_11 : 40 ≤ p_0
    · rw [if_neg c_3, if_pos c_11] at hq_1
      subst hq_1
      refine hb_tv .null rfl ?_
      refine lv_astore_nN (lv' := [(3, .null), (0, .ref (a 0)), (1, .int p_0), (2, .int p_1)]) hx hb d_WM_bind_5 rfl hl (by decide) rfl (fun ls hl => ?_)
      refine lv_aload_n hx hb d_WM_bind_6 rfl (lv_at hl 1 rfl) ?_
      refine lv_iload_n hx hb d_WM_bind_7 rfl (lv_at hl 3 rfl) ?_
      refine va_csq (va_Run.run (va_runV (As := [.int p_1]) (rest := []) ⟨hx, hb, hml, hown, htb⟩ (c_WM_manAt l dC dI a k L hL p_1) (cwV 1 htb (gd_V tw_157 tw_158 tw_159 tw_124 tw_156) rfl rfl rfl (by decide +kernel) ⟨Nat.le_of_ble_eq_true rfl, Nat.le_of_ble_eq_true rfl⟩) ⟨pr_blind, va_recv hK hP (ci := 0) (q0 := 0) rfl rfl, pr_pre hP hK hN⟩ rfl rfl hl.1 rfl (lv_room (Nat.le_of_ble_eq_true rfl)) d_WM_bind_8 ⟨Nat.le_of_ble_eq_true rfl, Nat.le_of_ble_eq_true rfl⟩)) (fun rr_13 hq_12 => ?_)
      unfold f_WM_manAt at hq_12
      by_cases c_14 : p_1 < 0
      · rw [if_pos c_14] at hq_12
        subst hq_12
        refine hb_tv .null rfl ?_
        refine lv_astoreN (lv' := [(4, .null), (3, .null), (0, .ref (a 0)), (1, .int p_0), (2, .int p_1)]) hx hb d_WM_bind_11 hl (by decide) rfl (fun ls hl => ?_)
        refine lv_aload_nN hx hb d_WM_bind_13 rfl (lv_at hl 1 rfl) ?_
        refine lv_ifnullN (tgt := 22) hx hb d_WM_bind_14 (by decide) ?_
        refine lv_iconst (v := (-1)) hx hb d_WM_bind_22 (by decide +kernel) ?_
        exact W.iret (v := (-1)) hx hb hr (fun t ht hW => ⟨(-1), rfl, (by unfold f_WM_bind; rw [if_neg c_3, if_pos c_11, if_pos c_14]), ht⟩) t_nil d_WM_bind_23
      · by_cases c_15 : 40 ≤ p_1
        · rw [if_neg c_14, if_pos c_15] at hq_12
          subst hq_12
          refine hb_tv .null rfl ?_
          refine lv_astoreN (lv' := [(4, .null), (3, .null), (0, .ref (a 0)), (1, .int p_0), (2, .int p_1)]) hx hb d_WM_bind_11 hl (by decide) rfl (fun ls hl => ?_)
          refine lv_aload_nN hx hb d_WM_bind_13 rfl (lv_at hl 1 rfl) ?_
          refine lv_ifnullN (tgt := 22) hx hb d_WM_bind_14 (by decide) ?_
          refine lv_iconst (v := (-1)) hx hb d_WM_bind_22 (by decide +kernel) ?_
          exact W.iret (v := (-1)) hx hb hr (fun t ht hW => ⟨(-1), rfl, (by unfold f_WM_bind; rw [if_neg c_3, if_pos c_11, if_neg c_14, if_pos c_15]), ht⟩) t_nil d_WM_bind_23
        · rw [if_neg c_14, if_neg c_15] at hq_12
          obtain ⟨q_16, x_17, rfl, hk_18⟩ := hq_12
          refine hb_tv (.ref q_16) rfl ?_
          refine lv_astore (lv' := [(4, .ref q_16), (3, .null), (0, .ref (a 0)), (1, .int p_0), (2, .int p_1)]) hx hb d_WM_bind_11 hl (by decide) rfl (fun ls hl => ?_)
          refine lv_aload_nN hx hb d_WM_bind_13 rfl (lv_at hl 1 rfl) ?_
          refine lv_ifnullN (tgt := 22) hx hb d_WM_bind_14 (by decide) ?_
          refine lv_iconst (v := (-1)) hx hb d_WM_bind_22 (by decide +kernel) ?_
          exact W.iret (v := (-1)) hx hb hr (fun t ht hW => ⟨(-1), rfl, (by unfold f_WM_bind; rw [if_neg c_3, if_pos c_11, if_neg c_14, if_neg c_15]), ht⟩) t_nil d_WM_bind_23
    · rw [if_neg c_3, if_neg c_11] at hq_1
      obtain ⟨q_19, x_20, rfl, hk_21⟩ := hq_1
      refine hb_tv (.ref q_19) rfl ?_
      refine lv_astore_n (lv' := [(3, .ref q_19), (0, .ref (a 0)), (1, .int p_0), (2, .int p_1)]) hx hb d_WM_bind_5 rfl hl (by decide) rfl (fun ls hl => ?_)
      refine lv_aload_n hx hb d_WM_bind_6 rfl (lv_at hl 1 rfl) ?_
      refine lv_iload_n hx hb d_WM_bind_7 rfl (lv_at hl 3 rfl) ?_
      refine va_csq (va_Run.run (va_runV (As := [.int p_1]) (rest := []) ⟨hx, hb, hml, hown, htb⟩ (c_WM_manAt l dC dI a k L hL p_1) (cwV 1 htb (gd_V tw_157 tw_158 tw_159 tw_124 tw_156) rfl rfl rfl (by decide +kernel) ⟨Nat.le_of_ble_eq_true rfl, Nat.le_of_ble_eq_true rfl⟩) ⟨pr_blind, va_recv hK hP (ci := 0) (q0 := 0) rfl rfl, pr_pre hP hK hN⟩ rfl rfl hl.1 rfl (lv_room (Nat.le_of_ble_eq_true rfl)) d_WM_bind_8 ⟨Nat.le_of_ble_eq_true rfl, Nat.le_of_ble_eq_true rfl⟩)) (fun rr_23 hq_22 => ?_)
      unfold f_WM_manAt at hq_22
      by_cases c_24 : p_1 < 0
      · rw [if_pos c_24] at hq_22
        subst hq_22
        refine hb_tv .null rfl ?_
        refine lv_astoreN (lv' := [(4, .null), (3, .ref q_19), (0, .ref (a 0)), (1, .int p_0), (2, .int p_1)]) hx hb d_WM_bind_11 hl (by decide) rfl (fun ls hl => ?_)
        refine lv_aload_n hx hb d_WM_bind_13 rfl (lv_at hl 1 rfl) ?_
        refine lv_ifnull hx hb d_WM_bind_14 ?_
        refine lv_aloadN hx hb d_WM_bind_17 (lv_at hl 0 rfl) ?_
        refine lv_ifnonnullN hx hb d_WM_bind_19 ?_
        refine lv_iconst (v := (-1)) hx hb d_WM_bind_22 (by decide +kernel) ?_
        exact W.iret (v := (-1)) hx hb hr (fun t ht hW => ⟨(-1), rfl, (by unfold f_WM_bind; rw [if_neg c_3, if_neg c_11, if_pos c_24]), ht⟩) t_nil d_WM_bind_23
      · by_cases c_25 : 40 ≤ p_1
        · rw [if_neg c_24, if_pos c_25] at hq_22
          subst hq_22
          refine hb_tv .null rfl ?_
          refine lv_astoreN (lv' := [(4, .null), (3, .ref q_19), (0, .ref (a 0)), (1, .int p_0), (2, .int p_1)]) hx hb d_WM_bind_11 hl (by decide) rfl (fun ls hl => ?_)
          refine lv_aload_n hx hb d_WM_bind_13 rfl (lv_at hl 1 rfl) ?_
          refine lv_ifnull hx hb d_WM_bind_14 ?_
          refine lv_aloadN hx hb d_WM_bind_17 (lv_at hl 0 rfl) ?_
          refine lv_ifnonnullN hx hb d_WM_bind_19 ?_
          refine lv_iconst (v := (-1)) hx hb d_WM_bind_22 (by decide +kernel) ?_
          exact W.iret (v := (-1)) hx hb hr (fun t ht hW => ⟨(-1), rfl, (by unfold f_WM_bind; rw [if_neg c_3, if_neg c_11, if_neg c_24, if_pos c_25]), ht⟩) t_nil d_WM_bind_23
        · rw [if_neg c_24, if_neg c_25] at hq_22
          obtain ⟨q_26, x_27, rfl, hk_28⟩ := hq_22
          refine hb_tv (.ref q_26) rfl ?_
          refine lv_astore (lv' := [(4, .ref q_26), (3, .ref q_19), (0, .ref (a 0)), (1, .int p_0), (2, .int p_1)]) hx hb d_WM_bind_11 hl (by decide) rfl (fun ls hl => ?_)
          refine lv_aload_n hx hb d_WM_bind_13 rfl (lv_at hl 1 rfl) ?_
          refine lv_ifnull hx hb d_WM_bind_14 ?_
          refine lv_aload hx hb d_WM_bind_17 (lv_at hl 0 rfl) ?_
          refine lv_ifnonnull (tgt := 24) hx hb d_WM_bind_19 (by decide) ?_
          refine lv_aload_n hx hb d_WM_bind_24 rfl (lv_at hl 1 rfl) ?_
          refine va_get (D := (dC, dI)) (ci := 2) (v := .int 0) (C := R_Mn) (T := F_Mn) (N := 8) hx hb htb i_Mn hown hK hP x_20 hk_21 rfl 0 (by decide) (htb (.fieldLink R_WM 111 "WaterMen$Man" "state" "I") tw_160) (fun _ h9 => h9) rfl d_WM_bind_25 ?_
          refine lv_if_ne (tgt := 40) hx hb d_WM_bind_28 (by decide) (fun h => absurd (by decide +kernel) h) (fun _ => ?_)
          refine lv_aload hx hb d_WM_bind_31 (lv_at hl 0 rfl) ?_
          refine va_get (D := (dC, dI)) (ci := 2) (v := .int 0) (C := R_Mn) (T := F_Mn) (N := 8) hx hb htb i_Mn hown hK hP x_27 hk_28 rfl 0 (by decide) (htb (.fieldLink R_WM 111 "WaterMen$Man" "state" "I") tw_160) (fun _ h9 => h9) rfl d_WM_bind_33 ?_
          refine lv_iconst (v := 2) hx hb d_WM_bind_36 (by decide +kernel) ?_
          refine lv_icmp_eq (tgt := 43) hx hb d_WM_bind_37 (by decide) (fun h => absurd h (by decide +kernel)) (fun _ => ?_)
          refine lv_bipush (v := (-2)) hx hb d_WM_bind_40 (by decide +kernel) ?_
          exact W.iret (v := (-2)) hx hb hr (fun t ht hW => ⟨(-2), rfl, (by unfold f_WM_bind; rw [if_neg c_3, if_neg c_11, if_neg c_24, if_neg c_25]), ht⟩) t_nil d_WM_bind_42
def f_WM_absent (p_0 : Int32) (p_1 : Int32) (p_2 : Int32) : Int32 := if p_0 < 0 then ((-1)) else (if 40 ≤ p_0 then ((-1)) else (if p_1 < 0 then ((-1)) else (if p_2 < p_1 then ((-1)) else (if p_2 ≤ 0 then ((-2)) else ((-1))))))
set_option maxHeartbeats 4000000 in
set_option maxRecDepth 100000 in
theorem c_WM_absent (l : Launch) (dC : Nat → ClassId) (dI : Nat → Nat → Nat) (a : Nat → Nat) (k : Nat → ClassId) (L : List Nat) (hL : L.length = 40)  (p_0 : Int32) (p_1 : Int32) (p_2 : Int32)  : Met l y_WM_absent (.code y_WM_absent b_WM_absent 6 (some .int) :: TB) ({ frames := 1, cells := 0, slots := 0, locals := 21 }) (va_Pc [.ref (a 0), .int p_0, .int p_1, .int p_2] (PR dC dI (XW a k L) (XT k))) (vp_Si (fun r => r = f_WM_absent p_0 p_1 p_2)) 0 0 (fun _ => False) := by
  refine Met.ofW (cc := b_WM_absent) (maxL := 6) (ret := (some .int)) (by decide) rfl ?_
  intro p e s m args below meth c s₁ B hml hv
  obtain ⟨rfl, hP, hK, hN⟩ := hv
  have hx := B.exec
  have hb := B.bytes
  have hr := B.returns
  have hts := atoms_spec (ws := (.code y_WM_absent b_WM_absent 6 (some .int) :: TB)) B.pre
  have htb := fun w (h : w ∈ TB) => hts w (List.mem_cons_of_mem _ h)
  have hown : s.vm.findClass R_WM = some m.cls := findClass_of_methodNamed B.named
  have hlocks := B.notSynchronized
  have hl := lv_entry ([.ref (a 0), .int p_0, .int p_1, .int p_2]) (n := 6) (Nat.le_of_ble_eq_true rfl)
  rw [lg_entry_eq]
  generalize (lg_sl ([.ref (a 0), .int p_0, .int p_1, .int p_2]) ++ List.replicate (6 - (lg_sl ([.ref (a 0), .int p_0, .int p_1, .int p_2])).length) Slot.unset).toArray = ls at hl ⊢
  have hl : lv_has ls 6 [(0, .ref (a 0)), (1, .int p_0), (2, .int p_1), (3, .int p_2)] := hl
  refine lv_aload_n hx hb d_WM_absent_0 rfl (lv_at hl 0 rfl) ?_
  refine lv_iload_n hx hb d_WM_absent_1 rfl (lv_at hl 1 rfl) ?_
  refine va_csq (va_Run.run (va_runV (As := [.int p_0]) (rest := []) ⟨hx, hb, hml, hown, htb⟩ (c_WM_manAt l dC dI a k L hL p_0) (cwV 1 htb (gd_V tw_157 tw_158 tw_159 tw_124 tw_156) rfl rfl rfl (by decide +kernel) ⟨Nat.le_of_ble_eq_true rfl, Nat.le_of_ble_eq_true rfl⟩) ⟨pr_blind, va_recv hK hP (ci := 0) (q0 := 0) rfl rfl, pr_pre hP hK hN⟩ rfl rfl hl.1 rfl (lv_room (Nat.le_of_ble_eq_true rfl)) d_WM_absent_2 ⟨Nat.le_of_ble_eq_true rfl, Nat.le_of_ble_eq_true rfl⟩)) (fun rr_2 hq_1 => ?_)
  unfold f_WM_manAt at hq_1
  by_cases c_3 : p_0 < 0
  · rw [if_pos c_3] at hq_1
    subst hq_1
    refine hb_tv .null rfl ?_
    refine lv_astoreN (lv' := [(4, .null), (0, .ref (a 0)), (1, .int p_0), (2, .int p_1), (3, .int p_2)]) hx hb d_WM_absent_5 hl (by decide) rfl (fun ls hl => ?_)
    refine lv_aloadN hx hb d_WM_absent_7 (lv_at hl 0 rfl) ?_
    refine lv_ifnullN (tgt := 29) hx hb d_WM_absent_9 (by decide) ?_
    refine lv_iconst (v := (-1)) hx hb d_WM_absent_29 (by decide +kernel) ?_
    exact W.iret (v := (-1)) hx hb hr (fun t ht hW => ⟨(-1), rfl, (by unfold f_WM_absent; rw [if_pos c_3]), ht⟩) t_nil d_WM_absent_30
  · by_cases c_4 : 40 ≤ p_0
    · rw [if_neg c_3, if_pos c_4] at hq_1
      subst hq_1
      refine hb_tv .null rfl ?_
      refine lv_astoreN (lv' := [(4, .null), (0, .ref (a 0)), (1, .int p_0), (2, .int p_1), (3, .int p_2)]) hx hb d_WM_absent_5 hl (by decide) rfl (fun ls hl => ?_)
      refine lv_aloadN hx hb d_WM_absent_7 (lv_at hl 0 rfl) ?_
      refine lv_ifnullN (tgt := 29) hx hb d_WM_absent_9 (by decide) ?_
      refine lv_iconst (v := (-1)) hx hb d_WM_absent_29 (by decide +kernel) ?_
      exact W.iret (v := (-1)) hx hb hr (fun t ht hW => ⟨(-1), rfl, (by unfold f_WM_absent; rw [if_neg c_3, if_pos c_4]), ht⟩) t_nil d_WM_absent_30
    · rw [if_neg c_3, if_neg c_4] at hq_1
      obtain ⟨q_5, x_6, rfl, hk_7⟩ := hq_1
      refine hb_tv (.ref q_5) rfl ?_
      refine lv_astore (lv' := [(4, .ref q_5), (0, .ref (a 0)), (1, .int p_0), (2, .int p_1), (3, .int p_2)]) hx hb d_WM_absent_5 hl (by decide) rfl (fun ls hl => ?_)
      refine lv_aload hx hb d_WM_absent_7 (lv_at hl 0 rfl) ?_
      refine lv_ifnull hx hb d_WM_absent_9 ?_
      refine lv_iload_n hx hb d_WM_absent_12 rfl (lv_at hl 3 rfl) ?_
      refine lv_if_lt (tgt := 29) hx hb d_WM_absent_13 (by decide) (fun c_8 => ?_) (fun c_8 => ?_)
      · refine lv_iconst (v := (-1)) hx hb d_WM_absent_29 (by decide +kernel) ?_
        exact W.iret (v := (-1)) hx hb hr (fun t ht hW => ⟨(-1), rfl, (by unfold f_WM_absent; rw [if_neg c_3, if_neg c_4, if_pos c_8]), ht⟩) t_nil d_WM_absent_30
      · refine lv_iload_n hx hb d_WM_absent_16 rfl (lv_at hl 3 rfl) ?_
        refine lv_iload_n hx hb d_WM_absent_17 rfl (lv_at hl 4 rfl) ?_
        refine lv_icmp_gt (tgt := 29) hx hb d_WM_absent_18 (by decide) (fun c_9 => ?_) (fun c_9 => ?_)
        · refine lv_iconst (v := (-1)) hx hb d_WM_absent_29 (by decide +kernel) ?_
          exact W.iret (v := (-1)) hx hb hr (fun t ht hW => ⟨(-1), rfl, (by unfold f_WM_absent; rw [if_neg c_3, if_neg c_4, if_neg c_8, if_pos c_9]), ht⟩) t_nil d_WM_absent_30
        · refine lv_iload_n hx hb d_WM_absent_21 rfl (lv_at hl 4 rfl) ?_
          refine lv_aload_n hx hb d_WM_absent_22 rfl (lv_at hl 1 rfl) ?_
          refine vp_callSi (va_Run.run (va_runV (As := []) (rest := [.int p_2]) ⟨hx, hb, hml, hown, htb⟩ (c_WM_today l dC dI a k L hL) (cwV 0 htb (gd_V tw_148 tw_149 tw_150 tw_124 tw_147) rfl rfl rfl (by decide +kernel) ⟨Nat.le_of_ble_eq_true rfl, Nat.le_of_ble_eq_true rfl⟩) ⟨pr_blind, va_recv hK hP (ci := 0) (q0 := 0) rfl rfl, pr_pre hP hK hN⟩ rfl rfl hl.1 rfl (lv_room (Nat.le_of_ble_eq_true rfl)) d_WM_absent_23 ⟨Nat.le_of_ble_eq_true rfl, Nat.le_of_ble_eq_true rfl⟩)) (fun r er => ?_)
          subst er
          refine hb_ti 0 rfl ?_
          refine lv_icmp_le (tgt := 31) hx hb d_WM_absent_26 (by decide) (fun c_10 => ?_) (fun c_10 => ?_)
          · refine lv_aload hx hb d_WM_absent_31 (lv_at hl 0 rfl) ?_
            refine va_get (D := (dC, dI)) (ci := 2) (v := .null) (C := R_Mn) (T := F_Mn) (N := 8) hx hb htb i_Mn hown hK hP x_6 hk_7 rfl 1 (by decide) (htb (.fieldLink R_WM 119 "WaterMen$Man" "bond" "LWaterMen$Bond;") tw_161) (fun _ h9 => h9) rfl d_WM_absent_33 ?_
            refine lv_astoreN (lv' := [(5, .null), (4, .ref q_5), (0, .ref (a 0)), (1, .int p_0), (2, .int p_1), (3, .int p_2)]) hx hb d_WM_absent_36 hl (by decide) rfl (fun ls hl => ?_)
            refine lv_aloadN hx hb d_WM_absent_38 (lv_at hl 0 rfl) ?_
            refine lv_ifnullN (tgt := 54) hx hb d_WM_absent_40 (by decide) ?_
            refine lv_aloadN hx hb d_WM_absent_54 (lv_at hl 0 rfl) ?_
            refine lv_ifnullN (tgt := 78) hx hb d_WM_absent_56 (by decide) ?_
            refine lv_bipush (v := (-2)) hx hb d_WM_absent_78 (by decide +kernel) ?_
            exact W.iret (v := (-2)) hx hb hr (fun t ht hW => ⟨(-2), rfl, (by unfold f_WM_absent; rw [if_neg c_3, if_neg c_4, if_neg c_8, if_neg c_9, if_pos c_10]), ht⟩) t_nil d_WM_absent_80
          · refine lv_iconst (v := (-1)) hx hb d_WM_absent_29 (by decide +kernel) ?_
            exact W.iret (v := (-1)) hx hb hr (fun t ht hW => ⟨(-1), rfl, (by unfold f_WM_absent; rw [if_neg c_3, if_neg c_4, if_neg c_8, if_neg c_9, if_neg c_10]), ht⟩) t_nil d_WM_absent_30
def f_WM_served (p_0 : Int32) : Int32 := if p_0 < 0 then ((-1)) else (if 40 ≤ p_0 then ((-1)) else ((-2)))
set_option maxHeartbeats 4000000 in
set_option maxRecDepth 100000 in
theorem c_WM_served (l : Launch) (dC : Nat → ClassId) (dI : Nat → Nat → Nat) (a : Nat → Nat) (k : Nat → ClassId) (L : List Nat) (hL : L.length = 40)  (p_0 : Int32)  : Met l y_WM_served (.code y_WM_served b_WM_served 4 (some .int) :: TB) ({ frames := 1, cells := 0, slots := 0, locals := 21 }) (va_Pc [.ref (a 0), .int p_0] (PR dC dI (XW a k L) (XT k))) (vp_Si (fun r => r = f_WM_served p_0)) 0 0 (fun _ => False) := by
  refine Met.ofW (cc := b_WM_served) (maxL := 4) (ret := (some .int)) (by decide) rfl ?_
  intro p e s m args below meth c s₁ B hml hv
  obtain ⟨rfl, hP, hK, hN⟩ := hv
  have hx := B.exec
  have hb := B.bytes
  have hr := B.returns
  have hts := atoms_spec (ws := (.code y_WM_served b_WM_served 4 (some .int) :: TB)) B.pre
  have htb := fun w (h : w ∈ TB) => hts w (List.mem_cons_of_mem _ h)
  have hown : s.vm.findClass R_WM = some m.cls := findClass_of_methodNamed B.named
  have hlocks := B.notSynchronized
  have hl := lv_entry ([.ref (a 0), .int p_0]) (n := 4) (Nat.le_of_ble_eq_true rfl)
  rw [lg_entry_eq]
  generalize (lg_sl ([.ref (a 0), .int p_0]) ++ List.replicate (4 - (lg_sl ([.ref (a 0), .int p_0])).length) Slot.unset).toArray = ls at hl ⊢
  have hl : lv_has ls 4 [(0, .ref (a 0)), (1, .int p_0)] := hl
  refine lv_aload_n hx hb d_WM_served_0 rfl (lv_at hl 0 rfl) ?_
  refine lv_iload_n hx hb d_WM_served_1 rfl (lv_at hl 1 rfl) ?_
  refine va_csq (va_Run.run (va_runV (As := [.int p_0]) (rest := []) ⟨hx, hb, hml, hown, htb⟩ (c_WM_manAt l dC dI a k L hL p_0) (cwV 1 htb (gd_V tw_157 tw_158 tw_159 tw_124 tw_156) rfl rfl rfl (by decide +kernel) ⟨Nat.le_of_ble_eq_true rfl, Nat.le_of_ble_eq_true rfl⟩) ⟨pr_blind, va_recv hK hP (ci := 0) (q0 := 0) rfl rfl, pr_pre hP hK hN⟩ rfl rfl hl.1 rfl (lv_room (Nat.le_of_ble_eq_true rfl)) d_WM_served_2 ⟨Nat.le_of_ble_eq_true rfl, Nat.le_of_ble_eq_true rfl⟩)) (fun rr_2 hq_1 => ?_)
  unfold f_WM_manAt at hq_1
  by_cases c_3 : p_0 < 0
  · rw [if_pos c_3] at hq_1
    subst hq_1
    refine hb_tv .null rfl ?_
    refine lv_astore_nN (lv' := [(2, .null), (0, .ref (a 0)), (1, .int p_0)]) hx hb d_WM_served_5 rfl hl (by decide) rfl (fun ls hl => ?_)
    refine lv_aload_nN hx hb d_WM_served_6 rfl (lv_at hl 0 rfl) ?_
    refine lv_ifnonnullN hx hb d_WM_served_7 ?_
    refine lv_iconst (v := (-1)) hx hb d_WM_served_10 (by decide +kernel) ?_
    exact W.iret (v := (-1)) hx hb hr (fun t ht hW => ⟨(-1), rfl, (by unfold f_WM_served; rw [if_pos c_3]), ht⟩) t_nil d_WM_served_11
  · by_cases c_4 : 40 ≤ p_0
    · rw [if_neg c_3, if_pos c_4] at hq_1
      subst hq_1
      refine hb_tv .null rfl ?_
      refine lv_astore_nN (lv' := [(2, .null), (0, .ref (a 0)), (1, .int p_0)]) hx hb d_WM_served_5 rfl hl (by decide) rfl (fun ls hl => ?_)
      refine lv_aload_nN hx hb d_WM_served_6 rfl (lv_at hl 0 rfl) ?_
      refine lv_ifnonnullN hx hb d_WM_served_7 ?_
      refine lv_iconst (v := (-1)) hx hb d_WM_served_10 (by decide +kernel) ?_
      exact W.iret (v := (-1)) hx hb hr (fun t ht hW => ⟨(-1), rfl, (by unfold f_WM_served; rw [if_neg c_3, if_pos c_4]), ht⟩) t_nil d_WM_served_11
    · rw [if_neg c_3, if_neg c_4] at hq_1
      obtain ⟨q_5, x_6, rfl, hk_7⟩ := hq_1
      refine hb_tv (.ref q_5) rfl ?_
      refine lv_astore_n (lv' := [(2, .ref q_5), (0, .ref (a 0)), (1, .int p_0)]) hx hb d_WM_served_5 rfl hl (by decide) rfl (fun ls hl => ?_)
      refine lv_aload_n hx hb d_WM_served_6 rfl (lv_at hl 0 rfl) ?_
      refine lv_ifnonnull (tgt := 12) hx hb d_WM_served_7 (by decide) ?_
      refine lv_aload_n hx hb d_WM_served_12 rfl (lv_at hl 0 rfl) ?_
      refine va_get (D := (dC, dI)) (ci := 2) (v := .null) (C := R_Mn) (T := F_Mn) (N := 8) hx hb htb i_Mn hown hK hP x_6 hk_7 rfl 1 (by decide) (htb (.fieldLink R_WM 119 "WaterMen$Man" "bond" "LWaterMen$Bond;") tw_161) (fun _ h9 => h9) rfl d_WM_served_13 ?_
      refine lv_astore_nN (lv' := [(3, .null), (2, .ref q_5), (0, .ref (a 0)), (1, .int p_0)]) hx hb d_WM_served_16 rfl hl (by decide) rfl (fun ls hl => ?_)
      refine lv_aload_nN hx hb d_WM_served_17 rfl (lv_at hl 0 rfl) ?_
      refine lv_ifnullN (tgt := 29) hx hb d_WM_served_18 (by decide) ?_
      refine lv_bipush (v := (-2)) hx hb d_WM_served_29 (by decide +kernel) ?_
      refine lv_goto (tgt := 42) hx hb d_WM_served_31 (by decide) ?_
      exact W.iret (v := (-2)) hx hb hr (fun t ht hW => ⟨(-2), rfl, (by unfold f_WM_served; rw [if_neg c_3, if_neg c_4]), ht⟩) t_nil d_WM_served_42
def f_WM_pass (p_0 : Int32) : Int32 := if p_0 < 0 then ((-1)) else (if 40 ≤ p_0 then ((-1)) else ((-2)))
set_option maxHeartbeats 4000000 in
set_option maxRecDepth 100000 in
theorem c_WM_pass (l : Launch) (dC : Nat → ClassId) (dI : Nat → Nat → Nat) (a : Nat → Nat) (k : Nat → ClassId) (L : List Nat) (hL : L.length = 40)  (p_0 : Int32)  : Met l y_WM_pass (.code y_WM_pass b_WM_pass 4 (some .int) :: TB) ({ frames := 2, cells := 0, slots := 0, locals := 44 }) (va_Pc [.ref (a 0), .int p_0] (PR dC dI (XW a k L) (XT k))) (vp_Si (fun r => r = f_WM_pass p_0)) 0 0 (fun _ => False) := by
  refine Met.ofW (cc := b_WM_pass) (maxL := 4) (ret := (some .int)) (by decide) rfl ?_
  intro p e s m args below meth c s₁ B hml hv
  obtain ⟨rfl, hP, hK, hN⟩ := hv
  have hx := B.exec
  have hb := B.bytes
  have hr := B.returns
  have hts := atoms_spec (ws := (.code y_WM_pass b_WM_pass 4 (some .int) :: TB)) B.pre
  have htb := fun w (h : w ∈ TB) => hts w (List.mem_cons_of_mem _ h)
  have hown : s.vm.findClass R_WM = some m.cls := findClass_of_methodNamed B.named
  have hlocks := B.notSynchronized
  have hl := lv_entry ([.ref (a 0), .int p_0]) (n := 4) (Nat.le_of_ble_eq_true rfl)
  rw [lg_entry_eq]
  generalize (lg_sl ([.ref (a 0), .int p_0]) ++ List.replicate (4 - (lg_sl ([.ref (a 0), .int p_0])).length) Slot.unset).toArray = ls at hl ⊢
  have hl : lv_has ls 4 [(0, .ref (a 0)), (1, .int p_0)] := hl
  refine lv_aload_n hx hb d_WM_pass_0 rfl (lv_at hl 0 rfl) ?_
  refine lv_iload_n hx hb d_WM_pass_1 rfl (lv_at hl 1 rfl) ?_
  refine vp_callSi (va_Run.run (va_runV (As := [.int p_0]) (rest := []) ⟨hx, hb, hml, hown, htb⟩ (c_WM_served l dC dI a k L hL p_0) (cwV 1 htb (gd_V tw_163 tw_164 tw_165 tw_124 tw_162) rfl rfl rfl (by decide +kernel) ⟨Nat.le_of_ble_eq_true rfl, Nat.le_of_ble_eq_true rfl⟩) ⟨pr_blind, va_recv hK hP (ci := 0) (q0 := 0) rfl rfl, pr_pre hP hK hN⟩ rfl rfl hl.1 rfl (lv_room (Nat.le_of_ble_eq_true rfl)) d_WM_pass_2 ⟨Nat.le_of_ble_eq_true rfl, Nat.le_of_ble_eq_true rfl⟩)) (fun r er => ?_)
  subst er
  by_cases c_1 : p_0 < 0
  · refine hb_ti (-1) (by unfold f_WM_served; rw [if_pos c_1]) ?_
    refine lv_istore_n (lv' := [(2, .int (-1)), (0, .ref (a 0)), (1, .int p_0)]) hx hb d_WM_pass_5 rfl hl (by decide) rfl (fun ls hl => ?_)
    refine lv_aload_n hx hb d_WM_pass_6 rfl (lv_at hl 1 rfl) ?_
    refine lv_iload_n hx hb d_WM_pass_7 rfl (lv_at hl 2 rfl) ?_
    refine va_csq (va_Run.run (va_runV (As := [.int p_0]) (rest := []) ⟨hx, hb, hml, hown, htb⟩ (c_WM_manAt l dC dI a k L hL p_0) (cwV 1 htb (gd_V tw_157 tw_158 tw_159 tw_124 tw_156) rfl rfl rfl (by decide +kernel) ⟨Nat.le_of_ble_eq_true rfl, Nat.le_of_ble_eq_true rfl⟩) ⟨pr_blind, va_recv hK hP (ci := 0) (q0 := 0) rfl rfl, pr_pre hP hK hN⟩ rfl rfl hl.1 rfl (lv_room (Nat.le_of_ble_eq_true rfl)) d_WM_pass_8 ⟨Nat.le_of_ble_eq_true rfl, Nat.le_of_ble_eq_true rfl⟩)) (fun rr_3 hq_2 => ?_)
    unfold f_WM_manAt at hq_2
    rw [if_pos c_1] at hq_2
    subst hq_2
    refine hb_tv .null rfl ?_
    refine lv_astore_nN (lv' := [(3, .null), (2, .int (-1)), (0, .ref (a 0)), (1, .int p_0)]) hx hb d_WM_pass_11 rfl hl (by decide) rfl (fun ls hl => ?_)
    refine lv_iload_n hx hb d_WM_pass_12 rfl (lv_at hl 1 rfl) ?_
    refine lv_if_lt (tgt := 20) hx hb d_WM_pass_13 (by decide) (fun _ => ?_) (fun h => absurd (by decide +kernel) h)
    refine lv_iload_n hx hb d_WM_pass_20 rfl (lv_at hl 1 rfl) ?_
    exact W.iret (v := (-1)) hx hb hr (fun t ht hW => ⟨(-1), rfl, (by unfold f_WM_pass; rw [if_pos c_1]), ht⟩) t_nil d_WM_pass_21
  · by_cases c_4 : 40 ≤ p_0
    · refine hb_ti (-1) (by unfold f_WM_served; rw [if_neg c_1, if_pos c_4]) ?_
      refine lv_istore_n (lv' := [(2, .int (-1)), (0, .ref (a 0)), (1, .int p_0)]) hx hb d_WM_pass_5 rfl hl (by decide) rfl (fun ls hl => ?_)
      refine lv_aload_n hx hb d_WM_pass_6 rfl (lv_at hl 1 rfl) ?_
      refine lv_iload_n hx hb d_WM_pass_7 rfl (lv_at hl 2 rfl) ?_
      refine va_csq (va_Run.run (va_runV (As := [.int p_0]) (rest := []) ⟨hx, hb, hml, hown, htb⟩ (c_WM_manAt l dC dI a k L hL p_0) (cwV 1 htb (gd_V tw_157 tw_158 tw_159 tw_124 tw_156) rfl rfl rfl (by decide +kernel) ⟨Nat.le_of_ble_eq_true rfl, Nat.le_of_ble_eq_true rfl⟩) ⟨pr_blind, va_recv hK hP (ci := 0) (q0 := 0) rfl rfl, pr_pre hP hK hN⟩ rfl rfl hl.1 rfl (lv_room (Nat.le_of_ble_eq_true rfl)) d_WM_pass_8 ⟨Nat.le_of_ble_eq_true rfl, Nat.le_of_ble_eq_true rfl⟩)) (fun rr_6 hq_5 => ?_)
      unfold f_WM_manAt at hq_5
      rw [if_neg c_1, if_pos c_4] at hq_5
      subst hq_5
      refine hb_tv .null rfl ?_
      refine lv_astore_nN (lv' := [(3, .null), (2, .int (-1)), (0, .ref (a 0)), (1, .int p_0)]) hx hb d_WM_pass_11 rfl hl (by decide) rfl (fun ls hl => ?_)
      refine lv_iload_n hx hb d_WM_pass_12 rfl (lv_at hl 1 rfl) ?_
      refine lv_if_lt (tgt := 20) hx hb d_WM_pass_13 (by decide) (fun _ => ?_) (fun h => absurd (by decide +kernel) h)
      refine lv_iload_n hx hb d_WM_pass_20 rfl (lv_at hl 1 rfl) ?_
      exact W.iret (v := (-1)) hx hb hr (fun t ht hW => ⟨(-1), rfl, (by unfold f_WM_pass; rw [if_neg c_1, if_pos c_4]), ht⟩) t_nil d_WM_pass_21
    · refine hb_ti (-2) (by unfold f_WM_served; rw [if_neg c_1, if_neg c_4]) ?_
      refine lv_istore_n (lv' := [(2, .int (-2)), (0, .ref (a 0)), (1, .int p_0)]) hx hb d_WM_pass_5 rfl hl (by decide) rfl (fun ls hl => ?_)
      refine lv_aload_n hx hb d_WM_pass_6 rfl (lv_at hl 1 rfl) ?_
      refine lv_iload_n hx hb d_WM_pass_7 rfl (lv_at hl 2 rfl) ?_
      refine va_csq (va_Run.run (va_runV (As := [.int p_0]) (rest := []) ⟨hx, hb, hml, hown, htb⟩ (c_WM_manAt l dC dI a k L hL p_0) (cwV 1 htb (gd_V tw_157 tw_158 tw_159 tw_124 tw_156) rfl rfl rfl (by decide +kernel) ⟨Nat.le_of_ble_eq_true rfl, Nat.le_of_ble_eq_true rfl⟩) ⟨pr_blind, va_recv hK hP (ci := 0) (q0 := 0) rfl rfl, pr_pre hP hK hN⟩ rfl rfl hl.1 rfl (lv_room (Nat.le_of_ble_eq_true rfl)) d_WM_pass_8 ⟨Nat.le_of_ble_eq_true rfl, Nat.le_of_ble_eq_true rfl⟩)) (fun rr_8 hq_7 => ?_)
      unfold f_WM_manAt at hq_7
      rw [if_neg c_1, if_neg c_4] at hq_7
      obtain ⟨q_9, x_10, rfl, hk_11⟩ := hq_7
      refine hb_tv (.ref q_9) rfl ?_
      refine lv_astore_n (lv' := [(3, .ref q_9), (2, .int (-2)), (0, .ref (a 0)), (1, .int p_0)]) hx hb d_WM_pass_11 rfl hl (by decide) rfl (fun ls hl => ?_)
      refine lv_iload_n hx hb d_WM_pass_12 rfl (lv_at hl 1 rfl) ?_
      refine lv_if_lt (tgt := 20) hx hb d_WM_pass_13 (by decide) (fun _ => ?_) (fun h => absurd (by decide +kernel) h)
      refine lv_iload_n hx hb d_WM_pass_20 rfl (lv_at hl 1 rfl) ?_
      exact W.iret (v := (-2)) hx hb hr (fun t ht hW => ⟨(-2), rfl, (by unfold f_WM_pass; rw [if_neg c_1, if_neg c_4]), ht⟩) t_nil d_WM_pass_21
