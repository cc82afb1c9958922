def f_WM_sink (p_0 : Int32) (p_1 : Int32) (p_2 : Int32) : Int32 := if p_0 < 0 then ((-1)) else ((-1))
set_option maxHeartbeats 4000000 in
set_option maxRecDepth 100000 in
theorem c_WM_sink (l : Launch) (dC : Nat → ClassId) (dI : Nat → Nat → Nat) (a : Nat → Nat) (k : Nat → ClassId) (L : List Nat) (hL : L.length = 40)  (p_0 : Int32) (p_1 : Int32) (p_2 : Int32)  : Met l y_WM_sink (.code y_WM_sink b_WM_sink 7 (some .int) :: TB) ({ frames := 1, cells := 0, slots := 0, locals := 21 }) (va_Pc [.ref (a 0), .int p_0, .int p_1, .int p_2] (PR dC dI (XW a k L) (XT k))) (vp_Si (fun r => r = f_WM_sink p_0 p_1 p_2)) 0 0 (fun _ => False) := by
  refine Met.ofW (cc := b_WM_sink) (maxL := 7) (ret := (some .int)) (by decide) rfl ?_
  intro p e s m args below meth c s₁ B hml hv
  obtain ⟨rfl, hP, hK, hN⟩ := hv
  have hx := B.exec
  have hb := B.bytes
  have hr := B.returns
  have hts := atoms_spec (ws := (.code y_WM_sink b_WM_sink 7 (some .int) :: TB)) B.pre
  have htb := fun w (h : w ∈ TB) => hts w (List.mem_cons_of_mem _ h)
  have hown : s.vm.findClass R_WM = some m.cls := findClass_of_methodNamed B.named
  have hlocks := B.notSynchronized
  have hl := lv_entry ([.ref (a 0), .int p_0, .int p_1, .int p_2]) (n := 7) (Nat.le_of_ble_eq_true rfl)
  rw [lg_entry_eq]
  generalize (lg_sl ([.ref (a 0), .int p_0, .int p_1, .int p_2]) ++ List.replicate (7 - (lg_sl ([.ref (a 0), .int p_0, .int p_1, .int p_2])).length) Slot.unset).toArray = ls at hl ⊢
  have hl : lv_has ls 7 [(0, .ref (a 0)), (1, .int p_0), (2, .int p_1), (3, .int p_2)] := hl
  refine lv_aload_n hx hb d_WM_sink_0 rfl (lv_at hl 0 rfl) ?_
  refine lv_iload_n hx hb d_WM_sink_1 rfl (lv_at hl 1 rfl) ?_
  refine va_csq (va_Run.run (va_runV (As := [.int p_0]) (rest := []) ⟨hx, hb, hml, hown, htb⟩ (c_WM_boatAt l dC dI a k L hL p_0) (cwV 1 htb (gd_V tw_187 tw_188 tw_189 tw_124 tw_186) rfl rfl rfl (by decide +kernel) ⟨Nat.le_of_ble_eq_true rfl, Nat.le_of_ble_eq_true rfl⟩) ⟨pr_blind, va_recv hK hP (ci := 0) (q0 := 0) rfl rfl, pr_pre hP hK hN⟩ rfl rfl hl.1 rfl (lv_room (Nat.le_of_ble_eq_true rfl)) d_WM_sink_2 ⟨Nat.le_of_ble_eq_true rfl, Nat.le_of_ble_eq_true rfl⟩)) (fun rr_2 hq_1 => ?_)
  unfold f_WM_boatAt at hq_1
  by_cases c_3 : p_0 < 0
  · rw [if_pos c_3] at hq_1
    subst hq_1
    refine hb_tv .null rfl ?_
    refine lv_astoreN (lv' := [(4, .null), (0, .ref (a 0)), (1, .int p_0), (2, .int p_1), (3, .int p_2)]) hx hb d_WM_sink_5 hl (by decide) rfl (fun ls hl => ?_)
    refine lv_aloadN hx hb d_WM_sink_7 (lv_at hl 0 rfl) ?_
    refine lv_ifnullN (tgt := 20) hx hb d_WM_sink_9 (by decide) ?_
    refine lv_iconst (v := (-1)) hx hb d_WM_sink_20 (by decide +kernel) ?_
    exact W.iret (v := (-1)) hx hb hr (fun t ht hW => ⟨(-1), rfl, (by unfold f_WM_sink; rw [if_pos c_3]), ht⟩) t_nil d_WM_sink_21
  · rw [if_neg c_3] at hq_1
    subst hq_1
    refine hb_tv .null rfl ?_
    refine lv_astoreN (lv' := [(4, .null), (0, .ref (a 0)), (1, .int p_0), (2, .int p_1), (3, .int p_2)]) hx hb d_WM_sink_5 hl (by decide) rfl (fun ls hl => ?_)
    refine lv_aloadN hx hb d_WM_sink_7 (lv_at hl 0 rfl) ?_
    refine lv_ifnullN (tgt := 20) hx hb d_WM_sink_9 (by decide) ?_
    refine lv_iconst (v := (-1)) hx hb d_WM_sink_20 (by decide +kernel) ?_
    exact W.iret (v := (-1)) hx hb hr (fun t ht hW => ⟨(-1), rfl, (by unfold f_WM_sink; rw [if_neg c_3]), ht⟩) t_nil d_WM_sink_21
def f_WM_tripAt (a : Nat → Nat) (k : Nat → ClassId) (L : List Nat) (p_0 : Int32) (r : Option Nat) : Prop := if p_0 < 0 then (r = none) else (r = none)
set_option maxHeartbeats 4000000 in
set_option maxRecDepth 100000 in
theorem c_WM_tripAt (l : Launch) (dC : Nat → ClassId) (dI : Nat → Nat → Nat) (a : Nat → Nat) (k : Nat → ClassId) (L : List Nat) (hL : L.length = 40) (p_0 : Int32) : Met l y_WM_tripAt (.code y_WM_tripAt b_WM_tripAt 2 (some (.object "WaterMen$Trip")) :: TB) ({ frames := 0, cells := 0, slots := 0, locals := 0 }) (va_Pc [.ref (a 0), .int p_0] (PR dC dI (XW a k L) (XT k))) (va_Sq (fun r => f_WM_tripAt a k L p_0 r)) 0 0 (fun _ => False) := by
  refine Met.ofW (cc := b_WM_tripAt) (maxL := 2) (ret := (some (.object "WaterMen$Trip"))) (by decide) rfl ?_
  intro p e s m args below meth c s₁ B hml hv
  obtain ⟨rfl, hP, hK, hN⟩ := hv
  have hx := B.exec
  have hb := B.bytes
  have hr := B.returns
  have hts := atoms_spec (ws := (.code y_WM_tripAt b_WM_tripAt 2 (some (.object "WaterMen$Trip")) :: TB)) B.pre
  have htb := fun w (h : w ∈ TB) => hts w (List.mem_cons_of_mem _ h)
  have hown : s.vm.findClass R_WM = some m.cls := findClass_of_methodNamed B.named
  have hlocks := B.notSynchronized
  have hl := lv_entry ([.ref (a 0), .int p_0]) (n := 2) (Nat.le_of_ble_eq_true rfl)
  rw [lg_entry_eq]
  generalize (lg_sl ([.ref (a 0), .int p_0]) ++ List.replicate (2 - (lg_sl ([.ref (a 0), .int p_0])).length) Slot.unset).toArray = ls at hl ⊢
  have hl : lv_has ls 2 [(0, .ref (a 0)), (1, .int p_0)] := hl
  refine lv_iload_n hx hb d_WM_tripAt_0 rfl (lv_at hl 1 rfl) ?_
  refine lv_if_lt (tgt := 21) hx hb d_WM_tripAt_1 (by decide) (fun c_1 => ?_) (fun c_1 => ?_)
  · refine lv_null hx hb d_WM_tripAt_21 ?_
    exact W.aret (v := .null) (rt := .object "WaterMen$Trip") hx hb hr (Or.inl ⟨_, rfl⟩) (Or.inl rfl) (fun t ht hW => ⟨none, rfl, (by show f_WM_tripAt a k L p_0 none; unfold f_WM_tripAt; rw [if_pos c_1]), ht⟩) t_nil d_WM_tripAt_22
  · refine lv_iload_n hx hb d_WM_tripAt_4 rfl (lv_at hl 1 rfl) ?_
    refine lv_aload_n hx hb d_WM_tripAt_5 rfl (lv_at hl 0 rfl) ?_
    refine va_get (D := (dC, dI)) (ci := 0) (v := .int 0) (C := R_WM) (T := F_WM) (N := 13) hx hb htb i_WM hown hK hP 0 rfl rfl 9 (by decide) (htb (.fieldLink R_WM 243 "WaterMen" "tripCount" "I") tw_244) (fun _ h9 => h9) rfl d_WM_tripAt_6 ?_
    refine lv_icmp_ge (tgt := 21) hx hb d_WM_tripAt_9 (by decide) (fun _ => ?_) (fun h => absurd (show 0 ≤ p_0 from by have e0 := c_1; rw [Int32.lt_iff_toInt_lt] at e0; have z0 : (0 : Int32).toInt = 0 := (by decide +kernel); rw [Int32.le_iff_toInt_le]; omega) h)
    refine lv_null hx hb d_WM_tripAt_21 ?_
    exact W.aret (v := .null) (rt := .object "WaterMen$Trip") hx hb hr (Or.inl ⟨_, rfl⟩) (Or.inl rfl) (fun t ht hW => ⟨none, rfl, (by show f_WM_tripAt a k L p_0 none; unfold f_WM_tripAt; rw [if_neg c_1]), ht⟩) t_nil d_WM_tripAt_22
def f_WM_trip (p_0 : Int32) (p_1 : Int32) : Int32 := if p_0 < 0 then ((-2)) else ((-2))
set_option maxHeartbeats 4000000 in
set_option maxRecDepth 100000 in
theorem c_WM_trip (l : Launch) (dC : Nat → ClassId) (dI : Nat → Nat → Nat) (a : Nat → Nat) (k : Nat → ClassId) (L : List Nat) (hL : L.length = 40)  (p_0 : Int32) (p_1 : Int32)  : Met l y_WM_trip (.code y_WM_trip b_WM_trip 4 (some .int) :: TB) ({ frames := 1, cells := 0, slots := 0, locals := 21 }) (va_Pc [.ref (a 0), .int p_0, .int p_1] (PR dC dI (XW a k L) (XT k))) (vp_Si (fun r => r = f_WM_trip p_0 p_1)) 0 0 (fun _ => False) := by
  refine Met.ofW (cc := b_WM_trip) (maxL := 4) (ret := (some .int)) (by decide) rfl ?_
  intro p e s m args below meth c s₁ B hml hv
  obtain ⟨rfl, hP, hK, hN⟩ := hv
  have hx := B.exec
  have hb := B.bytes
  have hr := B.returns
  have hts := atoms_spec (ws := (.code y_WM_trip b_WM_trip 4 (some .int) :: TB)) B.pre
  have htb := fun w (h : w ∈ TB) => hts w (List.mem_cons_of_mem _ h)
  have hown : s.vm.findClass R_WM = some m.cls := findClass_of_methodNamed B.named
  have hlocks := B.notSynchronized
  have hl := lv_entry ([.ref (a 0), .int p_0, .int p_1]) (n := 4) (Nat.le_of_ble_eq_true rfl)
  rw [lg_entry_eq]
  generalize (lg_sl ([.ref (a 0), .int p_0, .int p_1]) ++ List.replicate (4 - (lg_sl ([.ref (a 0), .int p_0, .int p_1])).length) Slot.unset).toArray = ls at hl ⊢
  have hl : lv_has ls 4 [(0, .ref (a 0)), (1, .int p_0), (2, .int p_1)] := hl
  refine lv_aload_n hx hb d_WM_trip_0 rfl (lv_at hl 0 rfl) ?_
  refine lv_iload_n hx hb d_WM_trip_1 rfl (lv_at hl 1 rfl) ?_
  refine va_csq (va_Run.run (va_runV (As := [.int p_0]) (rest := []) ⟨hx, hb, hml, hown, htb⟩ (c_WM_tripAt l dC dI a k L hL p_0) (cwV 1 htb (gd_V tw_246 tw_247 tw_248 tw_124 tw_245) rfl rfl rfl (by decide +kernel) ⟨Nat.le_of_ble_eq_true rfl, Nat.le_of_ble_eq_true rfl⟩) ⟨pr_blind, va_recv hK hP (ci := 0) (q0 := 0) rfl rfl, pr_pre hP hK hN⟩ rfl rfl hl.1 rfl (lv_room (Nat.le_of_ble_eq_true rfl)) d_WM_trip_2 ⟨Nat.le_of_ble_eq_true rfl, Nat.le_of_ble_eq_true rfl⟩)) (fun rr_2 hq_1 => ?_)
  unfold f_WM_tripAt at hq_1
  by_cases c_3 : p_0 < 0
  · rw [if_pos c_3] at hq_1
    subst hq_1
    refine hb_tv .null rfl ?_
    refine lv_astore_nN (lv' := [(3, .null), (0, .ref (a 0)), (1, .int p_0), (2, .int p_1)]) hx hb d_WM_trip_5 rfl hl (by decide) rfl (fun ls hl => ?_)
    refine lv_aload_nN hx hb d_WM_trip_6 rfl (lv_at hl 0 rfl) ?_
    refine lv_ifnonnullN hx hb d_WM_trip_7 ?_
    refine lv_bipush (v := (-2)) hx hb d_WM_trip_10 (by decide +kernel) ?_
    exact W.iret (v := (-2)) hx hb hr (fun t ht hW => ⟨(-2), rfl, (by unfold f_WM_trip; rw [if_pos c_3]), ht⟩) t_nil d_WM_trip_12
  · rw [if_neg c_3] at hq_1
    subst hq_1
    refine hb_tv .null rfl ?_
    refine lv_astore_nN (lv' := [(3, .null), (0, .ref (a 0)), (1, .int p_0), (2, .int p_1)]) hx hb d_WM_trip_5 rfl hl (by decide) rfl (fun ls hl => ?_)
    refine lv_aload_nN hx hb d_WM_trip_6 rfl (lv_at hl 0 rfl) ?_
    refine lv_ifnonnullN hx hb d_WM_trip_7 ?_
    refine lv_bipush (v := (-2)) hx hb d_WM_trip_10 (by decide +kernel) ?_
    exact W.iret (v := (-2)) hx hb hr (fun t ht hW => ⟨(-2), rfl, (by unfold f_WM_trip; rw [if_neg c_3]), ht⟩) t_nil d_WM_trip_12
def f_WM_due (p_0 : Int32) (p_1 : Int32) : Int32 := if p_0 < 0 then ((-2)) else ((-2))
set_option maxHeartbeats 4000000 in
set_option maxRecDepth 100000 in
theorem c_WM_due (l : Launch) (dC : Nat → ClassId) (dI : Nat → Nat → Nat) (a : Nat → Nat) (k : Nat → ClassId) (L : List Nat) (hL : L.length = 40)  (p_0 : Int32) (p_1 : Int32)  : Met l y_WM_due (.code y_WM_due b_WM_due 4 (some .int) :: TB) ({ frames := 1, cells := 0, slots := 0, locals := 21 }) (va_Pc [.ref (a 0), .int p_0, .int p_1] (PR dC dI (XW a k L) (XT k))) (vp_Si (fun r => r = f_WM_due p_0 p_1)) 0 0 (fun _ => False) := by
  refine Met.ofW (cc := b_WM_due) (maxL := 4) (ret := (some .int)) (by decide) rfl ?_
  intro p e s m args below meth c s₁ B hml hv
  obtain ⟨rfl, hP, hK, hN⟩ := hv
  have hx := B.exec
  have hb := B.bytes
  have hr := B.returns
  have hts := atoms_spec (ws := (.code y_WM_due b_WM_due 4 (some .int) :: TB)) B.pre
  have htb := fun w (h : w ∈ TB) => hts w (List.mem_cons_of_mem _ h)
  have hown : s.vm.findClass R_WM = some m.cls := findClass_of_methodNamed B.named
  have hlocks := B.notSynchronized
  have hl := lv_entry ([.ref (a 0), .int p_0, .int p_1]) (n := 4) (Nat.le_of_ble_eq_true rfl)
  rw [lg_entry_eq]
  generalize (lg_sl ([.ref (a 0), .int p_0, .int p_1]) ++ List.replicate (4 - (lg_sl ([.ref (a 0), .int p_0, .int p_1])).length) Slot.unset).toArray = ls at hl ⊢
  have hl : lv_has ls 4 [(0, .ref (a 0)), (1, .int p_0), (2, .int p_1)] := hl
  refine lv_aload_n hx hb d_WM_due_0 rfl (lv_at hl 0 rfl) ?_
  refine lv_iload_n hx hb d_WM_due_1 rfl (lv_at hl 1 rfl) ?_
  refine va_csq (va_Run.run (va_runV (As := [.int p_0]) (rest := []) ⟨hx, hb, hml, hown, htb⟩ (c_WM_tripAt l dC dI a k L hL p_0) (cwV 1 htb (gd_V tw_246 tw_247 tw_248 tw_124 tw_245) rfl rfl rfl (by decide +kernel) ⟨Nat.le_of_ble_eq_true rfl, Nat.le_of_ble_eq_true rfl⟩) ⟨pr_blind, va_recv hK hP (ci := 0) (q0 := 0) rfl rfl, pr_pre hP hK hN⟩ rfl rfl hl.1 rfl (lv_room (Nat.le_of_ble_eq_true rfl)) d_WM_due_2 ⟨Nat.le_of_ble_eq_true rfl, Nat.le_of_ble_eq_true rfl⟩)) (fun rr_2 hq_1 => ?_)
  unfold f_WM_tripAt at hq_1
  by_cases c_3 : p_0 < 0
  · rw [if_pos c_3] at hq_1
    subst hq_1
    refine hb_tv .null rfl ?_
    refine lv_astore_nN (lv' := [(3, .null), (0, .ref (a 0)), (1, .int p_0), (2, .int p_1)]) hx hb d_WM_due_5 rfl hl (by decide) rfl (fun ls hl => ?_)
    refine lv_aload_nN hx hb d_WM_due_6 rfl (lv_at hl 0 rfl) ?_
    refine lv_ifnullN (tgt := 17) hx hb d_WM_due_7 (by decide) ?_
    refine lv_bipush (v := (-2)) hx hb d_WM_due_17 (by decide +kernel) ?_
    refine lv_goto (tgt := 28) hx hb d_WM_due_19 (by decide) ?_
    exact W.iret (v := (-2)) hx hb hr (fun t ht hW => ⟨(-2), rfl, (by unfold f_WM_due; rw [if_pos c_3]), ht⟩) t_nil d_WM_due_28
  · rw [if_neg c_3] at hq_1
    subst hq_1
    refine hb_tv .null rfl ?_
    refine lv_astore_nN (lv' := [(3, .null), (0, .ref (a 0)), (1, .int p_0), (2, .int p_1)]) hx hb d_WM_due_5 rfl hl (by decide) rfl (fun ls hl => ?_)
    refine lv_aload_nN hx hb d_WM_due_6 rfl (lv_at hl 0 rfl) ?_
    refine lv_ifnullN (tgt := 17) hx hb d_WM_due_7 (by decide) ?_
    refine lv_bipush (v := (-2)) hx hb d_WM_due_17 (by decide +kernel) ?_
    refine lv_goto (tgt := 28) hx hb d_WM_due_19 (by decide) ?_
    exact W.iret (v := (-2)) hx hb hr (fun t ht hW => ⟨(-2), rfl, (by unfold f_WM_due; rw [if_neg c_3]), ht⟩) t_nil d_WM_due_28
def f_WM_over (p_0 : Int32) (p_1 : Int32) : Int32 := if p_0 < 0 then ((-1)) else (if 40 ≤ p_0 then ((-1)) else (if p_1 < 0 then ((-1)) else (if 500 ≤ p_1 then ((-1)) else (0))))
set_option maxHeartbeats 4000000 in
set_option maxRecDepth 100000 in
theorem c_WM_over (l : Launch) (dC : Nat → ClassId) (dI : Nat → Nat → Nat) (a : Nat → Nat) (k : Nat → ClassId) (L : List Nat) (hL : L.length = 40)  (p_0 : Int32) (p_1 : Int32)  : Met l y_WM_over (.code y_WM_over b_WM_over 6 (some .int) :: TB) ({ frames := 1, cells := 0, slots := 0, locals := 21 }) (va_Pc [.ref (a 0), .int p_0, .int p_1] (PR dC dI (XW a k L) (XT k))) (vp_Si (fun r => r = f_WM_over p_0 p_1)) 0 0 (fun _ => False) := by
  refine Met.ofW (cc := b_WM_over) (maxL := 6) (ret := (some .int)) (by decide) rfl ?_
  intro p e s m args below meth c s₁ B hml hv
  obtain ⟨rfl, hP, hK, hN⟩ := hv
  have hx := B.exec
  have hb := B.bytes
  have hr := B.returns
  have hts := atoms_spec (ws := (.code y_WM_over b_WM_over 6 (some .int) :: TB)) B.pre
  have htb := fun w (h : w ∈ TB) => hts w (List.mem_cons_of_mem _ h)
  have hown : s.vm.findClass R_WM = some m.cls := findClass_of_methodNamed B.named
  have hlocks := B.notSynchronized
  have hl := lv_entry ([.ref (a 0), .int p_0, .int p_1]) (n := 6) (Nat.le_of_ble_eq_true rfl)
  rw [lg_entry_eq]
  generalize (lg_sl ([.ref (a 0), .int p_0, .int p_1]) ++ List.replicate (6 - (lg_sl ([.ref (a 0), .int p_0, .int p_1])).length) Slot.unset).toArray = ls at hl ⊢
  have hl : lv_has ls 6 [(0, .ref (a 0)), (1, .int p_0), (2, .int p_1)] := hl
  refine lv_aload_n hx hb d_WM_over_0 rfl (lv_at hl 0 rfl) ?_
  refine lv_iload_n hx hb d_WM_over_1 rfl (lv_at hl 1 rfl) ?_
  refine va_csq (va_Run.run (va_runV (As := [.int p_0]) (rest := []) ⟨hx, hb, hml, hown, htb⟩ (c_WM_manAt l dC dI a k L hL p_0) (cwV 1 htb (gd_V tw_157 tw_158 tw_159 tw_124 tw_156) rfl rfl rfl (by decide +kernel) ⟨Nat.le_of_ble_eq_true rfl, Nat.le_of_ble_eq_true rfl⟩) ⟨pr_blind, va_recv hK hP (ci := 0) (q0 := 0) rfl rfl, pr_pre hP hK hN⟩ rfl rfl hl.1 rfl (lv_room (Nat.le_of_ble_eq_true rfl)) d_WM_over_2 ⟨Nat.le_of_ble_eq_true rfl, Nat.le_of_ble_eq_true rfl⟩)) (fun rr_2 hq_1 => ?_)
  unfold f_WM_manAt at hq_1
  by_cases c_3 : p_0 < 0
  · rw [if_pos c_3] at hq_1
    subst hq_1
    refine hb_tv .null rfl ?_
    refine lv_ifnullN (tgt := 15) hx hb d_WM_over_5 (by decide) ?_
    refine lv_iconst (v := (-1)) hx hb d_WM_over_15 (by decide +kernel) ?_
    exact W.iret (v := (-1)) hx hb hr (fun t ht hW => ⟨(-1), rfl, (by unfold f_WM_over; rw [if_pos c_3]), ht⟩) t_nil d_WM_over_16
  · by_cases c_4 : 40 ≤ p_0
    · rw [if_neg c_3, if_pos c_4] at hq_1
      subst hq_1
      refine hb_tv .null rfl ?_
      refine lv_ifnullN (tgt := 15) hx hb d_WM_over_5 (by decide) ?_
      refine lv_iconst (v := (-1)) hx hb d_WM_over_15 (by decide +kernel) ?_
      exact W.iret (v := (-1)) hx hb hr (fun t ht hW => ⟨(-1), rfl, (by unfold f_WM_over; rw [if_neg c_3, if_pos c_4]), ht⟩) t_nil d_WM_over_16
    · rw [if_neg c_3, if_neg c_4] at hq_1
      obtain ⟨q_5, x_6, rfl, hk_7⟩ := hq_1
      refine hb_tv (.ref q_5) rfl ?_
      refine lv_ifnull hx hb d_WM_over_5 ?_
      refine lv_iload_n hx hb d_WM_over_8 rfl (lv_at hl 2 rfl) ?_
      refine vp_callSi (va_Run.run (va_runS (As := [.int p_1]) (rest := []) ⟨hx, hb, hml, hown, htb⟩ (c_WM_isDay l p_1) (cwS 1 htb (gd_S tw_125 tw_126 tw_124 tw_123) rfl rfl rfl (by decide +kernel) ⟨Nat.le_of_ble_eq_true rfl, Nat.le_of_ble_eq_true rfl⟩) ⟨fun _ _ _ _ h => h, fun U _ _ => ⟨rfl, trivial⟩⟩ rfl rfl hl.1 rfl (lv_room (Nat.le_of_ble_eq_true rfl)) d_WM_over_9 ⟨Nat.le_of_ble_eq_true rfl, Nat.le_of_ble_eq_true rfl⟩)) (fun r er => ?_)
      subst er
      by_cases c_8 : p_1 < 0
      · refine hb_ti 0 (by unfold f_WM_isDay; rw [if_pos c_8]) ?_
        refine lv_if_ne (tgt := 17) hx hb d_WM_over_12 (by decide) (fun h => absurd (by decide +kernel) h) (fun _ => ?_)
        refine lv_iconst (v := (-1)) hx hb d_WM_over_15 (by decide +kernel) ?_
        exact W.iret (v := (-1)) hx hb hr (fun t ht hW => ⟨(-1), rfl, (by unfold f_WM_over; rw [if_neg c_3, if_neg c_4, if_pos c_8]), ht⟩) t_nil d_WM_over_16
      · by_cases c_9 : 500 ≤ p_1
        · refine hb_ti 0 (by unfold f_WM_isDay; rw [if_neg c_8, if_pos c_9]) ?_
          refine lv_if_ne (tgt := 17) hx hb d_WM_over_12 (by decide) (fun h => absurd (by decide +kernel) h) (fun _ => ?_)
          refine lv_iconst (v := (-1)) hx hb d_WM_over_15 (by decide +kernel) ?_
          exact W.iret (v := (-1)) hx hb hr (fun t ht hW => ⟨(-1), rfl, (by unfold f_WM_over; rw [if_neg c_3, if_neg c_4, if_neg c_8, if_pos c_9]), ht⟩) t_nil d_WM_over_16
        · refine hb_ti 1 (by unfold f_WM_isDay; rw [if_neg c_8, if_neg c_9]) ?_
          refine lv_if_ne (tgt := 17) hx hb d_WM_over_12 (by decide) (fun _ => ?_) (fun h => absurd h (by decide +kernel))
          refine lv_iconst (v := 0) hx hb d_WM_over_17 (by decide +kernel) ?_
          refine lv_istore_n (lv' := [(3, .int 0), (0, .ref (a 0)), (1, .int p_0), (2, .int p_1)]) hx hb d_WM_over_18 rfl hl (by decide) rfl (fun ls hl => ?_)
          refine lv_iconst (v := 0) hx hb d_WM_over_19 (by decide +kernel) ?_
          refine lv_istore (lv' := [(4, .int 0), (3, .int 0), (0, .ref (a 0)), (1, .int p_0), (2, .int p_1)]) hx hb d_WM_over_20 hl (by decide) rfl (fun ls hl => ?_)
          refine lv_iload hx hb d_WM_over_22 (lv_at hl 0 rfl) ?_
          refine lv_aload_n hx hb d_WM_over_24 rfl (lv_at hl 2 rfl) ?_
          refine va_get (D := (dC, dI)) (ci := 0) (v := .int 0) (C := R_WM) (T := F_WM) (N := 13) hx hb htb i_WM hown hK hP 0 rfl rfl 9 (by decide) (htb (.fieldLink R_WM 243 "WaterMen" "tripCount" "I") tw_244) (fun _ h9 => h9) rfl d_WM_over_25 ?_
          refine lv_icmp_ge (tgt := 69) hx hb d_WM_over_28 (by decide) (fun _ => ?_) (fun h => absurd (by decide +kernel) h)
          refine lv_iload_n hx hb d_WM_over_69 rfl (lv_at hl 1 rfl) ?_
          exact W.iret (v := 0) hx hb hr (fun t ht hW => ⟨0, rfl, (by unfold f_WM_over; rw [if_neg c_3, if_neg c_4, if_neg c_8, if_neg c_9]), ht⟩) t_nil d_WM_over_70
def f_WM_isPension (p_0 : Int32) (p_1 : Int32) : Int32 := if p_0 < 1 then (0) else (if 10000 < p_0 then (0) else (if p_1 < 0 then (0) else (if 9999 < p_1 then (0) else (1))))
set_option maxHeartbeats 4000000 in
set_option maxRecDepth 100000 in
theorem c_WM_isPension (l : Launch)  (p_0 : Int32) (p_1 : Int32)  : Met l y_WM_isPension (.code y_WM_isPension b_WM_isPension 2 (some .boolean) :: TB) ({ frames := 0, cells := 0, slots := 0, locals := 0 }) (va_Pc [.int p_0, .int p_1] (fun _ => True)) (vp_Si (fun r => r = f_WM_isPension p_0 p_1)) 0 0 (fun _ => False) := by
  refine Met.ofW (cc := b_WM_isPension) (maxL := 2) (ret := (some .boolean)) (by decide) rfl ?_
  intro p e s m args below meth c s₁ B hml hv
  obtain ⟨rfl, -⟩ := hv
  have hx := B.exec
  have hb := B.bytes
  have hr := B.returns
  have hts := atoms_spec (ws := (.code y_WM_isPension b_WM_isPension 2 (some .boolean) :: TB)) B.pre
  have htb := fun w (h : w ∈ TB) => hts w (List.mem_cons_of_mem _ h)
  have hown : s.vm.findClass R_WM = some m.cls := findClass_of_methodNamed B.named
  have hlocks := B.notSynchronized
  have hl := lv_entry ([.int p_0, .int p_1]) (n := 2) (Nat.le_of_ble_eq_true rfl)
  rw [lg_entry_eq]
  generalize (lg_sl ([.int p_0, .int p_1]) ++ List.replicate (2 - (lg_sl ([.int p_0, .int p_1])).length) Slot.unset).toArray = ls at hl ⊢
  have hl : lv_has ls 2 [(0, .int p_0), (1, .int p_1)] := hl
  refine lv_iload_n hx hb d_WM_isPension_0 rfl (lv_at hl 0 rfl) ?_
  refine lv_iconst (v := 1) hx hb d_WM_isPension_1 (by decide +kernel) ?_
  refine lv_icmp_lt (tgt := 27) hx hb d_WM_isPension_2 (by decide) (fun c_1 => ?_) (fun c_1 => ?_)
  · refine lv_iconst (v := 0) hx hb d_WM_isPension_27 (by decide +kernel) ?_
    exact W.zret (v := 0) hx hb hr (by decide +kernel) (fun t ht hW => ⟨0, rfl, (by unfold f_WM_isPension; rw [if_pos c_1]), ht⟩) t_nil d_WM_isPension_28
  · refine lv_iload_n hx hb d_WM_isPension_5 rfl (lv_at hl 0 rfl) ?_
    refine lv_sipush (v := 10000) hx hb d_WM_isPension_6 (by decide +kernel) ?_
    refine lv_icmp_gt (tgt := 27) hx hb d_WM_isPension_9 (by decide) (fun c_2 => ?_) (fun c_2 => ?_)
    · refine lv_iconst (v := 0) hx hb d_WM_isPension_27 (by decide +kernel) ?_
      exact W.zret (v := 0) hx hb hr (by decide +kernel) (fun t ht hW => ⟨0, rfl, (by unfold f_WM_isPension; rw [if_neg c_1, if_pos c_2]), ht⟩) t_nil d_WM_isPension_28
    · refine lv_iload_n hx hb d_WM_isPension_12 rfl (lv_at hl 1 rfl) ?_
      refine lv_if_lt (tgt := 27) hx hb d_WM_isPension_13 (by decide) (fun c_3 => ?_) (fun c_3 => ?_)
      · refine lv_iconst (v := 0) hx hb d_WM_isPension_27 (by decide +kernel) ?_
        exact W.zret (v := 0) hx hb hr (by decide +kernel) (fun t ht hW => ⟨0, rfl, (by unfold f_WM_isPension; rw [if_neg c_1, if_neg c_2, if_pos c_3]), ht⟩) t_nil d_WM_isPension_28
      · refine lv_iload_n hx hb d_WM_isPension_16 rfl (lv_at hl 1 rfl) ?_
        refine lv_sipush (v := 9999) hx hb d_WM_isPension_17 (by decide +kernel) ?_
        refine lv_icmp_gt (tgt := 27) hx hb d_WM_isPension_20 (by decide) (fun c_4 => ?_) (fun c_4 => ?_)
        · refine lv_iconst (v := 0) hx hb d_WM_isPension_27 (by decide +kernel) ?_
          exact W.zret (v := 0) hx hb hr (by decide +kernel) (fun t ht hW => ⟨0, rfl, (by unfold f_WM_isPension; rw [if_neg c_1, if_neg c_2, if_neg c_3, if_pos c_4]), ht⟩) t_nil d_WM_isPension_28
        · refine lv_iconst (v := 1) hx hb d_WM_isPension_23 (by decide +kernel) ?_
          refine lv_goto (tgt := 28) hx hb d_WM_isPension_24 (by decide) ?_
          exact W.zret (v := 1) hx hb hr (by decide +kernel) (fun t ht hW => ⟨1, rfl, (by unfold f_WM_isPension; rw [if_neg c_1, if_neg c_2, if_neg c_3, if_neg c_4]), ht⟩) t_nil d_WM_isPension_28
set_option maxHeartbeats 4000000 in
set_option maxRecDepth 100000 in
theorem c_Pn_init_c14 (l : Launch) (dC : Nat → ClassId) (dI : Nat → Nat → Nat) (h_0 : Nat) (sz : Nat) (p_0 : Int32) (p_1 : Int32)  : Met l y_Pn_init (.code y_Pn_init b_Pn_init 3 none :: TB) ({ frames := 1, cells := 0, slots := 0, locals := 12 }) (va_Pc [.ref h_0, .int p_0, .int p_1] (PC dC dI [(h_0, .inr (6, [.int 0, .int 0, .int 0]))] [] sz)) (va_Qv (fun (_ : Unit) => True) (fun (_ : Unit) t => va_P (dC, dI) vwCl [(h_0, .inr (6, [.int p_0, .int p_1, .int 0]))] t.heap ∧ va_K (dC, dI) vwCl [] t ∧ va_D (va_A [(h_0, .inr (6, [.int 0, .int 0, .int 0]))] sz) [(h_0, .inr (6, [.int p_0, .int p_1, .int 0]))]) (va_A [(h_0, .inr (6, [.int 0, .int 0, .int 0]))] sz)) 0 0 (va_A [(h_0, .inr (6, [.int 0, .int 0, .int 0]))] sz) := by
  refine Met.ofW (cc := b_Pn_init) (maxL := 3) (ret := none) (by decide) rfl ?_
  intro p e s m args below meth c s₁ B hml hv
  obtain ⟨rfl, hsz, hP, hK, hD0, hN⟩ := hv
  have hx := B.exec
  have hb := B.bytes
  have hr := B.returns
  have hts := atoms_spec (ws := (.code y_Pn_init b_Pn_init 3 none :: TB)) B.pre
  have htb := fun w (h : w ∈ TB) => hts w (List.mem_cons_of_mem _ h)
  have hown : s.vm.findClass R_Pn = some m.cls := findClass_of_methodNamed B.named
  have hlocks := B.notSynchronized
  have hin : meth.name = "<init>" := (name_of_methodNamed B.named B.method).1
  have hl := lv_entry ([.ref h_0, .int p_0, .int p_1]) (n := 3) (Nat.le_of_ble_eq_true rfl)
  rw [lg_entry_eq]
  generalize (lg_sl ([.ref h_0, .int p_0, .int p_1]) ++ List.replicate (3 - (lg_sl ([.ref h_0, .int p_0, .int p_1])).length) Slot.unset).toArray = ls at hl ⊢
  have hl : lv_has ls 3 [(0, .ref h_0), (1, .int p_0), (2, .int p_1)] := hl
  subst hsz
  have hD := hD0.self (sz := s.heap.size)
  obtain ⟨A, hAe⟩ : ∃ A, va_A [(h_0, .inr (6, [.int 0, .int 0, .int 0]))] s.heap.size = A := ⟨_, rfl⟩
  rw [hAe] at hD
  have hA : ∀ q : Nat, s.heap.size ≤ q → A q := fun q h => by rw [← hAe]; exact Or.inr h
  have hS : va_S A s.heap s.heap [] := va_S.rf
  have hP := hP
  refine lv_aload_n hx hb d_Pn_init_0 rfl (lv_at hl 0 rfl) ?_
  refine W.objInit hx hb hown (htb (.methodLink R_Pn 1 objectInit) tw_256) (htb (.instanceMethod objectInit) tw_1) (htb (.code objectInit ⟨#[0xb1]⟩ 1 none) tw_2) rfl (by rw [hml]; exact hl.1) rfl d_Pn_init_1 (Nat.le_of_ble_eq_true rfl) (Nat.le_of_ble_eq_true rfl) ?_
  refine W.eq (g2 := F0 m 4 ls []) rfl ?_
  refine lv_aload_n hx hb d_Pn_init_4 rfl (lv_at hl 0 rfl) ?_
  refine lv_iload_n hx hb d_Pn_init_5 rfl (lv_at hl 1 rfl) ?_
  refine va_putF (D := (dC, dI)) (ci := 6) (v := .int p_0) (ty := .int) (C := R_Pn) (T := F_Pn) (N := 3) hx hb htb i_Pn t_Pn t_Pn_ok n_Pn hown hK hP hD hS 0 rfl rfl 0 (by decide) (htb (.fieldLink R_Pn 7 "WaterMen$Pensioner" "pension" "I") tw_257) (fun _ h9 => h9) rfl hin rfl (by decide +kernel) rfl rfl (Nat.le_of_ble_eq_true rfl) d_Pn_init_6 (fun H locs hP hD hS => ?_)
  have hP : va_P (dC, dI) vwCl [(h_0, .inr (6, [.int p_0, .int 0, .int 0]))] H := hP
  have hD : va_D A [(h_0, .inr (6, [.int p_0, .int 0, .int 0]))] := hD
  refine lv_aload_n hx hb d_Pn_init_9 rfl (lv_at hl 0 rfl) ?_
  refine lv_iload_n hx hb d_Pn_init_10 rfl (lv_at hl 2 rfl) ?_
  refine va_putF (D := (dC, dI)) (ci := 6) (v := .int p_1) (ty := .int) (C := R_Pn) (T := F_Pn) (N := 3) hx hb htb i_Pn t_Pn t_Pn_ok n_Pn hown hK hP hD hS 0 rfl rfl 1 (by decide) (htb (.fieldLink R_Pn 13 "WaterMen$Pensioner" "end" "I") tw_258) (fun _ h9 => h9) rfl hin rfl (by decide +kernel) rfl rfl (Nat.le_of_ble_eq_true rfl) d_Pn_init_11 (fun H locs hP hD hS => ?_)
  have hP : va_P (dC, dI) vwCl [(h_0, .inr (6, [.int p_0, .int p_1, .int 0]))] H := hP
  have hD : va_D A [(h_0, .inr (6, [.int p_0, .int p_1, .int 0]))] := hD
  refine W.widen (k := 0) (n := 0) (Nat.le_of_ble_eq_true rfl) (Nat.le_of_ble_eq_true rfl) ?_
  exact W.vret hx hb hr (fun t ht hW => ⟨⟨(), rfl, trivial, by rw [ht]; exact hP, va_K.moved hW.alike hK, by rw [hAe]; exact hD⟩, by rw [hAe]; exact hS.F ht⟩) (by rw [hAe]; exact hS.2.2) d_Pn_init_14
def f_Bx_take (p_0 : Int32) (p_1 : Int32) : Int32 := 0
set_option maxHeartbeats 4000000 in
set_option maxRecDepth 100000 in
theorem c_Bx_take (l : Launch) (dC : Nat → ClassId) (dI : Nat → Nat → Nat) (a : Nat → Nat) (k : Nat → ClassId) (L : List Nat) (hL : L.length = 40) (sz : Nat) (p_0 : Int32) (p_1 : Int32)  : Met l y_Bx_take (.code y_Bx_take b_Bx_take 3 (some .int) :: TB) ({ frames := 2, cells := 1, slots := 3, locals := 34 }) (va_Pc [.ref (a 12), .int p_0, .int p_1] (PC dC dI (XW a k L) (XT k) sz)) (va_Qi (fun r (_ : Unit) => r = f_Bx_take p_0 p_1) (fun (_ : Unit) (_ : State) => True) (va_A (XW a k L) sz)) 1 3 (va_A (XW a k L) sz) := by
  refine Met.ofW (cc := b_Bx_take) (maxL := 3) (ret := (some .int)) (by decide) rfl ?_
  intro p e s m args below meth c s₁ B hml hv
  obtain ⟨rfl, hsz, hP, hK, hD0, hN⟩ := hv
  have hx := B.exec
  have hb := B.bytes
  have hr := B.returns
  have hts := atoms_spec (ws := (.code y_Bx_take b_Bx_take 3 (some .int) :: TB)) B.pre
  have htb := fun w (h : w ∈ TB) => hts w (List.mem_cons_of_mem _ h)
  have hown : s.vm.findClass R_Bx = some m.cls := findClass_of_methodNamed B.named
  have hlocks := B.notSynchronized
  have hl := lv_entry ([.ref (a 12), .int p_0, .int p_1]) (n := 3) (Nat.le_of_ble_eq_true rfl)
  rw [lg_entry_eq]
  generalize (lg_sl ([.ref (a 12), .int p_0, .int p_1]) ++ List.replicate (3 - (lg_sl ([.ref (a 12), .int p_0, .int p_1])).length) Slot.unset).toArray = ls at hl ⊢
  have hl : lv_has ls 3 [(0, .ref (a 12)), (1, .int p_0), (2, .int p_1)] := hl
  subst hsz
  have hD := hD0.self (sz := s.heap.size)
  obtain ⟨A, hAe⟩ : ∃ A, va_A (XW a k L) s.heap.size = A := ⟨_, rfl⟩
  rw [hAe] at hD
  have hA : ∀ q : Nat, s.heap.size ≤ q → A q := fun q h => by rw [← hAe]; exact Or.inr h
  have hS : va_S A s.heap s.heap [] := va_S.rf
  have hP := hP
  have hP := hP.sub (ws' := [((a 12), .inr (5, [.int 0, .int 0, .int 0, .int 0, .ref (a 13), .ref (a 14), .int 0])), ((a 14), .inl ((k 14), 30, .inr (.inr (.inr (.inr (fun _ => none))))))]) [12, 14] rfl
  have hD := hD.sub (ws' := [((a 12), .inr (5, [.int 0, .int 0, .int 0, .int 0, .ref (a 13), .ref (a 14), .int 0])), ((a 14), .inl ((k 14), 30, .inr (.inr (.inr (.inr (fun _ => none))))))]) [12, 14] (by decide) rfl
  have hK := hK.sub (tys' := [((k 14), .object R_Pn)]) [10] rfl
  refine lv_aload_n hx hb d_Bx_take_0 rfl (lv_at hl 0 rfl) ?_
  refine va_get (D := (dC, dI)) (ci := 5) (v := .ref (a 14)) (C := R_Bx) (T := F_Bx) (N := 7) hx hb htb i_Bx hown hK hP 0 rfl rfl 5 (by decide) (htb (.fieldLink R_Bx 17 "WaterMen$Box" "pensioners" "[LWaterMen$Pensioner;") tw_91) (fun _ h9 => h9) rfl d_Bx_take_1 ?_
  refine lv_aload_n hx hb d_Bx_take_4 rfl (lv_at hl 0 rfl) ?_
  refine va_get (D := (dC, dI)) (ci := 5) (v := .int 0) (C := R_Bx) (T := F_Bx) (N := 7) hx hb htb i_Bx hown hK hP 0 rfl rfl 6 (by decide) (htb (.fieldLink R_Bx 29 "WaterMen$Box" "pensionerCount" "I") tw_253) (fun _ h9 => h9) rfl d_Bx_take_5 ?_
  refine va_new (ci := 6) (fs := [.int 0, .int 0, .int 0]) (C := R_Pn) (T := F_Pn) (N := 3) hx hb htb i_Pn t_Pn t_Pn_ok hown (htb (.classLink R_Bx 15 R_Pn) tw_90) (htb (.instantiable R_Pn 3) tw_254) (htb (.initialized R_Pn) tw_255) hK hP hD hS hA rfl (df_Pn) (Nat.le_of_ble_eq_true rfl) (Nat.le_of_ble_eq_true rfl) d_Bx_take_8 (fun q_1 H hP hD hS => ?_)
  have hP : va_P (dC, dI) vwCl [((a 12), .inr (5, [.int 0, .int 0, .int 0, .int 0, .ref (a 13), .ref (a 14), .int 0])), ((a 14), .inl ((k 14), 30, .inr (.inr (.inr (.inr (fun _ => none)))))), (q_1, .inr (6, [.int 0, .int 0, .int 0]))] H := hP
  have hD : va_D A [((a 12), .inr (5, [.int 0, .int 0, .int 0, .int 0, .ref (a 13), .ref (a 14), .int 0])), ((a 14), .inl ((k 14), 30, .inr (.inr (.inr (.inr (fun _ => none)))))), (q_1, .inr (6, [.int 0, .int 0, .int 0]))] := hD
  refine lv_dup hx hb d_Bx_take_11 rfl ?_
  refine lv_iload_n hx hb d_Bx_take_12 rfl (lv_at hl 1 rfl) ?_
  refine lv_iload_n hx hb d_Bx_take_13 rfl (lv_at hl 2 rfl) ?_
  have hPc := hP.sub (ws' := [(q_1, .inr (6, [.int 0, .int 0, .int 0]))]) [2] rfl
  have hDc := hD.sub (ws' := [(q_1, .inr (6, [.int 0, .int 0, .int 0]))]) [2] (by decide) rfl
  have hKc := hK.sub (tys' := []) [] rfl
  have hFc := va_free (wc := [(q_1, .inr (6, [.int 0, .int 0, .int 0]))]) hD hS hA [2] rfl
  refine va_callv (va_runI (As := [.int p_0, .int p_1]) (rest := [.ref q_1, .int 0, .ref (a 14)]) ⟨hx, hb, hml, hown, htb⟩ (c_Pn_init_c14 l dC dI q_1 _ p_0 p_1) (cwI 2 htb (gd_I tw_259) rfl rfl rfl (htb (.initialized R_Pn) tw_255) (htb (.methodLink R_Bx 32 y_Pn_init) tw_260) (htb (.instanceMethod y_Pn_init) tw_261) rfl (by decide +kernel) ⟨Nat.le_of_ble_eq_true rfl, Nat.le_of_ble_eq_true rfl⟩) ⟨pc_blind, pc_pre hPc hKc hDc hN⟩ rfl rfl hl.1 rfl (lv_room (Nat.le_of_ble_eq_true rfl)) d_Bx_take_14 ⟨Nat.le_of_ble_eq_true rfl, Nat.le_of_ble_eq_true rfl⟩) hS (fun q _ h => hFc q h) hFc (fun u t H1 locs ht hvm hw hB hz1 hk1 hS => ?_)
  obtain ⟨hP1, hK1, hD1⟩ := hB
  rw [ht] at hP1
  have hK1 := va_K.moved hvm.symm hK1
  obtain ⟨hP, hD⟩ := va_join (wr := [((a 12), .inr (5, [.int 0, .int 0, .int 0, .int 0, .ref (a 13), .ref (a 14), .int 0])), ((a 14), .inl ((k 14), 30, .inr (.inr (.inr (.inr (fun _ => none))))))]) (w1 := [(q_1, .inr (6, [.int p_0, .int p_1, .int 0]))]) hP hD [2] [0, 1] rfl rfl (by decide) (by decide) hk1 hFc hP1 hD1
  have hK := (hK.sub (tys' := [((k 14), .object R_Pn)]) [0] rfl).app hK1
  generalize H1 = H at hP hS ⊢
  have hP : va_P (dC, dI) vwCl [((a 12), .inr (5, [.int 0, .int 0, .int 0, .int 0, .ref (a 13), .ref (a 14), .int 0])), ((a 14), .inl ((k 14), 30, .inr (.inr (.inr (.inr (fun _ => none)))))), (q_1, .inr (6, [.int p_0, .int p_1, .int 0]))] H := hP
  have hD : va_D A [((a 12), .inr (5, [.int 0, .int 0, .int 0, .int 0, .ref (a 13), .ref (a 14), .int 0])), ((a 14), .inl ((k 14), 30, .inr (.inr (.inr (.inr (fun _ => none)))))), (q_1, .inr (6, [.int p_0, .int p_1, .int 0]))] := hD
  have hK : va_K (dC, dI) vwCl [((k 14), .object R_Pn)] s := hK
  refine va_astq hx hb hK hP hD hS 1 0 2 6 rfl rfl rfl rfl (by unfold vp_in; decide +kernel) d_Bx_take_17 (fun H locs hP hD hS => ?_)
  have hP : va_P (dC, dI) vwCl [((a 12), .inr (5, [.int 0, .int 0, .int 0, .int 0, .ref (a 13), .ref (a 14), .int 0])), ((a 14), .inl ((k 14), 30, .inr (.inr (.inr (.inr (va_up (fun _ => none) (0 : Int32).toNatClampNeg (some q_1))))))), (q_1, .inr (6, [.int p_0, .int p_1, .int 0]))] H := hP
  have hD : va_D A [((a 12), .inr (5, [.int 0, .int 0, .int 0, .int 0, .ref (a 13), .ref (a 14), .int 0])), ((a 14), .inl ((k 14), 30, .inr (.inr (.inr (.inr (va_up (fun _ => none) (0 : Int32).toNatClampNeg (some q_1))))))), (q_1, .inr (6, [.int p_0, .int p_1, .int 0]))] := hD
  refine lv_aload_n hx hb d_Bx_take_18 rfl (lv_at hl 0 rfl) ?_
  refine lv_dup hx hb d_Bx_take_19 rfl ?_
  refine va_get (D := (dC, dI)) (ci := 5) (v := .int 0) (C := R_Bx) (T := F_Bx) (N := 7) hx hb htb i_Bx hown hK hP 0 rfl rfl 6 (by decide) (htb (.fieldLink R_Bx 29 "WaterMen$Box" "pensionerCount" "I") tw_253) (fun _ h9 => h9) rfl d_Bx_take_20 ?_
  refine lv_iconst (v := 1) hx hb d_Bx_take_23 (by decide +kernel) ?_
  refine lv_iadd hx hb d_Bx_take_24 ?_
  refine hb_ti 1 (by decide +kernel) ?_
  refine va_put (D := (dC, dI)) (ci := 5) (v := .int 1) (ty := .int) (C := R_Bx) (T := F_Bx) (N := 7) hx hb htb i_Bx t_Bx t_Bx_ok n_Bx hown hK hP hD hS 0 rfl rfl 6 (by decide) (htb (.fieldLink R_Bx 29 "WaterMen$Box" "pensionerCount" "I") tw_253) (fun _ h9 => h9) rfl (by decide +kernel) rfl rfl (Nat.le_of_ble_eq_true rfl) d_Bx_take_25 (fun H locs hP hD hS => ?_)
  have hP : va_P (dC, dI) vwCl [((a 12), .inr (5, [.int 0, .int 0, .int 0, .int 0, .ref (a 13), .ref (a 14), .int 1])), ((a 14), .inl ((k 14), 30, .inr (.inr (.inr (.inr (va_up (fun _ => none) (0 : Int32).toNatClampNeg (some q_1))))))), (q_1, .inr (6, [.int p_0, .int p_1, .int 0]))] H := hP
  have hD : va_D A [((a 12), .inr (5, [.int 0, .int 0, .int 0, .int 0, .ref (a 13), .ref (a 14), .int 1])), ((a 14), .inl ((k 14), 30, .inr (.inr (.inr (.inr (va_up (fun _ => none) (0 : Int32).toNatClampNeg (some q_1))))))), (q_1, .inr (6, [.int p_0, .int p_1, .int 0]))] := hD
  refine lv_aload_n hx hb d_Bx_take_28 rfl (lv_at hl 0 rfl) ?_
  refine va_get (D := (dC, dI)) (ci := 5) (v := .int 1) (C := R_Bx) (T := F_Bx) (N := 7) hx hb htb i_Bx hown hK hP 0 rfl rfl 6 (by decide) (htb (.fieldLink R_Bx 29 "WaterMen$Box" "pensionerCount" "I") tw_253) (fun _ h9 => h9) rfl d_Bx_take_29 ?_
  refine lv_iconst (v := 1) hx hb d_Bx_take_32 (by decide +kernel) ?_
  refine lv_isub hx hb d_Bx_take_33 ?_
  refine hb_ti 0 (by decide +kernel) ?_
  refine W.widen (k := 1) (n := 3) (Nat.le_of_ble_eq_true rfl) (Nat.le_of_ble_eq_true rfl) ?_
  exact W.iret (v := 0) hx hb hr (fun t ht hW => ⟨⟨0, (), rfl, rfl, trivial⟩, by rw [hAe]; exact hS.F ht⟩) (by rw [hAe]; exact hS.2.2) d_Bx_take_34
def f_WM_pension (p_0 : Int32) (p_1 : Int32) : Int32 := if p_0 < 1 then ((-1)) else (if 10000 < p_0 then ((-1)) else (if p_1 < 0 then ((-1)) else (if 9999 < p_1 then ((-1)) else (0))))
set_option maxHeartbeats 4000000 in
set_option maxRecDepth 100000 in
theorem c_WM_pension (l : Launch) (dC : Nat → ClassId) (dI : Nat → Nat → Nat) (a : Nat → Nat) (k : Nat → ClassId) (L : List Nat) (hL : L.length = 40) (sz : Nat) (p_0 : Int32) (p_1 : Int32)  : Met l y_WM_pension (.code y_WM_pension b_WM_pension 3 (some .int) :: TB) ({ frames := 3, cells := 1, slots := 3, locals := 56 }) (va_Pc [.ref (a 0), .int p_0, .int p_1] (PC dC dI (XW a k L) (XT k) sz)) (va_Qi (fun r (_ : Unit) => r = f_WM_pension p_0 p_1) (fun (_ : Unit) (_ : State) => True) (va_A (XW a k L) sz)) 1 3 (va_A (XW a k L) sz) := by
  refine Met.ofW (cc := b_WM_pension) (maxL := 3) (ret := (some .int)) (by decide) rfl ?_
  intro p e s m args below meth c s₁ B hml hv
  obtain ⟨rfl, hsz, hP, hK, hD0, hN⟩ := hv
  have hx := B.exec
  have hb := B.bytes
  have hr := B.returns
  have hts := atoms_spec (ws := (.code y_WM_pension b_WM_pension 3 (some .int) :: TB)) B.pre
  have htb := fun w (h : w ∈ TB) => hts w (List.mem_cons_of_mem _ h)
  have hown : s.vm.findClass R_WM = some m.cls := findClass_of_methodNamed B.named
  have hlocks := B.notSynchronized
  have hl := lv_entry ([.ref (a 0), .int p_0, .int p_1]) (n := 3) (Nat.le_of_ble_eq_true rfl)
  rw [lg_entry_eq]
  generalize (lg_sl ([.ref (a 0), .int p_0, .int p_1]) ++ List.replicate (3 - (lg_sl ([.ref (a 0), .int p_0, .int p_1])).length) Slot.unset).toArray = ls at hl ⊢
  have hl : lv_has ls 3 [(0, .ref (a 0)), (1, .int p_0), (2, .int p_1)] := hl
  subst hsz
  have hD := hD0.self (sz := s.heap.size)
  obtain ⟨A, hAe⟩ : ∃ A, va_A (XW a k L) s.heap.size = A := ⟨_, rfl⟩
  rw [hAe] at hD
  have hA : ∀ q : Nat, s.heap.size ≤ q → A q := fun q h => by rw [← hAe]; exact Or.inr h
  have hS : va_S A s.heap s.heap [] := va_S.rf
  have hP := hP
  refine lv_iload_n hx hb d_WM_pension_0 rfl (lv_at hl 1 rfl) ?_
  refine lv_iload_n hx hb d_WM_pension_1 rfl (lv_at hl 2 rfl) ?_
  refine vp_callSi (va_Run.run (va_runS (As := [.int p_0, .int p_1]) (rest := []) ⟨hx, hb, hml, hown, htb⟩ (c_WM_isPension l p_0 p_1) (cwS 2 htb (gd_S tw_250 tw_251 tw_124 tw_249) rfl rfl rfl (by decide +kernel) ⟨Nat.le_of_ble_eq_true rfl, Nat.le_of_ble_eq_true rfl⟩) ⟨fun _ _ _ _ h => h, fun U _ _ => ⟨rfl, trivial⟩⟩ rfl rfl hl.1 rfl (lv_room (Nat.le_of_ble_eq_true rfl)) d_WM_pension_2 ⟨Nat.le_of_ble_eq_true rfl, Nat.le_of_ble_eq_true rfl⟩)) (fun r er => ?_)
  subst er
  by_cases c_1 : p_0 < 1
  · refine hb_ti 0 (by unfold f_WM_isPension; rw [if_pos c_1]) ?_
    refine lv_if_ne (tgt := 10) hx hb d_WM_pension_5 (by decide) (fun h => absurd (by decide +kernel) h) (fun _ => ?_)
    refine lv_iconst (v := (-1)) hx hb d_WM_pension_8 (by decide +kernel) ?_
    refine W.widen (k := 1) (n := 3) (Nat.le_of_ble_eq_true rfl) (Nat.le_of_ble_eq_true rfl) ?_
    exact W.iret (v := (-1)) hx hb hr (fun t ht hW => ⟨⟨(-1), (), rfl, (by unfold f_WM_pension; rw [if_pos c_1]), trivial⟩, by rw [hAe]; exact hS.F ht⟩) (by rw [hAe]; exact hS.2.2) d_WM_pension_9
  · by_cases c_2 : 10000 < p_0
    · refine hb_ti 0 (by unfold f_WM_isPension; rw [if_neg c_1, if_pos c_2]) ?_
      refine lv_if_ne (tgt := 10) hx hb d_WM_pension_5 (by decide) (fun h => absurd (by decide +kernel) h) (fun _ => ?_)
      refine lv_iconst (v := (-1)) hx hb d_WM_pension_8 (by decide +kernel) ?_
      refine W.widen (k := 1) (n := 3) (Nat.le_of_ble_eq_true rfl) (Nat.le_of_ble_eq_true rfl) ?_
      exact W.iret (v := (-1)) hx hb hr (fun t ht hW => ⟨⟨(-1), (), rfl, (by unfold f_WM_pension; rw [if_neg c_1, if_pos c_2]), trivial⟩, by rw [hAe]; exact hS.F ht⟩) (by rw [hAe]; exact hS.2.2) d_WM_pension_9
    · by_cases c_3 : p_1 < 0
      · refine hb_ti 0 (by unfold f_WM_isPension; rw [if_neg c_1, if_neg c_2, if_pos c_3]) ?_
        refine lv_if_ne (tgt := 10) hx hb d_WM_pension_5 (by decide) (fun h => absurd (by decide +kernel) h) (fun _ => ?_)
        refine lv_iconst (v := (-1)) hx hb d_WM_pension_8 (by decide +kernel) ?_
        refine W.widen (k := 1) (n := 3) (Nat.le_of_ble_eq_true rfl) (Nat.le_of_ble_eq_true rfl) ?_
        exact W.iret (v := (-1)) hx hb hr (fun t ht hW => ⟨⟨(-1), (), rfl, (by unfold f_WM_pension; rw [if_neg c_1, if_neg c_2, if_pos c_3]), trivial⟩, by rw [hAe]; exact hS.F ht⟩) (by rw [hAe]; exact hS.2.2) d_WM_pension_9
      · by_cases c_4 : 9999 < p_1
        · refine hb_ti 0 (by unfold f_WM_isPension; rw [if_neg c_1, if_neg c_2, if_neg c_3, if_pos c_4]) ?_
          refine lv_if_ne (tgt := 10) hx hb d_WM_pension_5 (by decide) (fun h => absurd (by decide +kernel) h) (fun _ => ?_)
          refine lv_iconst (v := (-1)) hx hb d_WM_pension_8 (by decide +kernel) ?_
          refine W.widen (k := 1) (n := 3) (Nat.le_of_ble_eq_true rfl) (Nat.le_of_ble_eq_true rfl) ?_
          exact W.iret (v := (-1)) hx hb hr (fun t ht hW => ⟨⟨(-1), (), rfl, (by unfold f_WM_pension; rw [if_neg c_1, if_neg c_2, if_neg c_3, if_pos c_4]), trivial⟩, by rw [hAe]; exact hS.F ht⟩) (by rw [hAe]; exact hS.2.2) d_WM_pension_9
        · refine hb_ti 1 (by unfold f_WM_isPension; rw [if_neg c_1, if_neg c_2, if_neg c_3, if_neg c_4]) ?_
          refine lv_if_ne (tgt := 10) hx hb d_WM_pension_5 (by decide) (fun _ => ?_) (fun h => absurd h (by decide +kernel))
          refine lv_aload_n hx hb d_WM_pension_10 rfl (lv_at hl 0 rfl) ?_
          refine va_get (D := (dC, dI)) (ci := 0) (v := .ref (a 12)) (C := R_WM) (T := F_WM) (N := 13) hx hb htb i_WM hown hK hP 0 rfl rfl 6 (by decide) (htb (.fieldLink R_WM 50 "WaterMen" "box" "LWaterMen$Box;") tw_94) (fun _ h9 => h9) rfl d_WM_pension_11 ?_
          refine va_get (D := (dC, dI)) (ci := 5) (v := .int 0) (C := R_Bx) (T := F_Bx) (N := 7) hx hb htb i_Bx hown hK hP 12 rfl rfl 6 (by decide) (htb (.fieldLink R_WM 280 "WaterMen$Box" "pensionerCount" "I") tw_252) (fun _ h9 => h9) rfl d_WM_pension_14 ?_
          refine lv_bipush (v := 30) hx hb d_WM_pension_17 (by decide +kernel) ?_
          refine lv_icmp_lt (tgt := 27) hx hb d_WM_pension_19 (by decide) (fun _ => ?_) (fun h => absurd (by decide +kernel) h)
          refine lv_aload_n hx hb d_WM_pension_27 rfl (lv_at hl 0 rfl) ?_
          refine va_get (D := (dC, dI)) (ci := 0) (v := .ref (a 12)) (C := R_WM) (T := F_WM) (N := 13) hx hb htb i_WM hown hK hP 0 rfl rfl 6 (by decide) (htb (.fieldLink R_WM 50 "WaterMen" "box" "LWaterMen$Box;") tw_94) (fun _ h9 => h9) rfl d_WM_pension_28 ?_
          refine lv_iload_n hx hb d_WM_pension_31 rfl (lv_at hl 1 rfl) ?_
          refine lv_iload_n hx hb d_WM_pension_32 rfl (lv_at hl 2 rfl) ?_
          have hFc := hb_free hD hS hA
          refine va_calli (va_runV (As := [.int p_0, .int p_1]) (rest := []) ⟨hx, hb, hml, hown, htb⟩ (c_Bx_take l dC dI a k L hL _ p_0 p_1) (cwV 2 htb (gd_V tw_263 tw_264 tw_265 tw_87 tw_262) rfl rfl rfl (by decide +kernel) ⟨Nat.le_of_ble_eq_true rfl, Nat.le_of_ble_eq_true rfl⟩) ⟨pc_blind, va_recv hK hP (ci := 5) (q0 := 12) rfl rfl, pc_pre hP hK hD hN⟩ rfl rfl hl.1 rfl (lv_room (Nat.le_of_ble_eq_true rfl)) d_WM_pension_33 ⟨Nat.le_of_ble_eq_true rfl, Nat.le_of_ble_eq_true rfl⟩) hS (fun q _ h => hFc q h) hFc (fun r u t H1 locs ht hvm er hB hz1 hk1 hS => ?_)
          subst er
          refine hb_ti 0 rfl ?_
          refine W.widen (k := 1) (n := 3) (Nat.le_of_ble_eq_true rfl) (Nat.le_of_ble_eq_true rfl) ?_
          exact W.iret (v := 0) hx hb hr (fun t ht hW => ⟨⟨0, (), rfl, (by unfold f_WM_pension; rw [if_neg c_1, if_neg c_2, if_neg c_3, if_neg c_4]), trivial⟩, by rw [hAe]; exact hS.F ht⟩) (by rw [hAe]; exact hS.2.2) d_WM_pension_36
def f_Bx_owedOn (p_0 : Int32) : Int32 := 0
set_option maxHeartbeats 4000000 in
set_option maxRecDepth 100000 in
theorem c_Bx_owedOn (l : Launch) (dC : Nat → ClassId) (dI : Nat → Nat → Nat) (a : Nat → Nat) (k : Nat → ClassId) (L : List Nat) (hL : L.length = 40)  (p_0 : Int32)  : Met l y_Bx_owedOn (.code y_Bx_owedOn b_Bx_owedOn 5 (some .int) :: TB) ({ frames := 0, cells := 0, slots := 0, locals := 0 }) (va_Pc [.ref (a 12), .int p_0] (PR dC dI (XW a k L) (XT k))) (vp_Si (fun r => r = f_Bx_owedOn p_0)) 0 0 (fun _ => False) := by
  refine Met.ofW (cc := b_Bx_owedOn) (maxL := 5) (ret := (some .int)) (by decide) rfl ?_
  intro p e s m args below meth c s₁ B hml hv
  obtain ⟨rfl, hP, hK, hN⟩ := hv
  have hx := B.exec
  have hb := B.bytes
  have hr := B.returns
  have hts := atoms_spec (ws := (.code y_Bx_owedOn b_Bx_owedOn 5 (some .int) :: TB)) B.pre
  have htb := fun w (h : w ∈ TB) => hts w (List.mem_cons_of_mem _ h)
  have hown : s.vm.findClass R_Bx = some m.cls := findClass_of_methodNamed B.named
  have hlocks := B.notSynchronized
  have hl := lv_entry ([.ref (a 12), .int p_0]) (n := 5) (Nat.le_of_ble_eq_true rfl)
  rw [lg_entry_eq]
  generalize (lg_sl ([.ref (a 12), .int p_0]) ++ List.replicate (5 - (lg_sl ([.ref (a 12), .int p_0])).length) Slot.unset).toArray = ls at hl ⊢
  have hl : lv_has ls 5 [(0, .ref (a 12)), (1, .int p_0)] := hl
  refine lv_iconst (v := 0) hx hb d_Bx_owedOn_0 (by decide +kernel) ?_
  refine lv_istore_n (lv' := [(2, .int 0), (0, .ref (a 12)), (1, .int p_0)]) hx hb d_Bx_owedOn_1 rfl hl (by decide) rfl (fun ls hl => ?_)
  refine lv_iconst (v := 0) hx hb d_Bx_owedOn_2 (by decide +kernel) ?_
  refine lv_istore_n (lv' := [(3, .int 0), (2, .int 0), (0, .ref (a 12)), (1, .int p_0)]) hx hb d_Bx_owedOn_3 rfl hl (by decide) rfl (fun ls hl => ?_)
  refine lv_iload_n hx hb d_Bx_owedOn_4 rfl (lv_at hl 0 rfl) ?_
  refine lv_aload_n hx hb d_Bx_owedOn_5 rfl (lv_at hl 2 rfl) ?_
  refine va_get (D := (dC, dI)) (ci := 5) (v := .int 0) (C := R_Bx) (T := F_Bx) (N := 7) hx hb htb i_Bx hown hK hP 12 rfl rfl 6 (by decide) (htb (.fieldLink R_Bx 29 "WaterMen$Box" "pensionerCount" "I") tw_253) (fun _ h9 => h9) rfl d_Bx_owedOn_6 ?_
  refine lv_icmp_ge (tgt := 47) hx hb d_Bx_owedOn_9 (by decide) (fun _ => ?_) (fun h => absurd (by decide +kernel) h)
  refine lv_iload_n hx hb d_Bx_owedOn_47 rfl (lv_at hl 1 rfl) ?_
  exact W.iret (v := 0) hx hb hr (fun t ht hW => ⟨0, rfl, rfl, ht⟩) t_nil d_Bx_owedOn_48
def f_Bx_firstShortDay_0  : Int32 := (-1)
set_option maxHeartbeats 4000000 in
set_option maxRecDepth 100000 in
theorem c_Bx_firstShortDay_0 (l : Launch) (dC : Nat → ClassId) (dI : Nat → Nat → Nat) (a : Nat → Nat) (k : Nat → ClassId) (L : List Nat) (hL : L.length = 40)    : Met l y_Bx_firstShortDay (.code y_Bx_firstShortDay b_Bx_firstShortDay 8 (some .int) :: TB) ({ frames := 1, cells := 0, slots := 0, locals := 24 }) (va_Pc [.ref (a 12), .int 0] (PR dC dI (XW a k L) (XT k))) (vp_Si (fun r => r = f_Bx_firstShortDay_0)) 0 0 (fun _ => False) := by
  refine Met.ofW (cc := b_Bx_firstShortDay) (maxL := 8) (ret := (some .int)) (by decide) rfl ?_
  intro p e s m args below meth c s₁ B hml hv
  obtain ⟨rfl, hP, hK, hN⟩ := hv
  have hx := B.exec
  have hb := B.bytes
  have hr := B.returns
  have hts := atoms_spec (ws := (.code y_Bx_firstShortDay b_Bx_firstShortDay 8 (some .int) :: TB)) B.pre
  have htb := fun w (h : w ∈ TB) => hts w (List.mem_cons_of_mem _ h)
  have hown : s.vm.findClass R_Bx = some m.cls := findClass_of_methodNamed B.named
  have hlocks := B.notSynchronized
  have hl := lv_entry ([.ref (a 12), .int 0]) (n := 8) (Nat.le_of_ble_eq_true rfl)
  rw [lg_entry_eq]
  generalize (lg_sl ([.ref (a 12), .int 0]) ++ List.replicate (8 - (lg_sl ([.ref (a 12), .int 0])).length) Slot.unset).toArray = ls at hl ⊢
  have hl : lv_has ls 8 [(0, .ref (a 12)), (1, .int 0)] := hl
  refine lv_lconst (v := 0) hx hb d_Bx_firstShortDay_0 (by decide +kernel) ?_
  refine lv_lstore_n (lv' := [(2, .long 0), (0, .ref (a 12)), (1, .int 0)]) hx hb d_Bx_firstShortDay_1 rfl hl (by decide) rfl (fun ls hl => ?_)
  refine lv_iconst (v := 0) hx hb d_Bx_firstShortDay_2 (by decide +kernel) ?_
  refine lv_iload_n hx hb d_Bx_firstShortDay_3 rfl (lv_at hl 2 rfl) ?_
  refine lv_bipush (v := 100) hx hb d_Bx_firstShortDay_4 (by decide +kernel) ?_
  refine lv_isub hx hb d_Bx_firstShortDay_6 ?_
  refine hb_ti (-100) (by decide +kernel) ?_
  refine va_mmax hx hb (hml.trans hl.1.symm) hown (htb (.methodLink R_Bx 51 Lib.Math.max.name) tw_266) (htb (.static Lib.Math.max.name) tw_267) (htb (.initialized "java/lang/Math") tw_268) (htb (.code Lib.Math.max.name Lib.Math.max.code 2 (some .int)) tw_269) (Nat.le_of_ble_eq_true rfl) (Nat.le_of_ble_eq_true rfl) (Nat.le_of_ble_eq_true rfl) (Nat.le_of_ble_eq_true rfl) d_Bx_firstShortDay_7 ?_
  refine hb_ti 0 (by decide +kernel) ?_
  refine lv_istore (lv' := [(4, .int 0), (2, .long 0), (0, .ref (a 12)), (1, .int 0)]) hx hb d_Bx_firstShortDay_10 hl (by decide) rfl (fun ls hl => ?_)
  refine lv_iload hx hb d_Bx_firstShortDay_12 (lv_at hl 0 rfl) ?_
  refine lv_iload_n hx hb d_Bx_firstShortDay_14 rfl (lv_at hl 3 rfl) ?_
  refine lv_icmp_gt (tgt := 35) hx hb d_Bx_firstShortDay_15 (by decide) (fun h => absurd h (by decide +kernel)) (fun _ => ?_)
  refine lv_lload_n hx hb d_Bx_firstShortDay_18 rfl (lv_at hl 1 rfl) ?_
  refine lv_aload_n hx hb d_Bx_firstShortDay_19 rfl (lv_at hl 2 rfl) ?_
  refine va_get (D := (dC, dI)) (ci := 5) (v := .ref (a 13)) (C := R_Bx) (T := F_Bx) (N := 7) hx hb htb i_Bx hown hK hP 12 rfl rfl 4 (by decide) (htb (.fieldLink R_Bx 9 "WaterMen$Box" "income" "[I") tw_89) (fun _ h9 => h9) rfl d_Bx_firstShortDay_20 ?_
  refine lv_iload hx hb d_Bx_firstShortDay_23 (lv_at hl 0 rfl) ?_
  refine va_iald hx hb hK hP 13 9 rfl rfl (by unfold vp_in; decide +kernel) d_Bx_firstShortDay_25 ?_
  refine hb_ti 0 rfl ?_
  refine lv_i2l hx hb d_Bx_firstShortDay_26 rfl ?_
  refine hb_tl 0 (by decide +kernel) ?_
  refine lv_ladd hx hb d_Bx_firstShortDay_27 ?_
  refine hb_tl 0 (by decide +kernel) ?_
  refine lv_lstore_n (lv' := [(2, .long 0), (4, .int 0), (0, .ref (a 12)), (1, .int 0)]) hx hb d_Bx_firstShortDay_28 rfl hl (by decide) rfl (fun ls hl => ?_)
  refine lv_iinc (v := 1) (lv' := [(4, .int 1), (2, .long 0), (0, .ref (a 12)), (1, .int 0)]) hx hb d_Bx_firstShortDay_29 hl (k := 1) rfl (by decide +kernel) (by decide) rfl (fun ls hl => ?_)
  refine lv_goto (tgt := 12) hx hb d_Bx_firstShortDay_32 (by decide) ?_
  refine lv_iload hx hb d_Bx_firstShortDay_12 (lv_at hl 0 rfl) ?_
  refine lv_iload_n hx hb d_Bx_firstShortDay_14 rfl (lv_at hl 3 rfl) ?_
  refine lv_icmp_gt (tgt := 35) hx hb d_Bx_firstShortDay_15 (by decide) (fun _ => ?_) (fun h => absurd (by decide +kernel) h)
  refine lv_aload_n hx hb d_Bx_firstShortDay_35 rfl (lv_at hl 2 rfl) ?_
  refine va_get (D := (dC, dI)) (ci := 5) (v := .int 0) (C := R_Bx) (T := F_Bx) (N := 7) hx hb htb i_Bx hown hK hP 12 rfl rfl 0 (by decide) (htb (.fieldLink R_Bx 21 "WaterMen$Box" "coins" "I") tw_270) (fun _ h9 => h9) rfl d_Bx_firstShortDay_36 ?_
  refine lv_i2l hx hb d_Bx_firstShortDay_39 rfl ?_
  refine hb_tl 0 (by decide +kernel) ?_
  refine lv_lstore (lv' := [(4, .long 0), (2, .long 0), (0, .ref (a 12)), (1, .int 0)]) hx hb d_Bx_firstShortDay_40 hl (by decide) rfl (fun ls hl => ?_)
  refine lv_iload_n hx hb d_Bx_firstShortDay_42 rfl (lv_at hl 3 rfl) ?_
  refine lv_iload_n hx hb d_Bx_firstShortDay_43 rfl (lv_at hl 3 rfl) ?_
  refine lv_bipush (v := 100) hx hb d_Bx_firstShortDay_44 (by decide +kernel) ?_
  refine lv_irem hx hb d_Bx_firstShortDay_46 (by decide) ?_
  refine hb_ti 0 (by decide +kernel) ?_
  refine lv_isub hx hb d_Bx_firstShortDay_47 ?_
  refine hb_ti 0 (by decide +kernel) ?_
  refine lv_istore (lv' := [(6, .int 0), (4, .long 0), (2, .long 0), (0, .ref (a 12)), (1, .int 0)]) hx hb d_Bx_firstShortDay_48 hl (by decide) rfl (fun ls hl => ?_)
  refine lv_iconst (v := 0) hx hb d_Bx_firstShortDay_50 (by decide +kernel) ?_
  refine lv_istore (lv' := [(7, .int 0), (6, .int 0), (4, .long 0), (2, .long 0), (0, .ref (a 12)), (1, .int 0)]) hx hb d_Bx_firstShortDay_51 hl (by decide) rfl (fun ls hl => ?_)
  refine lv_iload hx hb d_Bx_firstShortDay_53 (lv_at hl 0 rfl) ?_
  refine lv_bipush (v := 40) hx hb d_Bx_firstShortDay_55 (by decide +kernel) ?_
  refine lv_icmp_ge (tgt := 93) hx hb d_Bx_firstShortDay_57 (by decide) (fun h => absurd h (by decide +kernel)) (fun _ => ?_)
  refine lv_iinc (v := 100) (lv' := [(6, .int 100), (7, .int 0), (4, .long 0), (2, .long 0), (0, .ref (a 12)), (1, .int 0)]) hx hb d_Bx_firstShortDay_60 hl (k := 1) rfl (by decide +kernel) (by decide) rfl (fun ls hl => ?_)
  refine lv_lload hx hb d_Bx_firstShortDay_63 (lv_at hl 2 rfl) ?_
  refine lv_lload_n hx hb d_Bx_firstShortDay_65 rfl (lv_at hl 3 rfl) ?_
  refine lv_aload_n hx hb d_Bx_firstShortDay_66 rfl (lv_at hl 4 rfl) ?_
  refine lv_iload hx hb d_Bx_firstShortDay_67 (lv_at hl 0 rfl) ?_
  refine vp_callSi (va_Run.run (va_runV (As := [.int 100]) (rest := [.long 0, .long 0]) ⟨hx, hb, hml, hown, htb⟩ (c_Bx_owedOn l dC dI a k L hL 100) (cwV 1 htb (gd_V tw_272 tw_273 tw_274 tw_87 tw_271) rfl rfl rfl (by decide +kernel) ⟨Nat.le_of_ble_eq_true rfl, Nat.le_of_ble_eq_true rfl⟩) ⟨pr_blind, va_recv hK hP (ci := 5) (q0 := 12) rfl rfl, pr_pre hP hK hN⟩ rfl rfl hl.1 rfl (lv_room (Nat.le_of_ble_eq_true rfl)) d_Bx_firstShortDay_69 ⟨Nat.le_of_ble_eq_true rfl, Nat.le_of_ble_eq_true rfl⟩)) (fun r er => ?_)
  subst er
  refine hb_ti 0 rfl ?_
  refine lv_i2l hx hb d_Bx_firstShortDay_72 rfl ?_
  refine hb_tl 0 (by decide +kernel) ?_
  refine lv_lsub hx hb d_Bx_firstShortDay_73 ?_
  refine hb_tl 0 (by decide +kernel) ?_
  refine lv_ladd hx hb d_Bx_firstShortDay_74 ?_
  refine hb_tl 0 (by decide +kernel) ?_
  refine lv_lstore (lv' := [(4, .long 0), (6, .int 100), (7, .int 0), (2, .long 0), (0, .ref (a 12)), (1, .int 0)]) hx hb d_Bx_firstShortDay_75 hl (by decide) rfl (fun ls hl => ?_)
  refine lv_lload hx hb d_Bx_firstShortDay_77 (lv_at hl 0 rfl) ?_
  refine lv_lconst (v := 0) hx hb d_Bx_firstShortDay_79 (by decide +kernel) ?_
  refine W.lcmp hx hb d_Bx_firstShortDay_80 ?_
  refine hb_ti 0 (by decide +kernel) ?_
  refine lv_if_ge (tgt := 87) hx hb d_Bx_firstShortDay_81 (by decide) (fun _ => ?_) (fun h => absurd (by decide +kernel) h)
  refine lv_iinc (v := 1) (lv' := [(7, .int 1), (4, .long 0), (6, .int 100), (2, .long 0), (0, .ref (a 12)), (1, .int 0)]) hx hb d_Bx_firstShortDay_87 hl (k := 2) rfl (by decide +kernel) (by decide) rfl (fun ls hl => ?_)
  refine lv_goto (tgt := 53) hx hb d_Bx_firstShortDay_90 (by decide) ?_
  refine lv_iload hx hb d_Bx_firstShortDay_53 (lv_at hl 0 rfl) ?_
  refine lv_bipush (v := 40) hx hb d_Bx_firstShortDay_55 (by decide +kernel) ?_
  refine lv_icmp_ge (tgt := 93) hx hb d_Bx_firstShortDay_57 (by decide) (fun h => absurd h (by decide +kernel)) (fun _ => ?_)
  refine lv_iinc (v := 200) (lv' := [(6, .int 200), (7, .int 1), (4, .long 0), (2, .long 0), (0, .ref (a 12)), (1, .int 0)]) hx hb d_Bx_firstShortDay_60 hl (k := 2) rfl (by decide +kernel) (by decide) rfl (fun ls hl => ?_)
  refine lv_lload hx hb d_Bx_firstShortDay_63 (lv_at hl 2 rfl) ?_
  refine lv_lload_n hx hb d_Bx_firstShortDay_65 rfl (lv_at hl 3 rfl) ?_
  refine lv_aload_n hx hb d_Bx_firstShortDay_66 rfl (lv_at hl 4 rfl) ?_
  refine lv_iload hx hb d_Bx_firstShortDay_67 (lv_at hl 0 rfl) ?_
  refine vp_callSi (va_Run.run (va_runV (As := [.int 200]) (rest := [.long 0, .long 0]) ⟨hx, hb, hml, hown, htb⟩ (c_Bx_owedOn l dC dI a k L hL 200) (cwV 1 htb (gd_V tw_272 tw_273 tw_274 tw_87 tw_271) rfl rfl rfl (by decide +kernel) ⟨Nat.le_of_ble_eq_true rfl, Nat.le_of_ble_eq_true rfl⟩) ⟨pr_blind, va_recv hK hP (ci := 5) (q0 := 12) rfl rfl, pr_pre hP hK hN⟩ rfl rfl hl.1 rfl (lv_room (Nat.le_of_ble_eq_true rfl)) d_Bx_firstShortDay_69 ⟨Nat.le_of_ble_eq_true rfl, Nat.le_of_ble_eq_true rfl⟩)) (fun r er => ?_)
  subst er
  refine hb_ti 0 rfl ?_
  refine lv_i2l hx hb d_Bx_firstShortDay_72 rfl ?_
  refine hb_tl 0 (by decide +kernel) ?_
  refine lv_lsub hx hb d_Bx_firstShortDay_73 ?_
  refine hb_tl 0 (by decide +kernel) ?_
  refine lv_ladd hx hb d_Bx_firstShortDay_74 ?_
  refine hb_tl 0 (by decide +kernel) ?_
  refine lv_lstore (lv' := [(4, .long 0), (6, .int 200), (7, .int 1), (2, .long 0), (0, .ref (a 12)), (1, .int 0)]) hx hb d_Bx_firstShortDay_75 hl (by decide) rfl (fun ls hl => ?_)
  refine lv_lload hx hb d_Bx_firstShortDay_77 (lv_at hl 0 rfl) ?_
  refine lv_lconst (v := 0) hx hb d_Bx_firstShortDay_79 (by decide +kernel) ?_
  refine W.lcmp hx hb d_Bx_firstShortDay_80 ?_
  refine hb_ti 0 (by decide +kernel) ?_
  refine lv_if_ge (tgt := 87) hx hb d_Bx_firstShortDay_81 (by decide) (fun _ => ?_) (fun h => absurd (by decide +kernel) h)
  refine lv_iinc (v := 2) (lv' := [(7, .int 2), (4, .long 0), (6, .int 200), (2, .long 0), (0, .ref (a 12)), (1, .int 0)]) hx hb d_Bx_firstShortDay_87 hl (k := 2) rfl (by decide +kernel) (by decide) rfl (fun ls hl => ?_)
  refine lv_goto (tgt := 53) hx hb d_Bx_firstShortDay_90 (by decide) ?_
  refine lv_iload hx hb d_Bx_firstShortDay_53 (lv_at hl 0 rfl) ?_
  refine lv_bipush (v := 40) hx hb d_Bx_firstShortDay_55 (by decide +kernel) ?_
  refine lv_icmp_ge (tgt := 93) hx hb d_Bx_firstShortDay_57 (by decide) (fun h => absurd h (by decide +kernel)) (fun _ => ?_)
  refine lv_iinc (v := 300) (lv' := [(6, .int 300), (7, .int 2), (4, .long 0), (2, .long 0), (0, .ref (a 12)), (1, .int 0)]) hx hb d_Bx_firstShortDay_60 hl (k := 2) rfl (by decide +kernel) (by decide) rfl (fun ls hl => ?_)
  refine lv_lload hx hb d_Bx_firstShortDay_63 (lv_at hl 2 rfl) ?_
  refine lv_lload_n hx hb d_Bx_firstShortDay_65 rfl (lv_at hl 3 rfl) ?_
  refine lv_aload_n hx hb d_Bx_firstShortDay_66 rfl (lv_at hl 4 rfl) ?_
  refine lv_iload hx hb d_Bx_firstShortDay_67 (lv_at hl 0 rfl) ?_
  refine vp_callSi (va_Run.run (va_runV (As := [.int 300]) (rest := [.long 0, .long 0]) ⟨hx, hb, hml, hown, htb⟩ (c_Bx_owedOn l dC dI a k L hL 300) (cwV 1 htb (gd_V tw_272 tw_273 tw_274 tw_87 tw_271) rfl rfl rfl (by decide +kernel) ⟨Nat.le_of_ble_eq_true rfl, Nat.le_of_ble_eq_true rfl⟩) ⟨pr_blind, va_recv hK hP (ci := 5) (q0 := 12) rfl rfl, pr_pre hP hK hN⟩ rfl rfl hl.1 rfl (lv_room (Nat.le_of_ble_eq_true rfl)) d_Bx_firstShortDay_69 ⟨Nat.le_of_ble_eq_true rfl, Nat.le_of_ble_eq_true rfl⟩)) (fun r er => ?_)
  subst er
  refine hb_ti 0 rfl ?_
  refine lv_i2l hx hb d_Bx_firstShortDay_72 rfl ?_
  refine hb_tl 0 (by decide +kernel) ?_
  refine lv_lsub hx hb d_Bx_firstShortDay_73 ?_
  refine hb_tl 0 (by decide +kernel) ?_
  refine lv_ladd hx hb d_Bx_firstShortDay_74 ?_
  refine hb_tl 0 (by decide +kernel) ?_
  refine lv_lstore (lv' := [(4, .long 0), (6, .int 300), (7, .int 2), (2, .long 0), (0, .ref (a 12)), (1, .int 0)]) hx hb d_Bx_firstShortDay_75 hl (by decide) rfl (fun ls hl => ?_)
  refine lv_lload hx hb d_Bx_firstShortDay_77 (lv_at hl 0 rfl) ?_
  refine lv_lconst (v := 0) hx hb d_Bx_firstShortDay_79 (by decide +kernel) ?_
  refine W.lcmp hx hb d_Bx_firstShortDay_80 ?_
  refine hb_ti 0 (by decide +kernel) ?_
  refine lv_if_ge (tgt := 87) hx hb d_Bx_firstShortDay_81 (by decide) (fun _ => ?_) (fun h => absurd (by decide +kernel) h)
  refine lv_iinc (v := 3) (lv' := [(7, .int 3), (4, .long 0), (6, .int 300), (2, .long 0), (0, .ref (a 12)), (1, .int 0)]) hx hb d_Bx_firstShortDay_87 hl (k := 2) rfl (by decide +kernel) (by decide) rfl (fun ls hl => ?_)
  refine lv_goto (tgt := 53) hx hb d_Bx_firstShortDay_90 (by decide) ?_
  refine lv_iload hx hb d_Bx_firstShortDay_53 (lv_at hl 0 rfl) ?_
  refine lv_bipush (v := 40) hx hb d_Bx_firstShortDay_55 (by decide +kernel) ?_
  refine lv_icmp_ge (tgt := 93) hx hb d_Bx_firstShortDay_57 (by decide) (fun h => absurd h (by decide +kernel)) (fun _ => ?_)
  refine lv_iinc (v := 400) (lv' := [(6, .int 400), (7, .int 3), (4, .long 0), (2, .long 0), (0, .ref (a 12)), (1, .int 0)]) hx hb d_Bx_firstShortDay_60 hl (k := 2) rfl (by decide +kernel) (by decide) rfl (fun ls hl => ?_)
  refine lv_lload hx hb d_Bx_firstShortDay_63 (lv_at hl 2 rfl) ?_
  refine lv_lload_n hx hb d_Bx_firstShortDay_65 rfl (lv_at hl 3 rfl) ?_
  refine lv_aload_n hx hb d_Bx_firstShortDay_66 rfl (lv_at hl 4 rfl) ?_
  refine lv_iload hx hb d_Bx_firstShortDay_67 (lv_at hl 0 rfl) ?_
  refine vp_callSi (va_Run.run (va_runV (As := [.int 400]) (rest := [.long 0, .long 0]) ⟨hx, hb, hml, hown, htb⟩ (c_Bx_owedOn l dC dI a k L hL 400) (cwV 1 htb (gd_V tw_272 tw_273 tw_274 tw_87 tw_271) rfl rfl rfl (by decide +kernel) ⟨Nat.le_of_ble_eq_true rfl, Nat.le_of_ble_eq_true rfl⟩) ⟨pr_blind, va_recv hK hP (ci := 5) (q0 := 12) rfl rfl, pr_pre hP hK hN⟩ rfl rfl hl.1 rfl (lv_room (Nat.le_of_ble_eq_true rfl)) d_Bx_firstShortDay_69 ⟨Nat.le_of_ble_eq_true rfl, Nat.le_of_ble_eq_true rfl⟩)) (fun r er => ?_)
  subst er
  refine hb_ti 0 rfl ?_
  refine lv_i2l hx hb d_Bx_firstShortDay_72 rfl ?_
  refine hb_tl 0 (by decide +kernel) ?_
  refine lv_lsub hx hb d_Bx_firstShortDay_73 ?_
  refine hb_tl 0 (by decide +kernel) ?_
  refine lv_ladd hx hb d_Bx_firstShortDay_74 ?_
  refine hb_tl 0 (by decide +kernel) ?_
  refine lv_lstore (lv' := [(4, .long 0), (6, .int 400), (7, .int 3), (2, .long 0), (0, .ref (a 12)), (1, .int 0)]) hx hb d_Bx_firstShortDay_75 hl (by decide) rfl (fun ls hl => ?_)
  refine lv_lload hx hb d_Bx_firstShortDay_77 (lv_at hl 0 rfl) ?_
  refine lv_lconst (v := 0) hx hb d_Bx_firstShortDay_79 (by decide +kernel) ?_
  refine W.lcmp hx hb d_Bx_firstShortDay_80 ?_
  refine hb_ti 0 (by decide +kernel) ?_
  refine lv_if_ge (tgt := 87) hx hb d_Bx_firstShortDay_81 (by decide) (fun _ => ?_) (fun h => absurd (by decide +kernel) h)
  refine lv_iinc (v := 4) (lv' := [(7, .int 4), (4, .long 0), (6, .int 400), (2, .long 0), (0, .ref (a 12)), (1, .int 0)]) hx hb d_Bx_firstShortDay_87 hl (k := 2) rfl (by decide +kernel) (by decide) rfl (fun ls hl => ?_)
  refine lv_goto (tgt := 53) hx hb d_Bx_firstShortDay_90 (by decide) ?_
  refine lv_iload hx hb d_Bx_firstShortDay_53 (lv_at hl 0 rfl) ?_
  refine lv_bipush (v := 40) hx hb d_Bx_firstShortDay_55 (by decide +kernel) ?_
  refine lv_icmp_ge (tgt := 93) hx hb d_Bx_firstShortDay_57 (by decide) (fun h => absurd h (by decide +kernel)) (fun _ => ?_)
  refine lv_iinc (v := 500) (lv' := [(6, .int 500), (7, .int 4), (4, .long 0), (2, .long 0), (0, .ref (a 12)), (1, .int 0)]) hx hb d_Bx_firstShortDay_60 hl (k := 2) rfl (by decide +kernel) (by decide) rfl (fun ls hl => ?_)
  refine lv_lload hx hb d_Bx_firstShortDay_63 (lv_at hl 2 rfl) ?_
  refine lv_lload_n hx hb d_Bx_firstShortDay_65 rfl (lv_at hl 3 rfl) ?_
  refine lv_aload_n hx hb d_Bx_firstShortDay_66 rfl (lv_at hl 4 rfl) ?_
  refine lv_iload hx hb d_Bx_firstShortDay_67 (lv_at hl 0 rfl) ?_
  refine vp_callSi (va_Run.run (va_runV (As := [.int 500]) (rest := [.long 0, .long 0]) ⟨hx, hb, hml, hown, htb⟩ (c_Bx_owedOn l dC dI a k L hL 500) (cwV 1 htb (gd_V tw_272 tw_273 tw_274 tw_87 tw_271) rfl rfl rfl (by decide +kernel) ⟨Nat.le_of_ble_eq_true rfl, Nat.le_of_ble_eq_true rfl⟩) ⟨pr_blind, va_recv hK hP (ci := 5) (q0 := 12) rfl rfl, pr_pre hP hK hN⟩ rfl rfl hl.1 rfl (lv_room (Nat.le_of_ble_eq_true rfl)) d_Bx_firstShortDay_69 ⟨Nat.le_of_ble_eq_true rfl, Nat.le_of_ble_eq_true rfl⟩)) (fun r er => ?_)
  subst er
  refine hb_ti 0 rfl ?_
  refine lv_i2l hx hb d_Bx_firstShortDay_72 rfl ?_
  refine hb_tl 0 (by decide +kernel) ?_
  refine lv_lsub hx hb d_Bx_firstShortDay_73 ?_
  refine hb_tl 0 (by decide +kernel) ?_
  refine lv_ladd hx hb d_Bx_firstShortDay_74 ?_
  refine hb_tl 0 (by decide +kernel) ?_
  refine lv_lstore (lv' := [(4, .long 0), (6, .int 500), (7, .int 4), (2, .long 0), (0, .ref (a 12)), (1, .int 0)]) hx hb d_Bx_firstShortDay_75 hl (by decide) rfl (fun ls hl => ?_)
  refine lv_lload hx hb d_Bx_firstShortDay_77 (lv_at hl 0 rfl) ?_
  refine lv_lconst (v := 0) hx hb d_Bx_firstShortDay_79 (by decide +kernel) ?_
  refine W.lcmp hx hb d_Bx_firstShortDay_80 ?_
  refine hb_ti 0 (by decide +kernel) ?_
  refine lv_if_ge (tgt := 87) hx hb d_Bx_firstShortDay_81 (by decide) (fun _ => ?_) (fun h => absurd (by decide +kernel) h)
  refine lv_iinc (v := 5) (lv' := [(7, .int 5), (4, .long 0), (6, .int 500), (2, .long 0), (0, .ref (a 12)), (1, .int 0)]) hx hb d_Bx_firstShortDay_87 hl (k := 2) rfl (by decide +kernel) (by decide) rfl (fun ls hl => ?_)
  refine lv_goto (tgt := 53) hx hb d_Bx_firstShortDay_90 (by decide) ?_
  refine lv_iload hx hb d_Bx_firstShortDay_53 (lv_at hl 0 rfl) ?_
  refine lv_bipush (v := 40) hx hb d_Bx_firstShortDay_55 (by decide +kernel) ?_
  refine lv_icmp_ge (tgt := 93) hx hb d_Bx_firstShortDay_57 (by decide) (fun h => absurd h (by decide +kernel)) (fun _ => ?_)
  refine lv_iinc (v := 600) (lv' := [(6, .int 600), (7, .int 5), (4, .long 0), (2, .long 0), (0, .ref (a 12)), (1, .int 0)]) hx hb d_Bx_firstShortDay_60 hl (k := 2) rfl (by decide +kernel) (by decide) rfl (fun ls hl => ?_)
  refine lv_lload hx hb d_Bx_firstShortDay_63 (lv_at hl 2 rfl) ?_
  refine lv_lload_n hx hb d_Bx_firstShortDay_65 rfl (lv_at hl 3 rfl) ?_
  refine lv_aload_n hx hb d_Bx_firstShortDay_66 rfl (lv_at hl 4 rfl) ?_
  refine lv_iload hx hb d_Bx_firstShortDay_67 (lv_at hl 0 rfl) ?_
  refine vp_callSi (va_Run.run (va_runV (As := [.int 600]) (rest := [.long 0, .long 0]) ⟨hx, hb, hml, hown, htb⟩ (c_Bx_owedOn l dC dI a k L hL 600) (cwV 1 htb (gd_V tw_272 tw_273 tw_274 tw_87 tw_271) rfl rfl rfl (by decide +kernel) ⟨Nat.le_of_ble_eq_true rfl, Nat.le_of_ble_eq_true rfl⟩) ⟨pr_blind, va_recv hK hP (ci := 5) (q0 := 12) rfl rfl, pr_pre hP hK hN⟩ rfl rfl hl.1 rfl (lv_room (Nat.le_of_ble_eq_true rfl)) d_Bx_firstShortDay_69 ⟨Nat.le_of_ble_eq_true rfl, Nat.le_of_ble_eq_true rfl⟩)) (fun r er => ?_)
  subst er
  refine hb_ti 0 rfl ?_
  refine lv_i2l hx hb d_Bx_firstShortDay_72 rfl ?_
  refine hb_tl 0 (by decide +kernel) ?_
  refine lv_lsub hx hb d_Bx_firstShortDay_73 ?_
  refine hb_tl 0 (by decide +kernel) ?_
  refine lv_ladd hx hb d_Bx_firstShortDay_74 ?_
  refine hb_tl 0 (by decide +kernel) ?_
  refine lv_lstore (lv' := [(4, .long 0), (6, .int 600), (7, .int 5), (2, .long 0), (0, .ref (a 12)), (1, .int 0)]) hx hb d_Bx_firstShortDay_75 hl (by decide) rfl (fun ls hl => ?_)
  refine lv_lload hx hb d_Bx_firstShortDay_77 (lv_at hl 0 rfl) ?_
  refine lv_lconst (v := 0) hx hb d_Bx_firstShortDay_79 (by decide +kernel) ?_
  refine W.lcmp hx hb d_Bx_firstShortDay_80 ?_
  refine hb_ti 0 (by decide +kernel) ?_
  refine lv_if_ge (tgt := 87) hx hb d_Bx_firstShortDay_81 (by decide) (fun _ => ?_) (fun h => absurd (by decide +kernel) h)
  refine lv_iinc (v := 6) (lv' := [(7, .int 6), (4, .long 0), (6, .int 600), (2, .long 0), (0, .ref (a 12)), (1, .int 0)]) hx hb d_Bx_firstShortDay_87 hl (k := 2) rfl (by decide +kernel) (by decide) rfl (fun ls hl => ?_)
  refine lv_goto (tgt := 53) hx hb d_Bx_firstShortDay_90 (by decide) ?_
  refine lv_iload hx hb d_Bx_firstShortDay_53 (lv_at hl 0 rfl) ?_
  refine lv_bipush (v := 40) hx hb d_Bx_firstShortDay_55 (by decide +kernel) ?_
  refine lv_icmp_ge (tgt := 93) hx hb d_Bx_firstShortDay_57 (by decide) (fun h => absurd h (by decide +kernel)) (fun _ => ?_)
  refine lv_iinc (v := 700) (lv' := [(6, .int 700), (7, .int 6), (4, .long 0), (2, .long 0), (0, .ref (a 12)), (1, .int 0)]) hx hb d_Bx_firstShortDay_60 hl (k := 2) rfl (by decide +kernel) (by decide) rfl (fun ls hl => ?_)
  refine lv_lload hx hb d_Bx_firstShortDay_63 (lv_at hl 2 rfl) ?_
  refine lv_lload_n hx hb d_Bx_firstShortDay_65 rfl (lv_at hl 3 rfl) ?_
  refine lv_aload_n hx hb d_Bx_firstShortDay_66 rfl (lv_at hl 4 rfl) ?_
  refine lv_iload hx hb d_Bx_firstShortDay_67 (lv_at hl 0 rfl) ?_
  refine vp_callSi (va_Run.run (va_runV (As := [.int 700]) (rest := [.long 0, .long 0]) ⟨hx, hb, hml, hown, htb⟩ (c_Bx_owedOn l dC dI a k L hL 700) (cwV 1 htb (gd_V tw_272 tw_273 tw_274 tw_87 tw_271) rfl rfl rfl (by decide +kernel) ⟨Nat.le_of_ble_eq_true rfl, Nat.le_of_ble_eq_true rfl⟩) ⟨pr_blind, va_recv hK hP (ci := 5) (q0 := 12) rfl rfl, pr_pre hP hK hN⟩ rfl rfl hl.1 rfl (lv_room (Nat.le_of_ble_eq_true rfl)) d_Bx_firstShortDay_69 ⟨Nat.le_of_ble_eq_true rfl, Nat.le_of_ble_eq_true rfl⟩)) (fun r er => ?_)
  subst er
  refine hb_ti 0 rfl ?_
  refine lv_i2l hx hb d_Bx_firstShortDay_72 rfl ?_
  refine hb_tl 0 (by decide +kernel) ?_
  refine lv_lsub hx hb d_Bx_firstShortDay_73 ?_
  refine hb_tl 0 (by decide +kernel) ?_
  refine lv_ladd hx hb d_Bx_firstShortDay_74 ?_
  refine hb_tl 0 (by decide +kernel) ?_
  refine lv_lstore (lv' := [(4, .long 0), (6, .int 700), (7, .int 6), (2, .long 0), (0, .ref (a 12)), (1, .int 0)]) hx hb d_Bx_firstShortDay_75 hl (by decide) rfl (fun ls hl => ?_)
  refine lv_lload hx hb d_Bx_firstShortDay_77 (lv_at hl 0 rfl) ?_
  refine lv_lconst (v := 0) hx hb d_Bx_firstShortDay_79 (by decide +kernel) ?_
  refine W.lcmp hx hb d_Bx_firstShortDay_80 ?_
  refine hb_ti 0 (by decide +kernel) ?_
  refine lv_if_ge (tgt := 87) hx hb d_Bx_firstShortDay_81 (by decide) (fun _ => ?_) (fun h => absurd (by decide +kernel) h)
  refine lv_iinc (v := 7) (lv' := [(7, .int 7), (4, .long 0), (6, .int 700), (2, .long 0), (0, .ref (a 12)), (1, .int 0)]) hx hb d_Bx_firstShortDay_87 hl (k := 2) rfl (by decide +kernel) (by decide) rfl (fun ls hl => ?_)
  refine lv_goto (tgt := 53) hx hb d_Bx_firstShortDay_90 (by decide) ?_
  refine lv_iload hx hb d_Bx_firstShortDay_53 (lv_at hl 0 rfl) ?_
  refine lv_bipush (v := 40) hx hb d_Bx_firstShortDay_55 (by decide +kernel) ?_
  refine lv_icmp_ge (tgt := 93) hx hb d_Bx_firstShortDay_57 (by decide) (fun h => absurd h (by decide +kernel)) (fun _ => ?_)
  refine lv_iinc (v := 800) (lv' := [(6, .int 800), (7, .int 7), (4, .long 0), (2, .long 0), (0, .ref (a 12)), (1, .int 0)]) hx hb d_Bx_firstShortDay_60 hl (k := 2) rfl (by decide +kernel) (by decide) rfl (fun ls hl => ?_)
  refine lv_lload hx hb d_Bx_firstShortDay_63 (lv_at hl 2 rfl) ?_
  refine lv_lload_n hx hb d_Bx_firstShortDay_65 rfl (lv_at hl 3 rfl) ?_
  refine lv_aload_n hx hb d_Bx_firstShortDay_66 rfl (lv_at hl 4 rfl) ?_
  refine lv_iload hx hb d_Bx_firstShortDay_67 (lv_at hl 0 rfl) ?_
  refine vp_callSi (va_Run.run (va_runV (As := [.int 800]) (rest := [.long 0, .long 0]) ⟨hx, hb, hml, hown, htb⟩ (c_Bx_owedOn l dC dI a k L hL 800) (cwV 1 htb (gd_V tw_272 tw_273 tw_274 tw_87 tw_271) rfl rfl rfl (by decide +kernel) ⟨Nat.le_of_ble_eq_true rfl, Nat.le_of_ble_eq_true rfl⟩) ⟨pr_blind, va_recv hK hP (ci := 5) (q0 := 12) rfl rfl, pr_pre hP hK hN⟩ rfl rfl hl.1 rfl (lv_room (Nat.le_of_ble_eq_true rfl)) d_Bx_firstShortDay_69 ⟨Nat.le_of_ble_eq_true rfl, Nat.le_of_ble_eq_true rfl⟩)) (fun r er => ?_)
  subst er
  refine hb_ti 0 rfl ?_
  refine lv_i2l hx hb d_Bx_firstShortDay_72 rfl ?_
  refine hb_tl 0 (by decide +kernel) ?_
  refine lv_lsub hx hb d_Bx_firstShortDay_73 ?_
  refine hb_tl 0 (by decide +kernel) ?_
  refine lv_ladd hx hb d_Bx_firstShortDay_74 ?_
  refine hb_tl 0 (by decide +kernel) ?_
  refine lv_lstore (lv' := [(4, .long 0), (6, .int 800), (7, .int 7), (2, .long 0), (0, .ref (a 12)), (1, .int 0)]) hx hb d_Bx_firstShortDay_75 hl (by decide) rfl (fun ls hl => ?_)
  refine lv_lload hx hb d_Bx_firstShortDay_77 (lv_at hl 0 rfl) ?_
  refine lv_lconst (v := 0) hx hb d_Bx_firstShortDay_79 (by decide +kernel) ?_
  refine W.lcmp hx hb d_Bx_firstShortDay_80 ?_
  refine hb_ti 0 (by decide +kernel) ?_
  refine lv_if_ge (tgt := 87) hx hb d_Bx_firstShortDay_81 (by decide) (fun _ => ?_) (fun h => absurd (by decide +kernel) h)
  refine lv_iinc (v := 8) (lv' := [(7, .int 8), (4, .long 0), (6, .int 800), (2, .long 0), (0, .ref (a 12)), (1, .int 0)]) hx hb d_Bx_firstShortDay_87 hl (k := 2) rfl (by decide +kernel) (by decide) rfl (fun ls hl => ?_)
  refine lv_goto (tgt := 53) hx hb d_Bx_firstShortDay_90 (by decide) ?_
  refine lv_iload hx hb d_Bx_firstShortDay_53 (lv_at hl 0 rfl) ?_
  refine lv_bipush (v := 40) hx hb d_Bx_firstShortDay_55 (by decide +kernel) ?_
  refine lv_icmp_ge (tgt := 93) hx hb d_Bx_firstShortDay_57 (by decide) (fun h => absurd h (by decide +kernel)) (fun _ => ?_)
  refine lv_iinc (v := 900) (lv' := [(6, .int 900), (7, .int 8), (4, .long 0), (2, .long 0), (0, .ref (a 12)), (1, .int 0)]) hx hb d_Bx_firstShortDay_60 hl (k := 2) rfl (by decide +kernel) (by decide) rfl (fun ls hl => ?_)
  refine lv_lload hx hb d_Bx_firstShortDay_63 (lv_at hl 2 rfl) ?_
  refine lv_lload_n hx hb d_Bx_firstShortDay_65 rfl (lv_at hl 3 rfl) ?_
  refine lv_aload_n hx hb d_Bx_firstShortDay_66 rfl (lv_at hl 4 rfl) ?_
  refine lv_iload hx hb d_Bx_firstShortDay_67 (lv_at hl 0 rfl) ?_
  refine vp_callSi (va_Run.run (va_runV (As := [.int 900]) (rest := [.long 0, .long 0]) ⟨hx, hb, hml, hown, htb⟩ (c_Bx_owedOn l dC dI a k L hL 900) (cwV 1 htb (gd_V tw_272 tw_273 tw_274 tw_87 tw_271) rfl rfl rfl (by decide +kernel) ⟨Nat.le_of_ble_eq_true rfl, Nat.le_of_ble_eq_true rfl⟩) ⟨pr_blind, va_recv hK hP (ci := 5) (q0 := 12) rfl rfl, pr_pre hP hK hN⟩ rfl rfl hl.1 rfl (lv_room (Nat.le_of_ble_eq_true rfl)) d_Bx_firstShortDay_69 ⟨Nat.le_of_ble_eq_true rfl, Nat.le_of_ble_eq_true rfl⟩)) (fun r er => ?_)
  subst er
  refine hb_ti 0 rfl ?_
  refine lv_i2l hx hb d_Bx_firstShortDay_72 rfl ?_
  refine hb_tl 0 (by decide +kernel) ?_
  refine lv_lsub hx hb d_Bx_firstShortDay_73 ?_
  refine hb_tl 0 (by decide +kernel) ?_
  refine lv_ladd hx hb d_Bx_firstShortDay_74 ?_
  refine hb_tl 0 (by decide +kernel) ?_
  refine lv_lstore (lv' := [(4, .long 0), (6, .int 900), (7, .int 8), (2, .long 0), (0, .ref (a 12)), (1, .int 0)]) hx hb d_Bx_firstShortDay_75 hl (by decide) rfl (fun ls hl => ?_)
  refine lv_lload hx hb d_Bx_firstShortDay_77 (lv_at hl 0 rfl) ?_
  refine lv_lconst (v := 0) hx hb d_Bx_firstShortDay_79 (by decide +kernel) ?_
  refine W.lcmp hx hb d_Bx_firstShortDay_80 ?_
  refine hb_ti 0 (by decide +kernel) ?_
  refine lv_if_ge (tgt := 87) hx hb d_Bx_firstShortDay_81 (by decide) (fun _ => ?_) (fun h => absurd (by decide +kernel) h)
  refine lv_iinc (v := 9) (lv' := [(7, .int 9), (4, .long 0), (6, .int 900), (2, .long 0), (0, .ref (a 12)), (1, .int 0)]) hx hb d_Bx_firstShortDay_87 hl (k := 2) rfl (by decide +kernel) (by decide) rfl (fun ls hl => ?_)
  refine lv_goto (tgt := 53) hx hb d_Bx_firstShortDay_90 (by decide) ?_
  refine lv_iload hx hb d_Bx_firstShortDay_53 (lv_at hl 0 rfl) ?_
  refine lv_bipush (v := 40) hx hb d_Bx_firstShortDay_55 (by decide +kernel) ?_
  refine lv_icmp_ge (tgt := 93) hx hb d_Bx_firstShortDay_57 (by decide) (fun h => absurd h (by decide +kernel)) (fun _ => ?_)
  refine lv_iinc (v := 1000) (lv' := [(6, .int 1000), (7, .int 9), (4, .long 0), (2, .long 0), (0, .ref (a 12)), (1, .int 0)]) hx hb d_Bx_firstShortDay_60 hl (k := 2) rfl (by decide +kernel) (by decide) rfl (fun ls hl => ?_)
  refine lv_lload hx hb d_Bx_firstShortDay_63 (lv_at hl 2 rfl) ?_
  refine lv_lload_n hx hb d_Bx_firstShortDay_65 rfl (lv_at hl 3 rfl) ?_
  refine lv_aload_n hx hb d_Bx_firstShortDay_66 rfl (lv_at hl 4 rfl) ?_
  refine lv_iload hx hb d_Bx_firstShortDay_67 (lv_at hl 0 rfl) ?_
  refine vp_callSi (va_Run.run (va_runV (As := [.int 1000]) (rest := [.long 0, .long 0]) ⟨hx, hb, hml, hown, htb⟩ (c_Bx_owedOn l dC dI a k L hL 1000) (cwV 1 htb (gd_V tw_272 tw_273 tw_274 tw_87 tw_271) rfl rfl rfl (by decide +kernel) ⟨Nat.le_of_ble_eq_true rfl, Nat.le_of_ble_eq_true rfl⟩) ⟨pr_blind, va_recv hK hP (ci := 5) (q0 := 12) rfl rfl, pr_pre hP hK hN⟩ rfl rfl hl.1 rfl (lv_room (Nat.le_of_ble_eq_true rfl)) d_Bx_firstShortDay_69 ⟨Nat.le_of_ble_eq_true rfl, Nat.le_of_ble_eq_true rfl⟩)) (fun r er => ?_)
  subst er
  refine hb_ti 0 rfl ?_
  refine lv_i2l hx hb d_Bx_firstShortDay_72 rfl ?_
  refine hb_tl 0 (by decide +kernel) ?_
  refine lv_lsub hx hb d_Bx_firstShortDay_73 ?_
  refine hb_tl 0 (by decide +kernel) ?_
  refine lv_ladd hx hb d_Bx_firstShortDay_74 ?_
  refine hb_tl 0 (by decide +kernel) ?_
  refine lv_lstore (lv' := [(4, .long 0), (6, .int 1000), (7, .int 9), (2, .long 0), (0, .ref (a 12)), (1, .int 0)]) hx hb d_Bx_firstShortDay_75 hl (by decide) rfl (fun ls hl => ?_)
  refine lv_lload hx hb d_Bx_firstShortDay_77 (lv_at hl 0 rfl) ?_
  refine lv_lconst (v := 0) hx hb d_Bx_firstShortDay_79 (by decide +kernel) ?_
  refine W.lcmp hx hb d_Bx_firstShortDay_80 ?_
  refine hb_ti 0 (by decide +kernel) ?_
  refine lv_if_ge (tgt := 87) hx hb d_Bx_firstShortDay_81 (by decide) (fun _ => ?_) (fun h => absurd (by decide +kernel) h)
  refine lv_iinc (v := 10) (lv' := [(7, .int 10), (4, .long 0), (6, .int 1000), (2, .long 0), (0, .ref (a 12)), (1, .int 0)]) hx hb d_Bx_firstShortDay_87 hl (k := 2) rfl (by decide +kernel) (by decide) rfl (fun ls hl => ?_)
  refine lv_goto (tgt := 53) hx hb d_Bx_firstShortDay_90 (by decide) ?_
  refine lv_iload hx hb d_Bx_firstShortDay_53 (lv_at hl 0 rfl) ?_
  refine lv_bipush (v := 40) hx hb d_Bx_firstShortDay_55 (by decide +kernel) ?_
  refine lv_icmp_ge (tgt := 93) hx hb d_Bx_firstShortDay_57 (by decide) (fun h => absurd h (by decide +kernel)) (fun _ => ?_)
  refine lv_iinc (v := 1100) (lv' := [(6, .int 1100), (7, .int 10), (4, .long 0), (2, .long 0), (0, .ref (a 12)), (1, .int 0)]) hx hb d_Bx_firstShortDay_60 hl (k := 2) rfl (by decide +kernel) (by decide) rfl (fun ls hl => ?_)
  refine lv_lload hx hb d_Bx_firstShortDay_63 (lv_at hl 2 rfl) ?_
  refine lv_lload_n hx hb d_Bx_firstShortDay_65 rfl (lv_at hl 3 rfl) ?_
  refine lv_aload_n hx hb d_Bx_firstShortDay_66 rfl (lv_at hl 4 rfl) ?_
  refine lv_iload hx hb d_Bx_firstShortDay_67 (lv_at hl 0 rfl) ?_
  refine vp_callSi (va_Run.run (va_runV (As := [.int 1100]) (rest := [.long 0, .long 0]) ⟨hx, hb, hml, hown, htb⟩ (c_Bx_owedOn l dC dI a k L hL 1100) (cwV 1 htb (gd_V tw_272 tw_273 tw_274 tw_87 tw_271) rfl rfl rfl (by decide +kernel) ⟨Nat.le_of_ble_eq_true rfl, Nat.le_of_ble_eq_true rfl⟩) ⟨pr_blind, va_recv hK hP (ci := 5) (q0 := 12) rfl rfl, pr_pre hP hK hN⟩ rfl rfl hl.1 rfl (lv_room (Nat.le_of_ble_eq_true rfl)) d_Bx_firstShortDay_69 ⟨Nat.le_of_ble_eq_true rfl, Nat.le_of_ble_eq_true rfl⟩)) (fun r er => ?_)
  subst er
  refine hb_ti 0 rfl ?_
  refine lv_i2l hx hb d_Bx_firstShortDay_72 rfl ?_
  refine hb_tl 0 (by decide +kernel) ?_
  refine lv_lsub hx hb d_Bx_firstShortDay_73 ?_
  refine hb_tl 0 (by decide +kernel) ?_
  refine lv_ladd hx hb d_Bx_firstShortDay_74 ?_
  refine hb_tl 0 (by decide +kernel) ?_
  refine lv_lstore (lv' := [(4, .long 0), (6, .int 1100), (7, .int 10), (2, .long 0), (0, .ref (a 12)), (1, .int 0)]) hx hb d_Bx_firstShortDay_75 hl (by decide) rfl (fun ls hl => ?_)
  refine lv_lload hx hb d_Bx_firstShortDay_77 (lv_at hl 0 rfl) ?_
  refine lv_lconst (v := 0) hx hb d_Bx_firstShortDay_79 (by decide +kernel) ?_
  refine W.lcmp hx hb d_Bx_firstShortDay_80 ?_
  refine hb_ti 0 (by decide +kernel) ?_
  refine lv_if_ge (tgt := 87) hx hb d_Bx_firstShortDay_81 (by decide) (fun _ => ?_) (fun h => absurd (by decide +kernel) h)
  refine lv_iinc (v := 11) (lv' := [(7, .int 11), (4, .long 0), (6, .int 1100), (2, .long 0), (0, .ref (a 12)), (1, .int 0)]) hx hb d_Bx_firstShortDay_87 hl (k := 2) rfl (by decide +kernel) (by decide) rfl (fun ls hl => ?_)
  refine lv_goto (tgt := 53) hx hb d_Bx_firstShortDay_90 (by decide) ?_
  refine lv_iload hx hb d_Bx_firstShortDay_53 (lv_at hl 0 rfl) ?_
  refine lv_bipush (v := 40) hx hb d_Bx_firstShortDay_55 (by decide +kernel) ?_
  refine lv_icmp_ge (tgt := 93) hx hb d_Bx_firstShortDay_57 (by decide) (fun h => absurd h (by decide +kernel)) (fun _ => ?_)
  refine lv_iinc (v := 1200) (lv' := [(6, .int 1200), (7, .int 11), (4, .long 0), (2, .long 0), (0, .ref (a 12)), (1, .int 0)]) hx hb d_Bx_firstShortDay_60 hl (k := 2) rfl (by decide +kernel) (by decide) rfl (fun ls hl => ?_)
  refine lv_lload hx hb d_Bx_firstShortDay_63 (lv_at hl 2 rfl) ?_
  refine lv_lload_n hx hb d_Bx_firstShortDay_65 rfl (lv_at hl 3 rfl) ?_
  refine lv_aload_n hx hb d_Bx_firstShortDay_66 rfl (lv_at hl 4 rfl) ?_
  refine lv_iload hx hb d_Bx_firstShortDay_67 (lv_at hl 0 rfl) ?_
  refine vp_callSi (va_Run.run (va_runV (As := [.int 1200]) (rest := [.long 0, .long 0]) ⟨hx, hb, hml, hown, htb⟩ (c_Bx_owedOn l dC dI a k L hL 1200) (cwV 1 htb (gd_V tw_272 tw_273 tw_274 tw_87 tw_271) rfl rfl rfl (by decide +kernel) ⟨Nat.le_of_ble_eq_true rfl, Nat.le_of_ble_eq_true rfl⟩) ⟨pr_blind, va_recv hK hP (ci := 5) (q0 := 12) rfl rfl, pr_pre hP hK hN⟩ rfl rfl hl.1 rfl (lv_room (Nat.le_of_ble_eq_true rfl)) d_Bx_firstShortDay_69 ⟨Nat.le_of_ble_eq_true rfl, Nat.le_of_ble_eq_true rfl⟩)) (fun r er => ?_)
  subst er
  refine hb_ti 0 rfl ?_
  refine lv_i2l hx hb d_Bx_firstShortDay_72 rfl ?_
  refine hb_tl 0 (by decide +kernel) ?_
  refine lv_lsub hx hb d_Bx_firstShortDay_73 ?_
  refine hb_tl 0 (by decide +kernel) ?_
  refine lv_ladd hx hb d_Bx_firstShortDay_74 ?_
  refine hb_tl 0 (by decide +kernel) ?_
  refine lv_lstore (lv' := [(4, .long 0), (6, .int 1200), (7, .int 11), (2, .long 0), (0, .ref (a 12)), (1, .int 0)]) hx hb d_Bx_firstShortDay_75 hl (by decide) rfl (fun ls hl => ?_)
  refine lv_lload hx hb d_Bx_firstShortDay_77 (lv_at hl 0 rfl) ?_
  refine lv_lconst (v := 0) hx hb d_Bx_firstShortDay_79 (by decide +kernel) ?_
  refine W.lcmp hx hb d_Bx_firstShortDay_80 ?_
  refine hb_ti 0 (by decide +kernel) ?_
  refine lv_if_ge (tgt := 87) hx hb d_Bx_firstShortDay_81 (by decide) (fun _ => ?_) (fun h => absurd (by decide +kernel) h)
  refine lv_iinc (v := 12) (lv' := [(7, .int 12), (4, .long 0), (6, .int 1200), (2, .long 0), (0, .ref (a 12)), (1, .int 0)]) hx hb d_Bx_firstShortDay_87 hl (k := 2) rfl (by decide +kernel) (by decide) rfl (fun ls hl => ?_)
  refine lv_goto (tgt := 53) hx hb d_Bx_firstShortDay_90 (by decide) ?_
  refine lv_iload hx hb d_Bx_firstShortDay_53 (lv_at hl 0 rfl) ?_
  refine lv_bipush (v := 40) hx hb d_Bx_firstShortDay_55 (by decide +kernel) ?_
  refine lv_icmp_ge (tgt := 93) hx hb d_Bx_firstShortDay_57 (by decide) (fun h => absurd h (by decide +kernel)) (fun _ => ?_)
  refine lv_iinc (v := 1300) (lv' := [(6, .int 1300), (7, .int 12), (4, .long 0), (2, .long 0), (0, .ref (a 12)), (1, .int 0)]) hx hb d_Bx_firstShortDay_60 hl (k := 2) rfl (by decide +kernel) (by decide) rfl (fun ls hl => ?_)
  refine lv_lload hx hb d_Bx_firstShortDay_63 (lv_at hl 2 rfl) ?_
  refine lv_lload_n hx hb d_Bx_firstShortDay_65 rfl (lv_at hl 3 rfl) ?_
  refine lv_aload_n hx hb d_Bx_firstShortDay_66 rfl (lv_at hl 4 rfl) ?_
  refine lv_iload hx hb d_Bx_firstShortDay_67 (lv_at hl 0 rfl) ?_
  refine vp_callSi (va_Run.run (va_runV (As := [.int 1300]) (rest := [.long 0, .long 0]) ⟨hx, hb, hml, hown, htb⟩ (c_Bx_owedOn l dC dI a k L hL 1300) (cwV 1 htb (gd_V tw_272 tw_273 tw_274 tw_87 tw_271) rfl rfl rfl (by decide +kernel) ⟨Nat.le_of_ble_eq_true rfl, Nat.le_of_ble_eq_true rfl⟩) ⟨pr_blind, va_recv hK hP (ci := 5) (q0 := 12) rfl rfl, pr_pre hP hK hN⟩ rfl rfl hl.1 rfl (lv_room (Nat.le_of_ble_eq_true rfl)) d_Bx_firstShortDay_69 ⟨Nat.le_of_ble_eq_true rfl, Nat.le_of_ble_eq_true rfl⟩)) (fun r er => ?_)
  subst er
  refine hb_ti 0 rfl ?_
  refine lv_i2l hx hb d_Bx_firstShortDay_72 rfl ?_
  refine hb_tl 0 (by decide +kernel) ?_
  refine lv_lsub hx hb d_Bx_firstShortDay_73 ?_
  refine hb_tl 0 (by decide +kernel) ?_
  refine lv_ladd hx hb d_Bx_firstShortDay_74 ?_
  refine hb_tl 0 (by decide +kernel) ?_
  refine lv_lstore (lv' := [(4, .long 0), (6, .int 1300), (7, .int 12), (2, .long 0), (0, .ref (a 12)), (1, .int 0)]) hx hb d_Bx_firstShortDay_75 hl (by decide) rfl (fun ls hl => ?_)
  refine lv_lload hx hb d_Bx_firstShortDay_77 (lv_at hl 0 rfl) ?_
  refine lv_lconst (v := 0) hx hb d_Bx_firstShortDay_79 (by decide +kernel) ?_
  refine W.lcmp hx hb d_Bx_firstShortDay_80 ?_
  refine hb_ti 0 (by decide +kernel) ?_
  refine lv_if_ge (tgt := 87) hx hb d_Bx_firstShortDay_81 (by decide) (fun _ => ?_) (fun h => absurd (by decide +kernel) h)
  refine lv_iinc (v := 13) (lv' := [(7, .int 13), (4, .long 0), (6, .int 1300), (2, .long 0), (0, .ref (a 12)), (1, .int 0)]) hx hb d_Bx_firstShortDay_87 hl (k := 2) rfl (by decide +kernel) (by decide) rfl (fun ls hl => ?_)
  refine lv_goto (tgt := 53) hx hb d_Bx_firstShortDay_90 (by decide) ?_
  refine lv_iload hx hb d_Bx_firstShortDay_53 (lv_at hl 0 rfl) ?_
  refine lv_bipush (v := 40) hx hb d_Bx_firstShortDay_55 (by decide +kernel) ?_
  refine lv_icmp_ge (tgt := 93) hx hb d_Bx_firstShortDay_57 (by decide) (fun h => absurd h (by decide +kernel)) (fun _ => ?_)
  refine lv_iinc (v := 1400) (lv' := [(6, .int 1400), (7, .int 13), (4, .long 0), (2, .long 0), (0, .ref (a 12)), (1, .int 0)]) hx hb d_Bx_firstShortDay_60 hl (k := 2) rfl (by decide +kernel) (by decide) rfl (fun ls hl => ?_)
  refine lv_lload hx hb d_Bx_firstShortDay_63 (lv_at hl 2 rfl) ?_
  refine lv_lload_n hx hb d_Bx_firstShortDay_65 rfl (lv_at hl 3 rfl) ?_
  refine lv_aload_n hx hb d_Bx_firstShortDay_66 rfl (lv_at hl 4 rfl) ?_
  refine lv_iload hx hb d_Bx_firstShortDay_67 (lv_at hl 0 rfl) ?_
  refine vp_callSi (va_Run.run (va_runV (As := [.int 1400]) (rest := [.long 0, .long 0]) ⟨hx, hb, hml, hown, htb⟩ (c_Bx_owedOn l dC dI a k L hL 1400) (cwV 1 htb (gd_V tw_272 tw_273 tw_274 tw_87 tw_271) rfl rfl rfl (by decide +kernel) ⟨Nat.le_of_ble_eq_true rfl, Nat.le_of_ble_eq_true rfl⟩) ⟨pr_blind, va_recv hK hP (ci := 5) (q0 := 12) rfl rfl, pr_pre hP hK hN⟩ rfl rfl hl.1 rfl (lv_room (Nat.le_of_ble_eq_true rfl)) d_Bx_firstShortDay_69 ⟨Nat.le_of_ble_eq_true rfl, Nat.le_of_ble_eq_true rfl⟩)) (fun r er => ?_)
  subst er
  refine hb_ti 0 rfl ?_
  refine lv_i2l hx hb d_Bx_firstShortDay_72 rfl ?_
  refine hb_tl 0 (by decide +kernel) ?_
  refine lv_lsub hx hb d_Bx_firstShortDay_73 ?_
  refine hb_tl 0 (by decide +kernel) ?_
  refine lv_ladd hx hb d_Bx_firstShortDay_74 ?_
  refine hb_tl 0 (by decide +kernel) ?_
  refine lv_lstore (lv' := [(4, .long 0), (6, .int 1400), (7, .int 13), (2, .long 0), (0, .ref (a 12)), (1, .int 0)]) hx hb d_Bx_firstShortDay_75 hl (by decide) rfl (fun ls hl => ?_)
  refine lv_lload hx hb d_Bx_firstShortDay_77 (lv_at hl 0 rfl) ?_
  refine lv_lconst (v := 0) hx hb d_Bx_firstShortDay_79 (by decide +kernel) ?_
  refine W.lcmp hx hb d_Bx_firstShortDay_80 ?_
  refine hb_ti 0 (by decide +kernel) ?_
  refine lv_if_ge (tgt := 87) hx hb d_Bx_firstShortDay_81 (by decide) (fun _ => ?_) (fun h => absurd (by decide +kernel) h)
  refine lv_iinc (v := 14) (lv' := [(7, .int 14), (4, .long 0), (6, .int 1400), (2, .long 0), (0, .ref (a 12)), (1, .int 0)]) hx hb d_Bx_firstShortDay_87 hl (k := 2) rfl (by decide +kernel) (by decide) rfl (fun ls hl => ?_)
  refine lv_goto (tgt := 53) hx hb d_Bx_firstShortDay_90 (by decide) ?_
  refine lv_iload hx hb d_Bx_firstShortDay_53 (lv_at hl 0 rfl) ?_
  refine lv_bipush (v := 40) hx hb d_Bx_firstShortDay_55 (by decide +kernel) ?_
  refine lv_icmp_ge (tgt := 93) hx hb d_Bx_firstShortDay_57 (by decide) (fun h => absurd h (by decide +kernel)) (fun _ => ?_)
  refine lv_iinc (v := 1500) (lv' := [(6, .int 1500), (7, .int 14), (4, .long 0), (2, .long 0), (0, .ref (a 12)), (1, .int 0)]) hx hb d_Bx_firstShortDay_60 hl (k := 2) rfl (by decide +kernel) (by decide) rfl (fun ls hl => ?_)
  refine lv_lload hx hb d_Bx_firstShortDay_63 (lv_at hl 2 rfl) ?_
  refine lv_lload_n hx hb d_Bx_firstShortDay_65 rfl (lv_at hl 3 rfl) ?_
  refine lv_aload_n hx hb d_Bx_firstShortDay_66 rfl (lv_at hl 4 rfl) ?_
  refine lv_iload hx hb d_Bx_firstShortDay_67 (lv_at hl 0 rfl) ?_
  refine vp_callSi (va_Run.run (va_runV (As := [.int 1500]) (rest := [.long 0, .long 0]) ⟨hx, hb, hml, hown, htb⟩ (c_Bx_owedOn l dC dI a k L hL 1500) (cwV 1 htb (gd_V tw_272 tw_273 tw_274 tw_87 tw_271) rfl rfl rfl (by decide +kernel) ⟨Nat.le_of_ble_eq_true rfl, Nat.le_of_ble_eq_true rfl⟩) ⟨pr_blind, va_recv hK hP (ci := 5) (q0 := 12) rfl rfl, pr_pre hP hK hN⟩ rfl rfl hl.1 rfl (lv_room (Nat.le_of_ble_eq_true rfl)) d_Bx_firstShortDay_69 ⟨Nat.le_of_ble_eq_true rfl, Nat.le_of_ble_eq_true rfl⟩)) (fun r er => ?_)
  subst er
  refine hb_ti 0 rfl ?_
  refine lv_i2l hx hb d_Bx_firstShortDay_72 rfl ?_
  refine hb_tl 0 (by decide +kernel) ?_
  refine lv_lsub hx hb d_Bx_firstShortDay_73 ?_
  refine hb_tl 0 (by decide +kernel) ?_
  refine lv_ladd hx hb d_Bx_firstShortDay_74 ?_
  refine hb_tl 0 (by decide +kernel) ?_
  refine lv_lstore (lv' := [(4, .long 0), (6, .int 1500), (7, .int 14), (2, .long 0), (0, .ref (a 12)), (1, .int 0)]) hx hb d_Bx_firstShortDay_75 hl (by decide) rfl (fun ls hl => ?_)
  refine lv_lload hx hb d_Bx_firstShortDay_77 (lv_at hl 0 rfl) ?_
  refine lv_lconst (v := 0) hx hb d_Bx_firstShortDay_79 (by decide +kernel) ?_
  refine W.lcmp hx hb d_Bx_firstShortDay_80 ?_
  refine hb_ti 0 (by decide +kernel) ?_
  refine lv_if_ge (tgt := 87) hx hb d_Bx_firstShortDay_81 (by decide) (fun _ => ?_) (fun h => absurd (by decide +kernel) h)
  refine lv_iinc (v := 15) (lv' := [(7, .int 15), (4, .long 0), (6, .int 1500), (2, .long 0), (0, .ref (a 12)), (1, .int 0)]) hx hb d_Bx_firstShortDay_87 hl (k := 2) rfl (by decide +kernel) (by decide) rfl (fun ls hl => ?_)
  refine lv_goto (tgt := 53) hx hb d_Bx_firstShortDay_90 (by decide) ?_
  refine lv_iload hx hb d_Bx_firstShortDay_53 (lv_at hl 0 rfl) ?_
  refine lv_bipush (v := 40) hx hb d_Bx_firstShortDay_55 (by decide +kernel) ?_
  refine lv_icmp_ge (tgt := 93) hx hb d_Bx_firstShortDay_57 (by decide) (fun h => absurd h (by decide +kernel)) (fun _ => ?_)
  refine lv_iinc (v := 1600) (lv' := [(6, .int 1600), (7, .int 15), (4, .long 0), (2, .long 0), (0, .ref (a 12)), (1, .int 0)]) hx hb d_Bx_firstShortDay_60 hl (k := 2) rfl (by decide +kernel) (by decide) rfl (fun ls hl => ?_)
  refine lv_lload hx hb d_Bx_firstShortDay_63 (lv_at hl 2 rfl) ?_
  refine lv_lload_n hx hb d_Bx_firstShortDay_65 rfl (lv_at hl 3 rfl) ?_
  refine lv_aload_n hx hb d_Bx_firstShortDay_66 rfl (lv_at hl 4 rfl) ?_
  refine lv_iload hx hb d_Bx_firstShortDay_67 (lv_at hl 0 rfl) ?_
  refine vp_callSi (va_Run.run (va_runV (As := [.int 1600]) (rest := [.long 0, .long 0]) ⟨hx, hb, hml, hown, htb⟩ (c_Bx_owedOn l dC dI a k L hL 1600) (cwV 1 htb (gd_V tw_272 tw_273 tw_274 tw_87 tw_271) rfl rfl rfl (by decide +kernel) ⟨Nat.le_of_ble_eq_true rfl, Nat.le_of_ble_eq_true rfl⟩) ⟨pr_blind, va_recv hK hP (ci := 5) (q0 := 12) rfl rfl, pr_pre hP hK hN⟩ rfl rfl hl.1 rfl (lv_room (Nat.le_of_ble_eq_true rfl)) d_Bx_firstShortDay_69 ⟨Nat.le_of_ble_eq_true rfl, Nat.le_of_ble_eq_true rfl⟩)) (fun r er => ?_)
  subst er
  refine hb_ti 0 rfl ?_
  refine lv_i2l hx hb d_Bx_firstShortDay_72 rfl ?_
  refine hb_tl 0 (by decide +kernel) ?_
  refine lv_lsub hx hb d_Bx_firstShortDay_73 ?_
  refine hb_tl 0 (by decide +kernel) ?_
  refine lv_ladd hx hb d_Bx_firstShortDay_74 ?_
  refine hb_tl 0 (by decide +kernel) ?_
  refine lv_lstore (lv' := [(4, .long 0), (6, .int 1600), (7, .int 15), (2, .long 0), (0, .ref (a 12)), (1, .int 0)]) hx hb d_Bx_firstShortDay_75 hl (by decide) rfl (fun ls hl => ?_)
  refine lv_lload hx hb d_Bx_firstShortDay_77 (lv_at hl 0 rfl) ?_
  refine lv_lconst (v := 0) hx hb d_Bx_firstShortDay_79 (by decide +kernel) ?_
  refine W.lcmp hx hb d_Bx_firstShortDay_80 ?_
  refine hb_ti 0 (by decide +kernel) ?_
  refine lv_if_ge (tgt := 87) hx hb d_Bx_firstShortDay_81 (by decide) (fun _ => ?_) (fun h => absurd (by decide +kernel) h)
  refine lv_iinc (v := 16) (lv' := [(7, .int 16), (4, .long 0), (6, .int 1600), (2, .long 0), (0, .ref (a 12)), (1, .int 0)]) hx hb d_Bx_firstShortDay_87 hl (k := 2) rfl (by decide +kernel) (by decide) rfl (fun ls hl => ?_)
  refine lv_goto (tgt := 53) hx hb d_Bx_firstShortDay_90 (by decide) ?_
  refine lv_iload hx hb d_Bx_firstShortDay_53 (lv_at hl 0 rfl) ?_
  refine lv_bipush (v := 40) hx hb d_Bx_firstShortDay_55 (by decide +kernel) ?_
  refine lv_icmp_ge (tgt := 93) hx hb d_Bx_firstShortDay_57 (by decide) (fun h => absurd h (by decide +kernel)) (fun _ => ?_)
  refine lv_iinc (v := 1700) (lv' := [(6, .int 1700), (7, .int 16), (4, .long 0), (2, .long 0), (0, .ref (a 12)), (1, .int 0)]) hx hb d_Bx_firstShortDay_60 hl (k := 2) rfl (by decide +kernel) (by decide) rfl (fun ls hl => ?_)
  refine lv_lload hx hb d_Bx_firstShortDay_63 (lv_at hl 2 rfl) ?_
  refine lv_lload_n hx hb d_Bx_firstShortDay_65 rfl (lv_at hl 3 rfl) ?_
  refine lv_aload_n hx hb d_Bx_firstShortDay_66 rfl (lv_at hl 4 rfl) ?_
  refine lv_iload hx hb d_Bx_firstShortDay_67 (lv_at hl 0 rfl) ?_
  refine vp_callSi (va_Run.run (va_runV (As := [.int 1700]) (rest := [.long 0, .long 0]) ⟨hx, hb, hml, hown, htb⟩ (c_Bx_owedOn l dC dI a k L hL 1700) (cwV 1 htb (gd_V tw_272 tw_273 tw_274 tw_87 tw_271) rfl rfl rfl (by decide +kernel) ⟨Nat.le_of_ble_eq_true rfl, Nat.le_of_ble_eq_true rfl⟩) ⟨pr_blind, va_recv hK hP (ci := 5) (q0 := 12) rfl rfl, pr_pre hP hK hN⟩ rfl rfl hl.1 rfl (lv_room (Nat.le_of_ble_eq_true rfl)) d_Bx_firstShortDay_69 ⟨Nat.le_of_ble_eq_true rfl, Nat.le_of_ble_eq_true rfl⟩)) (fun r er => ?_)
  subst er
  refine hb_ti 0 rfl ?_
  refine lv_i2l hx hb d_Bx_firstShortDay_72 rfl ?_
  refine hb_tl 0 (by decide +kernel) ?_
  refine lv_lsub hx hb d_Bx_firstShortDay_73 ?_
  refine hb_tl 0 (by decide +kernel) ?_
  refine lv_ladd hx hb d_Bx_firstShortDay_74 ?_
  refine hb_tl 0 (by decide +kernel) ?_
  refine lv_lstore (lv' := [(4, .long 0), (6, .int 1700), (7, .int 16), (2, .long 0), (0, .ref (a 12)), (1, .int 0)]) hx hb d_Bx_firstShortDay_75 hl (by decide) rfl (fun ls hl => ?_)
  refine lv_lload hx hb d_Bx_firstShortDay_77 (lv_at hl 0 rfl) ?_
  refine lv_lconst (v := 0) hx hb d_Bx_firstShortDay_79 (by decide +kernel) ?_
  refine W.lcmp hx hb d_Bx_firstShortDay_80 ?_
  refine hb_ti 0 (by decide +kernel) ?_
  refine lv_if_ge (tgt := 87) hx hb d_Bx_firstShortDay_81 (by decide) (fun _ => ?_) (fun h => absurd (by decide +kernel) h)
  refine lv_iinc (v := 17) (lv' := [(7, .int 17), (4, .long 0), (6, .int 1700), (2, .long 0), (0, .ref (a 12)), (1, .int 0)]) hx hb d_Bx_firstShortDay_87 hl (k := 2) rfl (by decide +kernel) (by decide) rfl (fun ls hl => ?_)
  refine lv_goto (tgt := 53) hx hb d_Bx_firstShortDay_90 (by decide) ?_
  refine lv_iload hx hb d_Bx_firstShortDay_53 (lv_at hl 0 rfl) ?_
  refine lv_bipush (v := 40) hx hb d_Bx_firstShortDay_55 (by decide +kernel) ?_
  refine lv_icmp_ge (tgt := 93) hx hb d_Bx_firstShortDay_57 (by decide) (fun h => absurd h (by decide +kernel)) (fun _ => ?_)
  refine lv_iinc (v := 1800) (lv' := [(6, .int 1800), (7, .int 17), (4, .long 0), (2, .long 0), (0, .ref (a 12)), (1, .int 0)]) hx hb d_Bx_firstShortDay_60 hl (k := 2) rfl (by decide +kernel) (by decide) rfl (fun ls hl => ?_)
  refine lv_lload hx hb d_Bx_firstShortDay_63 (lv_at hl 2 rfl) ?_
  refine lv_lload_n hx hb d_Bx_firstShortDay_65 rfl (lv_at hl 3 rfl) ?_
  refine lv_aload_n hx hb d_Bx_firstShortDay_66 rfl (lv_at hl 4 rfl) ?_
  refine lv_iload hx hb d_Bx_firstShortDay_67 (lv_at hl 0 rfl) ?_
  refine vp_callSi (va_Run.run (va_runV (As := [.int 1800]) (rest := [.long 0, .long 0]) ⟨hx, hb, hml, hown, htb⟩ (c_Bx_owedOn l dC dI a k L hL 1800) (cwV 1 htb (gd_V tw_272 tw_273 tw_274 tw_87 tw_271) rfl rfl rfl (by decide +kernel) ⟨Nat.le_of_ble_eq_true rfl, Nat.le_of_ble_eq_true rfl⟩) ⟨pr_blind, va_recv hK hP (ci := 5) (q0 := 12) rfl rfl, pr_pre hP hK hN⟩ rfl rfl hl.1 rfl (lv_room (Nat.le_of_ble_eq_true rfl)) d_Bx_firstShortDay_69 ⟨Nat.le_of_ble_eq_true rfl, Nat.le_of_ble_eq_true rfl⟩)) (fun r er => ?_)
  subst er
  refine hb_ti 0 rfl ?_
  refine lv_i2l hx hb d_Bx_firstShortDay_72 rfl ?_
  refine hb_tl 0 (by decide +kernel) ?_
  refine lv_lsub hx hb d_Bx_firstShortDay_73 ?_
  refine hb_tl 0 (by decide +kernel) ?_
  refine lv_ladd hx hb d_Bx_firstShortDay_74 ?_
  refine hb_tl 0 (by decide +kernel) ?_
  refine lv_lstore (lv' := [(4, .long 0), (6, .int 1800), (7, .int 17), (2, .long 0), (0, .ref (a 12)), (1, .int 0)]) hx hb d_Bx_firstShortDay_75 hl (by decide) rfl (fun ls hl => ?_)
  refine lv_lload hx hb d_Bx_firstShortDay_77 (lv_at hl 0 rfl) ?_
  refine lv_lconst (v := 0) hx hb d_Bx_firstShortDay_79 (by decide +kernel) ?_
  refine W.lcmp hx hb d_Bx_firstShortDay_80 ?_
  refine hb_ti 0 (by decide +kernel) ?_
  refine lv_if_ge (tgt := 87) hx hb d_Bx_firstShortDay_81 (by decide) (fun _ => ?_) (fun h => absurd (by decide +kernel) h)
  refine lv_iinc (v := 18) (lv' := [(7, .int 18), (4, .long 0), (6, .int 1800), (2, .long 0), (0, .ref (a 12)), (1, .int 0)]) hx hb d_Bx_firstShortDay_87 hl (k := 2) rfl (by decide +kernel) (by decide) rfl (fun ls hl => ?_)
  refine lv_goto (tgt := 53) hx hb d_Bx_firstShortDay_90 (by decide) ?_
  refine lv_iload hx hb d_Bx_firstShortDay_53 (lv_at hl 0 rfl) ?_
  refine lv_bipush (v := 40) hx hb d_Bx_firstShortDay_55 (by decide +kernel) ?_
  refine lv_icmp_ge (tgt := 93) hx hb d_Bx_firstShortDay_57 (by decide) (fun h => absurd h (by decide +kernel)) (fun _ => ?_)
  refine lv_iinc (v := 1900) (lv' := [(6, .int 1900), (7, .int 18), (4, .long 0), (2, .long 0), (0, .ref (a 12)), (1, .int 0)]) hx hb d_Bx_firstShortDay_60 hl (k := 2) rfl (by decide +kernel) (by decide) rfl (fun ls hl => ?_)
  refine lv_lload hx hb d_Bx_firstShortDay_63 (lv_at hl 2 rfl) ?_
  refine lv_lload_n hx hb d_Bx_firstShortDay_65 rfl (lv_at hl 3 rfl) ?_
  refine lv_aload_n hx hb d_Bx_firstShortDay_66 rfl (lv_at hl 4 rfl) ?_
  refine lv_iload hx hb d_Bx_firstShortDay_67 (lv_at hl 0 rfl) ?_
  refine vp_callSi (va_Run.run (va_runV (As := [.int 1900]) (rest := [.long 0, .long 0]) ⟨hx, hb, hml, hown, htb⟩ (c_Bx_owedOn l dC dI a k L hL 1900) (cwV 1 htb (gd_V tw_272 tw_273 tw_274 tw_87 tw_271) rfl rfl rfl (by decide +kernel) ⟨Nat.le_of_ble_eq_true rfl, Nat.le_of_ble_eq_true rfl⟩) ⟨pr_blind, va_recv hK hP (ci := 5) (q0 := 12) rfl rfl, pr_pre hP hK hN⟩ rfl rfl hl.1 rfl (lv_room (Nat.le_of_ble_eq_true rfl)) d_Bx_firstShortDay_69 ⟨Nat.le_of_ble_eq_true rfl, Nat.le_of_ble_eq_true rfl⟩)) (fun r er => ?_)
  subst er
  refine hb_ti 0 rfl ?_
  refine lv_i2l hx hb d_Bx_firstShortDay_72 rfl ?_
  refine hb_tl 0 (by decide +kernel) ?_
  refine lv_lsub hx hb d_Bx_firstShortDay_73 ?_
  refine hb_tl 0 (by decide +kernel) ?_
  refine lv_ladd hx hb d_Bx_firstShortDay_74 ?_
  refine hb_tl 0 (by decide +kernel) ?_
  refine lv_lstore (lv' := [(4, .long 0), (6, .int 1900), (7, .int 18), (2, .long 0), (0, .ref (a 12)), (1, .int 0)]) hx hb d_Bx_firstShortDay_75 hl (by decide) rfl (fun ls hl => ?_)
  refine lv_lload hx hb d_Bx_firstShortDay_77 (lv_at hl 0 rfl) ?_
  refine lv_lconst (v := 0) hx hb d_Bx_firstShortDay_79 (by decide +kernel) ?_
  refine W.lcmp hx hb d_Bx_firstShortDay_80 ?_
  refine hb_ti 0 (by decide +kernel) ?_
  refine lv_if_ge (tgt := 87) hx hb d_Bx_firstShortDay_81 (by decide) (fun _ => ?_) (fun h => absurd (by decide +kernel) h)
  refine lv_iinc (v := 19) (lv' := [(7, .int 19), (4, .long 0), (6, .int 1900), (2, .long 0), (0, .ref (a 12)), (1, .int 0)]) hx hb d_Bx_firstShortDay_87 hl (k := 2) rfl (by decide +kernel) (by decide) rfl (fun ls hl => ?_)
  refine lv_goto (tgt := 53) hx hb d_Bx_firstShortDay_90 (by decide) ?_
  refine lv_iload hx hb d_Bx_firstShortDay_53 (lv_at hl 0 rfl) ?_
  refine lv_bipush (v := 40) hx hb d_Bx_firstShortDay_55 (by decide +kernel) ?_
  refine lv_icmp_ge (tgt := 93) hx hb d_Bx_firstShortDay_57 (by decide) (fun h => absurd h (by decide +kernel)) (fun _ => ?_)
  refine lv_iinc (v := 2000) (lv' := [(6, .int 2000), (7, .int 19), (4, .long 0), (2, .long 0), (0, .ref (a 12)), (1, .int 0)]) hx hb d_Bx_firstShortDay_60 hl (k := 2) rfl (by decide +kernel) (by decide) rfl (fun ls hl => ?_)
  refine lv_lload hx hb d_Bx_firstShortDay_63 (lv_at hl 2 rfl) ?_
  refine lv_lload_n hx hb d_Bx_firstShortDay_65 rfl (lv_at hl 3 rfl) ?_
  refine lv_aload_n hx hb d_Bx_firstShortDay_66 rfl (lv_at hl 4 rfl) ?_
  refine lv_iload hx hb d_Bx_firstShortDay_67 (lv_at hl 0 rfl) ?_
  refine vp_callSi (va_Run.run (va_runV (As := [.int 2000]) (rest := [.long 0, .long 0]) ⟨hx, hb, hml, hown, htb⟩ (c_Bx_owedOn l dC dI a k L hL 2000) (cwV 1 htb (gd_V tw_272 tw_273 tw_274 tw_87 tw_271) rfl rfl rfl (by decide +kernel) ⟨Nat.le_of_ble_eq_true rfl, Nat.le_of_ble_eq_true rfl⟩) ⟨pr_blind, va_recv hK hP (ci := 5) (q0 := 12) rfl rfl, pr_pre hP hK hN⟩ rfl rfl hl.1 rfl (lv_room (Nat.le_of_ble_eq_true rfl)) d_Bx_firstShortDay_69 ⟨Nat.le_of_ble_eq_true rfl, Nat.le_of_ble_eq_true rfl⟩)) (fun r er => ?_)
  subst er
  refine hb_ti 0 rfl ?_
  refine lv_i2l hx hb d_Bx_firstShortDay_72 rfl ?_
  refine hb_tl 0 (by decide +kernel) ?_
  refine lv_lsub hx hb d_Bx_firstShortDay_73 ?_
  refine hb_tl 0 (by decide +kernel) ?_
  refine lv_ladd hx hb d_Bx_firstShortDay_74 ?_
  refine hb_tl 0 (by decide +kernel) ?_
  refine lv_lstore (lv' := [(4, .long 0), (6, .int 2000), (7, .int 19), (2, .long 0), (0, .ref (a 12)), (1, .int 0)]) hx hb d_Bx_firstShortDay_75 hl (by decide) rfl (fun ls hl => ?_)
  refine lv_lload hx hb d_Bx_firstShortDay_77 (lv_at hl 0 rfl) ?_
  refine lv_lconst (v := 0) hx hb d_Bx_firstShortDay_79 (by decide +kernel) ?_
  refine W.lcmp hx hb d_Bx_firstShortDay_80 ?_
  refine hb_ti 0 (by decide +kernel) ?_
  refine lv_if_ge (tgt := 87) hx hb d_Bx_firstShortDay_81 (by decide) (fun _ => ?_) (fun h => absurd (by decide +kernel) h)
  refine lv_iinc (v := 20) (lv' := [(7, .int 20), (4, .long 0), (6, .int 2000), (2, .long 0), (0, .ref (a 12)), (1, .int 0)]) hx hb d_Bx_firstShortDay_87 hl (k := 2) rfl (by decide +kernel) (by decide) rfl (fun ls hl => ?_)
  refine lv_goto (tgt := 53) hx hb d_Bx_firstShortDay_90 (by decide) ?_
  refine lv_iload hx hb d_Bx_firstShortDay_53 (lv_at hl 0 rfl) ?_
  refine lv_bipush (v := 40) hx hb d_Bx_firstShortDay_55 (by decide +kernel) ?_
  refine lv_icmp_ge (tgt := 93) hx hb d_Bx_firstShortDay_57 (by decide) (fun h => absurd h (by decide +kernel)) (fun _ => ?_)
  refine lv_iinc (v := 2100) (lv' := [(6, .int 2100), (7, .int 20), (4, .long 0), (2, .long 0), (0, .ref (a 12)), (1, .int 0)]) hx hb d_Bx_firstShortDay_60 hl (k := 2) rfl (by decide +kernel) (by decide) rfl (fun ls hl => ?_)
  refine lv_lload hx hb d_Bx_firstShortDay_63 (lv_at hl 2 rfl) ?_
  refine lv_lload_n hx hb d_Bx_firstShortDay_65 rfl (lv_at hl 3 rfl) ?_
  refine lv_aload_n hx hb d_Bx_firstShortDay_66 rfl (lv_at hl 4 rfl) ?_
  refine lv_iload hx hb d_Bx_firstShortDay_67 (lv_at hl 0 rfl) ?_
  refine vp_callSi (va_Run.run (va_runV (As := [.int 2100]) (rest := [.long 0, .long 0]) ⟨hx, hb, hml, hown, htb⟩ (c_Bx_owedOn l dC dI a k L hL 2100) (cwV 1 htb (gd_V tw_272 tw_273 tw_274 tw_87 tw_271) rfl rfl rfl (by decide +kernel) ⟨Nat.le_of_ble_eq_true rfl, Nat.le_of_ble_eq_true rfl⟩) ⟨pr_blind, va_recv hK hP (ci := 5) (q0 := 12) rfl rfl, pr_pre hP hK hN⟩ rfl rfl hl.1 rfl (lv_room (Nat.le_of_ble_eq_true rfl)) d_Bx_firstShortDay_69 ⟨Nat.le_of_ble_eq_true rfl, Nat.le_of_ble_eq_true rfl⟩)) (fun r er => ?_)
  subst er
  refine hb_ti 0 rfl ?_
  refine lv_i2l hx hb d_Bx_firstShortDay_72 rfl ?_
  refine hb_tl 0 (by decide +kernel) ?_
  refine lv_lsub hx hb d_Bx_firstShortDay_73 ?_
  refine hb_tl 0 (by decide +kernel) ?_
  refine lv_ladd hx hb d_Bx_firstShortDay_74 ?_
  refine hb_tl 0 (by decide +kernel) ?_
  refine lv_lstore (lv' := [(4, .long 0), (6, .int 2100), (7, .int 20), (2, .long 0), (0, .ref (a 12)), (1, .int 0)]) hx hb d_Bx_firstShortDay_75 hl (by decide) rfl (fun ls hl => ?_)
  refine lv_lload hx hb d_Bx_firstShortDay_77 (lv_at hl 0 rfl) ?_
  refine lv_lconst (v := 0) hx hb d_Bx_firstShortDay_79 (by decide +kernel) ?_
  refine W.lcmp hx hb d_Bx_firstShortDay_80 ?_
  refine hb_ti 0 (by decide +kernel) ?_
  refine lv_if_ge (tgt := 87) hx hb d_Bx_firstShortDay_81 (by decide) (fun _ => ?_) (fun h => absurd (by decide +kernel) h)
  refine lv_iinc (v := 21) (lv' := [(7, .int 21), (4, .long 0), (6, .int 2100), (2, .long 0), (0, .ref (a 12)), (1, .int 0)]) hx hb d_Bx_firstShortDay_87 hl (k := 2) rfl (by decide +kernel) (by decide) rfl (fun ls hl => ?_)
  refine lv_goto (tgt := 53) hx hb d_Bx_firstShortDay_90 (by decide) ?_
  refine lv_iload hx hb d_Bx_firstShortDay_53 (lv_at hl 0 rfl) ?_
  refine lv_bipush (v := 40) hx hb d_Bx_firstShortDay_55 (by decide +kernel) ?_
  refine lv_icmp_ge (tgt := 93) hx hb d_Bx_firstShortDay_57 (by decide) (fun h => absurd h (by decide +kernel)) (fun _ => ?_)
  refine lv_iinc (v := 2200) (lv' := [(6, .int 2200), (7, .int 21), (4, .long 0), (2, .long 0), (0, .ref (a 12)), (1, .int 0)]) hx hb d_Bx_firstShortDay_60 hl (k := 2) rfl (by decide +kernel) (by decide) rfl (fun ls hl => ?_)
  refine lv_lload hx hb d_Bx_firstShortDay_63 (lv_at hl 2 rfl) ?_
  refine lv_lload_n hx hb d_Bx_firstShortDay_65 rfl (lv_at hl 3 rfl) ?_
  refine lv_aload_n hx hb d_Bx_firstShortDay_66 rfl (lv_at hl 4 rfl) ?_
  refine lv_iload hx hb d_Bx_firstShortDay_67 (lv_at hl 0 rfl) ?_
  refine vp_callSi (va_Run.run (va_runV (As := [.int 2200]) (rest := [.long 0, .long 0]) ⟨hx, hb, hml, hown, htb⟩ (c_Bx_owedOn l dC dI a k L hL 2200) (cwV 1 htb (gd_V tw_272 tw_273 tw_274 tw_87 tw_271) rfl rfl rfl (by decide +kernel) ⟨Nat.le_of_ble_eq_true rfl, Nat.le_of_ble_eq_true rfl⟩) ⟨pr_blind, va_recv hK hP (ci := 5) (q0 := 12) rfl rfl, pr_pre hP hK hN⟩ rfl rfl hl.1 rfl (lv_room (Nat.le_of_ble_eq_true rfl)) d_Bx_firstShortDay_69 ⟨Nat.le_of_ble_eq_true rfl, Nat.le_of_ble_eq_true rfl⟩)) (fun r er => ?_)
  subst er
  refine hb_ti 0 rfl ?_
  refine lv_i2l hx hb d_Bx_firstShortDay_72 rfl ?_
  refine hb_tl 0 (by decide +kernel) ?_
  refine lv_lsub hx hb d_Bx_firstShortDay_73 ?_
  refine hb_tl 0 (by decide +kernel) ?_
  refine lv_ladd hx hb d_Bx_firstShortDay_74 ?_
  refine hb_tl 0 (by decide +kernel) ?_
  refine lv_lstore (lv' := [(4, .long 0), (6, .int 2200), (7, .int 21), (2, .long 0), (0, .ref (a 12)), (1, .int 0)]) hx hb d_Bx_firstShortDay_75 hl (by decide) rfl (fun ls hl => ?_)
  refine lv_lload hx hb d_Bx_firstShortDay_77 (lv_at hl 0 rfl) ?_
  refine lv_lconst (v := 0) hx hb d_Bx_firstShortDay_79 (by decide +kernel) ?_
  refine W.lcmp hx hb d_Bx_firstShortDay_80 ?_
  refine hb_ti 0 (by decide +kernel) ?_
  refine lv_if_ge (tgt := 87) hx hb d_Bx_firstShortDay_81 (by decide) (fun _ => ?_) (fun h => absurd (by decide +kernel) h)
  refine lv_iinc (v := 22) (lv' := [(7, .int 22), (4, .long 0), (6, .int 2200), (2, .long 0), (0, .ref (a 12)), (1, .int 0)]) hx hb d_Bx_firstShortDay_87 hl (k := 2) rfl (by decide +kernel) (by decide) rfl (fun ls hl => ?_)
  refine lv_goto (tgt := 53) hx hb d_Bx_firstShortDay_90 (by decide) ?_
  refine lv_iload hx hb d_Bx_firstShortDay_53 (lv_at hl 0 rfl) ?_
  refine lv_bipush (v := 40) hx hb d_Bx_firstShortDay_55 (by decide +kernel) ?_
  refine lv_icmp_ge (tgt := 93) hx hb d_Bx_firstShortDay_57 (by decide) (fun h => absurd h (by decide +kernel)) (fun _ => ?_)
  refine lv_iinc (v := 2300) (lv' := [(6, .int 2300), (7, .int 22), (4, .long 0), (2, .long 0), (0, .ref (a 12)), (1, .int 0)]) hx hb d_Bx_firstShortDay_60 hl (k := 2) rfl (by decide +kernel) (by decide) rfl (fun ls hl => ?_)
  refine lv_lload hx hb d_Bx_firstShortDay_63 (lv_at hl 2 rfl) ?_
  refine lv_lload_n hx hb d_Bx_firstShortDay_65 rfl (lv_at hl 3 rfl) ?_
  refine lv_aload_n hx hb d_Bx_firstShortDay_66 rfl (lv_at hl 4 rfl) ?_
  refine lv_iload hx hb d_Bx_firstShortDay_67 (lv_at hl 0 rfl) ?_
  refine vp_callSi (va_Run.run (va_runV (As := [.int 2300]) (rest := [.long 0, .long 0]) ⟨hx, hb, hml, hown, htb⟩ (c_Bx_owedOn l dC dI a k L hL 2300) (cwV 1 htb (gd_V tw_272 tw_273 tw_274 tw_87 tw_271) rfl rfl rfl (by decide +kernel) ⟨Nat.le_of_ble_eq_true rfl, Nat.le_of_ble_eq_true rfl⟩) ⟨pr_blind, va_recv hK hP (ci := 5) (q0 := 12) rfl rfl, pr_pre hP hK hN⟩ rfl rfl hl.1 rfl (lv_room (Nat.le_of_ble_eq_true rfl)) d_Bx_firstShortDay_69 ⟨Nat.le_of_ble_eq_true rfl, Nat.le_of_ble_eq_true rfl⟩)) (fun r er => ?_)
  subst er
  refine hb_ti 0 rfl ?_
  refine lv_i2l hx hb d_Bx_firstShortDay_72 rfl ?_
  refine hb_tl 0 (by decide +kernel) ?_
  refine lv_lsub hx hb d_Bx_firstShortDay_73 ?_
  refine hb_tl 0 (by decide +kernel) ?_
  refine lv_ladd hx hb d_Bx_firstShortDay_74 ?_
  refine hb_tl 0 (by decide +kernel) ?_
  refine lv_lstore (lv' := [(4, .long 0), (6, .int 2300), (7, .int 22), (2, .long 0), (0, .ref (a 12)), (1, .int 0)]) hx hb d_Bx_firstShortDay_75 hl (by decide) rfl (fun ls hl => ?_)
  refine lv_lload hx hb d_Bx_firstShortDay_77 (lv_at hl 0 rfl) ?_
  refine lv_lconst (v := 0) hx hb d_Bx_firstShortDay_79 (by decide +kernel) ?_
  refine W.lcmp hx hb d_Bx_firstShortDay_80 ?_
  refine hb_ti 0 (by decide +kernel) ?_
  refine lv_if_ge (tgt := 87) hx hb d_Bx_firstShortDay_81 (by decide) (fun _ => ?_) (fun h => absurd (by decide +kernel) h)
  refine lv_iinc (v := 23) (lv' := [(7, .int 23), (4, .long 0), (6, .int 2300), (2, .long 0), (0, .ref (a 12)), (1, .int 0)]) hx hb d_Bx_firstShortDay_87 hl (k := 2) rfl (by decide +kernel) (by decide) rfl (fun ls hl => ?_)
  refine lv_goto (tgt := 53) hx hb d_Bx_firstShortDay_90 (by decide) ?_
  refine lv_iload hx hb d_Bx_firstShortDay_53 (lv_at hl 0 rfl) ?_
  refine lv_bipush (v := 40) hx hb d_Bx_firstShortDay_55 (by decide +kernel) ?_
  refine lv_icmp_ge (tgt := 93) hx hb d_Bx_firstShortDay_57 (by decide) (fun h => absurd h (by decide +kernel)) (fun _ => ?_)
  refine lv_iinc (v := 2400) (lv' := [(6, .int 2400), (7, .int 23), (4, .long 0), (2, .long 0), (0, .ref (a 12)), (1, .int 0)]) hx hb d_Bx_firstShortDay_60 hl (k := 2) rfl (by decide +kernel) (by decide) rfl (fun ls hl => ?_)
  refine lv_lload hx hb d_Bx_firstShortDay_63 (lv_at hl 2 rfl) ?_
  refine lv_lload_n hx hb d_Bx_firstShortDay_65 rfl (lv_at hl 3 rfl) ?_
  refine lv_aload_n hx hb d_Bx_firstShortDay_66 rfl (lv_at hl 4 rfl) ?_
  refine lv_iload hx hb d_Bx_firstShortDay_67 (lv_at hl 0 rfl) ?_
  refine vp_callSi (va_Run.run (va_runV (As := [.int 2400]) (rest := [.long 0, .long 0]) ⟨hx, hb, hml, hown, htb⟩ (c_Bx_owedOn l dC dI a k L hL 2400) (cwV 1 htb (gd_V tw_272 tw_273 tw_274 tw_87 tw_271) rfl rfl rfl (by decide +kernel) ⟨Nat.le_of_ble_eq_true rfl, Nat.le_of_ble_eq_true rfl⟩) ⟨pr_blind, va_recv hK hP (ci := 5) (q0 := 12) rfl rfl, pr_pre hP hK hN⟩ rfl rfl hl.1 rfl (lv_room (Nat.le_of_ble_eq_true rfl)) d_Bx_firstShortDay_69 ⟨Nat.le_of_ble_eq_true rfl, Nat.le_of_ble_eq_true rfl⟩)) (fun r er => ?_)
  subst er
  refine hb_ti 0 rfl ?_
  refine lv_i2l hx hb d_Bx_firstShortDay_72 rfl ?_
  refine hb_tl 0 (by decide +kernel) ?_
  refine lv_lsub hx hb d_Bx_firstShortDay_73 ?_
  refine hb_tl 0 (by decide +kernel) ?_
  refine lv_ladd hx hb d_Bx_firstShortDay_74 ?_
  refine hb_tl 0 (by decide +kernel) ?_
  refine lv_lstore (lv' := [(4, .long 0), (6, .int 2400), (7, .int 23), (2, .long 0), (0, .ref (a 12)), (1, .int 0)]) hx hb d_Bx_firstShortDay_75 hl (by decide) rfl (fun ls hl => ?_)
  refine lv_lload hx hb d_Bx_firstShortDay_77 (lv_at hl 0 rfl) ?_
  refine lv_lconst (v := 0) hx hb d_Bx_firstShortDay_79 (by decide +kernel) ?_
  refine W.lcmp hx hb d_Bx_firstShortDay_80 ?_
  refine hb_ti 0 (by decide +kernel) ?_
  refine lv_if_ge (tgt := 87) hx hb d_Bx_firstShortDay_81 (by decide) (fun _ => ?_) (fun h => absurd (by decide +kernel) h)
  refine lv_iinc (v := 24) (lv' := [(7, .int 24), (4, .long 0), (6, .int 2400), (2, .long 0), (0, .ref (a 12)), (1, .int 0)]) hx hb d_Bx_firstShortDay_87 hl (k := 2) rfl (by decide +kernel) (by decide) rfl (fun ls hl => ?_)
  refine lv_goto (tgt := 53) hx hb d_Bx_firstShortDay_90 (by decide) ?_
  refine lv_iload hx hb d_Bx_firstShortDay_53 (lv_at hl 0 rfl) ?_
  refine lv_bipush (v := 40) hx hb d_Bx_firstShortDay_55 (by decide +kernel) ?_
  refine lv_icmp_ge (tgt := 93) hx hb d_Bx_firstShortDay_57 (by decide) (fun h => absurd h (by decide +kernel)) (fun _ => ?_)
  refine lv_iinc (v := 2500) (lv' := [(6, .int 2500), (7, .int 24), (4, .long 0), (2, .long 0), (0, .ref (a 12)), (1, .int 0)]) hx hb d_Bx_firstShortDay_60 hl (k := 2) rfl (by decide +kernel) (by decide) rfl (fun ls hl => ?_)
  refine lv_lload hx hb d_Bx_firstShortDay_63 (lv_at hl 2 rfl) ?_
  refine lv_lload_n hx hb d_Bx_firstShortDay_65 rfl (lv_at hl 3 rfl) ?_
  refine lv_aload_n hx hb d_Bx_firstShortDay_66 rfl (lv_at hl 4 rfl) ?_
  refine lv_iload hx hb d_Bx_firstShortDay_67 (lv_at hl 0 rfl) ?_
  refine vp_callSi (va_Run.run (va_runV (As := [.int 2500]) (rest := [.long 0, .long 0]) ⟨hx, hb, hml, hown, htb⟩ (c_Bx_owedOn l dC dI a k L hL 2500) (cwV 1 htb (gd_V tw_272 tw_273 tw_274 tw_87 tw_271) rfl rfl rfl (by decide +kernel) ⟨Nat.le_of_ble_eq_true rfl, Nat.le_of_ble_eq_true rfl⟩) ⟨pr_blind, va_recv hK hP (ci := 5) (q0 := 12) rfl rfl, pr_pre hP hK hN⟩ rfl rfl hl.1 rfl (lv_room (Nat.le_of_ble_eq_true rfl)) d_Bx_firstShortDay_69 ⟨Nat.le_of_ble_eq_true rfl, Nat.le_of_ble_eq_true rfl⟩)) (fun r er => ?_)
  subst er
  refine hb_ti 0 rfl ?_
  refine lv_i2l hx hb d_Bx_firstShortDay_72 rfl ?_
  refine hb_tl 0 (by decide +kernel) ?_
  refine lv_lsub hx hb d_Bx_firstShortDay_73 ?_
  refine hb_tl 0 (by decide +kernel) ?_
  refine lv_ladd hx hb d_Bx_firstShortDay_74 ?_
  refine hb_tl 0 (by decide +kernel) ?_
  refine lv_lstore (lv' := [(4, .long 0), (6, .int 2500), (7, .int 24), (2, .long 0), (0, .ref (a 12)), (1, .int 0)]) hx hb d_Bx_firstShortDay_75 hl (by decide) rfl (fun ls hl => ?_)
  refine lv_lload hx hb d_Bx_firstShortDay_77 (lv_at hl 0 rfl) ?_
  refine lv_lconst (v := 0) hx hb d_Bx_firstShortDay_79 (by decide +kernel) ?_
  refine W.lcmp hx hb d_Bx_firstShortDay_80 ?_
  refine hb_ti 0 (by decide +kernel) ?_
  refine lv_if_ge (tgt := 87) hx hb d_Bx_firstShortDay_81 (by decide) (fun _ => ?_) (fun h => absurd (by decide +kernel) h)
  refine lv_iinc (v := 25) (lv' := [(7, .int 25), (4, .long 0), (6, .int 2500), (2, .long 0), (0, .ref (a 12)), (1, .int 0)]) hx hb d_Bx_firstShortDay_87 hl (k := 2) rfl (by decide +kernel) (by decide) rfl (fun ls hl => ?_)
  refine lv_goto (tgt := 53) hx hb d_Bx_firstShortDay_90 (by decide) ?_
  refine lv_iload hx hb d_Bx_firstShortDay_53 (lv_at hl 0 rfl) ?_
  refine lv_bipush (v := 40) hx hb d_Bx_firstShortDay_55 (by decide +kernel) ?_
  refine lv_icmp_ge (tgt := 93) hx hb d_Bx_firstShortDay_57 (by decide) (fun h => absurd h (by decide +kernel)) (fun _ => ?_)
  refine lv_iinc (v := 2600) (lv' := [(6, .int 2600), (7, .int 25), (4, .long 0), (2, .long 0), (0, .ref (a 12)), (1, .int 0)]) hx hb d_Bx_firstShortDay_60 hl (k := 2) rfl (by decide +kernel) (by decide) rfl (fun ls hl => ?_)
  refine lv_lload hx hb d_Bx_firstShortDay_63 (lv_at hl 2 rfl) ?_
  refine lv_lload_n hx hb d_Bx_firstShortDay_65 rfl (lv_at hl 3 rfl) ?_
  refine lv_aload_n hx hb d_Bx_firstShortDay_66 rfl (lv_at hl 4 rfl) ?_
  refine lv_iload hx hb d_Bx_firstShortDay_67 (lv_at hl 0 rfl) ?_
  refine vp_callSi (va_Run.run (va_runV (As := [.int 2600]) (rest := [.long 0, .long 0]) ⟨hx, hb, hml, hown, htb⟩ (c_Bx_owedOn l dC dI a k L hL 2600) (cwV 1 htb (gd_V tw_272 tw_273 tw_274 tw_87 tw_271) rfl rfl rfl (by decide +kernel) ⟨Nat.le_of_ble_eq_true rfl, Nat.le_of_ble_eq_true rfl⟩) ⟨pr_blind, va_recv hK hP (ci := 5) (q0 := 12) rfl rfl, pr_pre hP hK hN⟩ rfl rfl hl.1 rfl (lv_room (Nat.le_of_ble_eq_true rfl)) d_Bx_firstShortDay_69 ⟨Nat.le_of_ble_eq_true rfl, Nat.le_of_ble_eq_true rfl⟩)) (fun r er => ?_)
  subst er
  refine hb_ti 0 rfl ?_
  refine lv_i2l hx hb d_Bx_firstShortDay_72 rfl ?_
  refine hb_tl 0 (by decide +kernel) ?_
  refine lv_lsub hx hb d_Bx_firstShortDay_73 ?_
  refine hb_tl 0 (by decide +kernel) ?_
  refine lv_ladd hx hb d_Bx_firstShortDay_74 ?_
  refine hb_tl 0 (by decide +kernel) ?_
  refine lv_lstore (lv' := [(4, .long 0), (6, .int 2600), (7, .int 25), (2, .long 0), (0, .ref (a 12)), (1, .int 0)]) hx hb d_Bx_firstShortDay_75 hl (by decide) rfl (fun ls hl => ?_)
  refine lv_lload hx hb d_Bx_firstShortDay_77 (lv_at hl 0 rfl) ?_
  refine lv_lconst (v := 0) hx hb d_Bx_firstShortDay_79 (by decide +kernel) ?_
  refine W.lcmp hx hb d_Bx_firstShortDay_80 ?_
  refine hb_ti 0 (by decide +kernel) ?_
  refine lv_if_ge (tgt := 87) hx hb d_Bx_firstShortDay_81 (by decide) (fun _ => ?_) (fun h => absurd (by decide +kernel) h)
  refine lv_iinc (v := 26) (lv' := [(7, .int 26), (4, .long 0), (6, .int 2600), (2, .long 0), (0, .ref (a 12)), (1, .int 0)]) hx hb d_Bx_firstShortDay_87 hl (k := 2) rfl (by decide +kernel) (by decide) rfl (fun ls hl => ?_)
  refine lv_goto (tgt := 53) hx hb d_Bx_firstShortDay_90 (by decide) ?_
  refine lv_iload hx hb d_Bx_firstShortDay_53 (lv_at hl 0 rfl) ?_
  refine lv_bipush (v := 40) hx hb d_Bx_firstShortDay_55 (by decide +kernel) ?_
  refine lv_icmp_ge (tgt := 93) hx hb d_Bx_firstShortDay_57 (by decide) (fun h => absurd h (by decide +kernel)) (fun _ => ?_)
  refine lv_iinc (v := 2700) (lv' := [(6, .int 2700), (7, .int 26), (4, .long 0), (2, .long 0), (0, .ref (a 12)), (1, .int 0)]) hx hb d_Bx_firstShortDay_60 hl (k := 2) rfl (by decide +kernel) (by decide) rfl (fun ls hl => ?_)
  refine lv_lload hx hb d_Bx_firstShortDay_63 (lv_at hl 2 rfl) ?_
  refine lv_lload_n hx hb d_Bx_firstShortDay_65 rfl (lv_at hl 3 rfl) ?_
  refine lv_aload_n hx hb d_Bx_firstShortDay_66 rfl (lv_at hl 4 rfl) ?_
  refine lv_iload hx hb d_Bx_firstShortDay_67 (lv_at hl 0 rfl) ?_
  refine vp_callSi (va_Run.run (va_runV (As := [.int 2700]) (rest := [.long 0, .long 0]) ⟨hx, hb, hml, hown, htb⟩ (c_Bx_owedOn l dC dI a k L hL 2700) (cwV 1 htb (gd_V tw_272 tw_273 tw_274 tw_87 tw_271) rfl rfl rfl (by decide +kernel) ⟨Nat.le_of_ble_eq_true rfl, Nat.le_of_ble_eq_true rfl⟩) ⟨pr_blind, va_recv hK hP (ci := 5) (q0 := 12) rfl rfl, pr_pre hP hK hN⟩ rfl rfl hl.1 rfl (lv_room (Nat.le_of_ble_eq_true rfl)) d_Bx_firstShortDay_69 ⟨Nat.le_of_ble_eq_true rfl, Nat.le_of_ble_eq_true rfl⟩)) (fun r er => ?_)
  subst er
  refine hb_ti 0 rfl ?_
  refine lv_i2l hx hb d_Bx_firstShortDay_72 rfl ?_
  refine hb_tl 0 (by decide +kernel) ?_
  refine lv_lsub hx hb d_Bx_firstShortDay_73 ?_
  refine hb_tl 0 (by decide +kernel) ?_
  refine lv_ladd hx hb d_Bx_firstShortDay_74 ?_
  refine hb_tl 0 (by decide +kernel) ?_
  refine lv_lstore (lv' := [(4, .long 0), (6, .int 2700), (7, .int 26), (2, .long 0), (0, .ref (a 12)), (1, .int 0)]) hx hb d_Bx_firstShortDay_75 hl (by decide) rfl (fun ls hl => ?_)
  refine lv_lload hx hb d_Bx_firstShortDay_77 (lv_at hl 0 rfl) ?_
  refine lv_lconst (v := 0) hx hb d_Bx_firstShortDay_79 (by decide +kernel) ?_
  refine W.lcmp hx hb d_Bx_firstShortDay_80 ?_
  refine hb_ti 0 (by decide +kernel) ?_
  refine lv_if_ge (tgt := 87) hx hb d_Bx_firstShortDay_81 (by decide) (fun _ => ?_) (fun h => absurd (by decide +kernel) h)
  refine lv_iinc (v := 27) (lv' := [(7, .int 27), (4, .long 0), (6, .int 2700), (2, .long 0), (0, .ref (a 12)), (1, .int 0)]) hx hb d_Bx_firstShortDay_87 hl (k := 2) rfl (by decide +kernel) (by decide) rfl (fun ls hl => ?_)
  refine lv_goto (tgt := 53) hx hb d_Bx_firstShortDay_90 (by decide) ?_
  refine lv_iload hx hb d_Bx_firstShortDay_53 (lv_at hl 0 rfl) ?_
  refine lv_bipush (v := 40) hx hb d_Bx_firstShortDay_55 (by decide +kernel) ?_
  refine lv_icmp_ge (tgt := 93) hx hb d_Bx_firstShortDay_57 (by decide) (fun h => absurd h (by decide +kernel)) (fun _ => ?_)
  refine lv_iinc (v := 2800) (lv' := [(6, .int 2800), (7, .int 27), (4, .long 0), (2, .long 0), (0, .ref (a 12)), (1, .int 0)]) hx hb d_Bx_firstShortDay_60 hl (k := 2) rfl (by decide +kernel) (by decide) rfl (fun ls hl => ?_)
  refine lv_lload hx hb d_Bx_firstShortDay_63 (lv_at hl 2 rfl) ?_
  refine lv_lload_n hx hb d_Bx_firstShortDay_65 rfl (lv_at hl 3 rfl) ?_
  refine lv_aload_n hx hb d_Bx_firstShortDay_66 rfl (lv_at hl 4 rfl) ?_
  refine lv_iload hx hb d_Bx_firstShortDay_67 (lv_at hl 0 rfl) ?_
  refine vp_callSi (va_Run.run (va_runV (As := [.int 2800]) (rest := [.long 0, .long 0]) ⟨hx, hb, hml, hown, htb⟩ (c_Bx_owedOn l dC dI a k L hL 2800) (cwV 1 htb (gd_V tw_272 tw_273 tw_274 tw_87 tw_271) rfl rfl rfl (by decide +kernel) ⟨Nat.le_of_ble_eq_true rfl, Nat.le_of_ble_eq_true rfl⟩) ⟨pr_blind, va_recv hK hP (ci := 5) (q0 := 12) rfl rfl, pr_pre hP hK hN⟩ rfl rfl hl.1 rfl (lv_room (Nat.le_of_ble_eq_true rfl)) d_Bx_firstShortDay_69 ⟨Nat.le_of_ble_eq_true rfl, Nat.le_of_ble_eq_true rfl⟩)) (fun r er => ?_)
  subst er
  refine hb_ti 0 rfl ?_
  refine lv_i2l hx hb d_Bx_firstShortDay_72 rfl ?_
  refine hb_tl 0 (by decide +kernel) ?_
  refine lv_lsub hx hb d_Bx_firstShortDay_73 ?_
  refine hb_tl 0 (by decide +kernel) ?_
  refine lv_ladd hx hb d_Bx_firstShortDay_74 ?_
  refine hb_tl 0 (by decide +kernel) ?_
  refine lv_lstore (lv' := [(4, .long 0), (6, .int 2800), (7, .int 27), (2, .long 0), (0, .ref (a 12)), (1, .int 0)]) hx hb d_Bx_firstShortDay_75 hl (by decide) rfl (fun ls hl => ?_)
  refine lv_lload hx hb d_Bx_firstShortDay_77 (lv_at hl 0 rfl) ?_
  refine lv_lconst (v := 0) hx hb d_Bx_firstShortDay_79 (by decide +kernel) ?_
  refine W.lcmp hx hb d_Bx_firstShortDay_80 ?_
  refine hb_ti 0 (by decide +kernel) ?_
  refine lv_if_ge (tgt := 87) hx hb d_Bx_firstShortDay_81 (by decide) (fun _ => ?_) (fun h => absurd (by decide +kernel) h)
  refine lv_iinc (v := 28) (lv' := [(7, .int 28), (4, .long 0), (6, .int 2800), (2, .long 0), (0, .ref (a 12)), (1, .int 0)]) hx hb d_Bx_firstShortDay_87 hl (k := 2) rfl (by decide +kernel) (by decide) rfl (fun ls hl => ?_)
  refine lv_goto (tgt := 53) hx hb d_Bx_firstShortDay_90 (by decide) ?_
  refine lv_iload hx hb d_Bx_firstShortDay_53 (lv_at hl 0 rfl) ?_
  refine lv_bipush (v := 40) hx hb d_Bx_firstShortDay_55 (by decide +kernel) ?_
  refine lv_icmp_ge (tgt := 93) hx hb d_Bx_firstShortDay_57 (by decide) (fun h => absurd h (by decide +kernel)) (fun _ => ?_)
  refine lv_iinc (v := 2900) (lv' := [(6, .int 2900), (7, .int 28), (4, .long 0), (2, .long 0), (0, .ref (a 12)), (1, .int 0)]) hx hb d_Bx_firstShortDay_60 hl (k := 2) rfl (by decide +kernel) (by decide) rfl (fun ls hl => ?_)
  refine lv_lload hx hb d_Bx_firstShortDay_63 (lv_at hl 2 rfl) ?_
  refine lv_lload_n hx hb d_Bx_firstShortDay_65 rfl (lv_at hl 3 rfl) ?_
  refine lv_aload_n hx hb d_Bx_firstShortDay_66 rfl (lv_at hl 4 rfl) ?_
  refine lv_iload hx hb d_Bx_firstShortDay_67 (lv_at hl 0 rfl) ?_
  refine vp_callSi (va_Run.run (va_runV (As := [.int 2900]) (rest := [.long 0, .long 0]) ⟨hx, hb, hml, hown, htb⟩ (c_Bx_owedOn l dC dI a k L hL 2900) (cwV 1 htb (gd_V tw_272 tw_273 tw_274 tw_87 tw_271) rfl rfl rfl (by decide +kernel) ⟨Nat.le_of_ble_eq_true rfl, Nat.le_of_ble_eq_true rfl⟩) ⟨pr_blind, va_recv hK hP (ci := 5) (q0 := 12) rfl rfl, pr_pre hP hK hN⟩ rfl rfl hl.1 rfl (lv_room (Nat.le_of_ble_eq_true rfl)) d_Bx_firstShortDay_69 ⟨Nat.le_of_ble_eq_true rfl, Nat.le_of_ble_eq_true rfl⟩)) (fun r er => ?_)
  subst er
  refine hb_ti 0 rfl ?_
  refine lv_i2l hx hb d_Bx_firstShortDay_72 rfl ?_
  refine hb_tl 0 (by decide +kernel) ?_
  refine lv_lsub hx hb d_Bx_firstShortDay_73 ?_
  refine hb_tl 0 (by decide +kernel) ?_
  refine lv_ladd hx hb d_Bx_firstShortDay_74 ?_
  refine hb_tl 0 (by decide +kernel) ?_
  refine lv_lstore (lv' := [(4, .long 0), (6, .int 2900), (7, .int 28), (2, .long 0), (0, .ref (a 12)), (1, .int 0)]) hx hb d_Bx_firstShortDay_75 hl (by decide) rfl (fun ls hl => ?_)
  refine lv_lload hx hb d_Bx_firstShortDay_77 (lv_at hl 0 rfl) ?_
  refine lv_lconst (v := 0) hx hb d_Bx_firstShortDay_79 (by decide +kernel) ?_
  refine W.lcmp hx hb d_Bx_firstShortDay_80 ?_
  refine hb_ti 0 (by decide +kernel) ?_
  refine lv_if_ge (tgt := 87) hx hb d_Bx_firstShortDay_81 (by decide) (fun _ => ?_) (fun h => absurd (by decide +kernel) h)
  refine lv_iinc (v := 29) (lv' := [(7, .int 29), (4, .long 0), (6, .int 2900), (2, .long 0), (0, .ref (a 12)), (1, .int 0)]) hx hb d_Bx_firstShortDay_87 hl (k := 2) rfl (by decide +kernel) (by decide) rfl (fun ls hl => ?_)
  refine lv_goto (tgt := 53) hx hb d_Bx_firstShortDay_90 (by decide) ?_
  refine lv_iload hx hb d_Bx_firstShortDay_53 (lv_at hl 0 rfl) ?_
  refine lv_bipush (v := 40) hx hb d_Bx_firstShortDay_55 (by decide +kernel) ?_
  refine lv_icmp_ge (tgt := 93) hx hb d_Bx_firstShortDay_57 (by decide) (fun h => absurd h (by decide +kernel)) (fun _ => ?_)
  refine lv_iinc (v := 3000) (lv' := [(6, .int 3000), (7, .int 29), (4, .long 0), (2, .long 0), (0, .ref (a 12)), (1, .int 0)]) hx hb d_Bx_firstShortDay_60 hl (k := 2) rfl (by decide +kernel) (by decide) rfl (fun ls hl => ?_)
  refine lv_lload hx hb d_Bx_firstShortDay_63 (lv_at hl 2 rfl) ?_
  refine lv_lload_n hx hb d_Bx_firstShortDay_65 rfl (lv_at hl 3 rfl) ?_
  refine lv_aload_n hx hb d_Bx_firstShortDay_66 rfl (lv_at hl 4 rfl) ?_
  refine lv_iload hx hb d_Bx_firstShortDay_67 (lv_at hl 0 rfl) ?_
  refine vp_callSi (va_Run.run (va_runV (As := [.int 3000]) (rest := [.long 0, .long 0]) ⟨hx, hb, hml, hown, htb⟩ (c_Bx_owedOn l dC dI a k L hL 3000) (cwV 1 htb (gd_V tw_272 tw_273 tw_274 tw_87 tw_271) rfl rfl rfl (by decide +kernel) ⟨Nat.le_of_ble_eq_true rfl, Nat.le_of_ble_eq_true rfl⟩) ⟨pr_blind, va_recv hK hP (ci := 5) (q0 := 12) rfl rfl, pr_pre hP hK hN⟩ rfl rfl hl.1 rfl (lv_room (Nat.le_of_ble_eq_true rfl)) d_Bx_firstShortDay_69 ⟨Nat.le_of_ble_eq_true rfl, Nat.le_of_ble_eq_true rfl⟩)) (fun r er => ?_)
  subst er
  refine hb_ti 0 rfl ?_
  refine lv_i2l hx hb d_Bx_firstShortDay_72 rfl ?_
  refine hb_tl 0 (by decide +kernel) ?_
  refine lv_lsub hx hb d_Bx_firstShortDay_73 ?_
  refine hb_tl 0 (by decide +kernel) ?_
  refine lv_ladd hx hb d_Bx_firstShortDay_74 ?_
  refine hb_tl 0 (by decide +kernel) ?_
  refine lv_lstore (lv' := [(4, .long 0), (6, .int 3000), (7, .int 29), (2, .long 0), (0, .ref (a 12)), (1, .int 0)]) hx hb d_Bx_firstShortDay_75 hl (by decide) rfl (fun ls hl => ?_)
  refine lv_lload hx hb d_Bx_firstShortDay_77 (lv_at hl 0 rfl) ?_
  refine lv_lconst (v := 0) hx hb d_Bx_firstShortDay_79 (by decide +kernel) ?_
  refine W.lcmp hx hb d_Bx_firstShortDay_80 ?_
  refine hb_ti 0 (by decide +kernel) ?_
  refine lv_if_ge (tgt := 87) hx hb d_Bx_firstShortDay_81 (by decide) (fun _ => ?_) (fun h => absurd (by decide +kernel) h)
  refine lv_iinc (v := 30) (lv' := [(7, .int 30), (4, .long 0), (6, .int 3000), (2, .long 0), (0, .ref (a 12)), (1, .int 0)]) hx hb d_Bx_firstShortDay_87 hl (k := 2) rfl (by decide +kernel) (by decide) rfl (fun ls hl => ?_)
  refine lv_goto (tgt := 53) hx hb d_Bx_firstShortDay_90 (by decide) ?_
  refine lv_iload hx hb d_Bx_firstShortDay_53 (lv_at hl 0 rfl) ?_
  refine lv_bipush (v := 40) hx hb d_Bx_firstShortDay_55 (by decide +kernel) ?_
  refine lv_icmp_ge (tgt := 93) hx hb d_Bx_firstShortDay_57 (by decide) (fun h => absurd h (by decide +kernel)) (fun _ => ?_)
  refine lv_iinc (v := 3100) (lv' := [(6, .int 3100), (7, .int 30), (4, .long 0), (2, .long 0), (0, .ref (a 12)), (1, .int 0)]) hx hb d_Bx_firstShortDay_60 hl (k := 2) rfl (by decide +kernel) (by decide) rfl (fun ls hl => ?_)
  refine lv_lload hx hb d_Bx_firstShortDay_63 (lv_at hl 2 rfl) ?_
  refine lv_lload_n hx hb d_Bx_firstShortDay_65 rfl (lv_at hl 3 rfl) ?_
  refine lv_aload_n hx hb d_Bx_firstShortDay_66 rfl (lv_at hl 4 rfl) ?_
  refine lv_iload hx hb d_Bx_firstShortDay_67 (lv_at hl 0 rfl) ?_
  refine vp_callSi (va_Run.run (va_runV (As := [.int 3100]) (rest := [.long 0, .long 0]) ⟨hx, hb, hml, hown, htb⟩ (c_Bx_owedOn l dC dI a k L hL 3100) (cwV 1 htb (gd_V tw_272 tw_273 tw_274 tw_87 tw_271) rfl rfl rfl (by decide +kernel) ⟨Nat.le_of_ble_eq_true rfl, Nat.le_of_ble_eq_true rfl⟩) ⟨pr_blind, va_recv hK hP (ci := 5) (q0 := 12) rfl rfl, pr_pre hP hK hN⟩ rfl rfl hl.1 rfl (lv_room (Nat.le_of_ble_eq_true rfl)) d_Bx_firstShortDay_69 ⟨Nat.le_of_ble_eq_true rfl, Nat.le_of_ble_eq_true rfl⟩)) (fun r er => ?_)
  subst er
  refine hb_ti 0 rfl ?_
  refine lv_i2l hx hb d_Bx_firstShortDay_72 rfl ?_
  refine hb_tl 0 (by decide +kernel) ?_
  refine lv_lsub hx hb d_Bx_firstShortDay_73 ?_
  refine hb_tl 0 (by decide +kernel) ?_
  refine lv_ladd hx hb d_Bx_firstShortDay_74 ?_
  refine hb_tl 0 (by decide +kernel) ?_
  refine lv_lstore (lv' := [(4, .long 0), (6, .int 3100), (7, .int 30), (2, .long 0), (0, .ref (a 12)), (1, .int 0)]) hx hb d_Bx_firstShortDay_75 hl (by decide) rfl (fun ls hl => ?_)
  refine lv_lload hx hb d_Bx_firstShortDay_77 (lv_at hl 0 rfl) ?_
  refine lv_lconst (v := 0) hx hb d_Bx_firstShortDay_79 (by decide +kernel) ?_
  refine W.lcmp hx hb d_Bx_firstShortDay_80 ?_
  refine hb_ti 0 (by decide +kernel) ?_
  refine lv_if_ge (tgt := 87) hx hb d_Bx_firstShortDay_81 (by decide) (fun _ => ?_) (fun h => absurd (by decide +kernel) h)
  refine lv_iinc (v := 31) (lv' := [(7, .int 31), (4, .long 0), (6, .int 3100), (2, .long 0), (0, .ref (a 12)), (1, .int 0)]) hx hb d_Bx_firstShortDay_87 hl (k := 2) rfl (by decide +kernel) (by decide) rfl (fun ls hl => ?_)
  refine lv_goto (tgt := 53) hx hb d_Bx_firstShortDay_90 (by decide) ?_
  refine lv_iload hx hb d_Bx_firstShortDay_53 (lv_at hl 0 rfl) ?_
  refine lv_bipush (v := 40) hx hb d_Bx_firstShortDay_55 (by decide +kernel) ?_
  refine lv_icmp_ge (tgt := 93) hx hb d_Bx_firstShortDay_57 (by decide) (fun h => absurd h (by decide +kernel)) (fun _ => ?_)
  refine lv_iinc (v := 3200) (lv' := [(6, .int 3200), (7, .int 31), (4, .long 0), (2, .long 0), (0, .ref (a 12)), (1, .int 0)]) hx hb d_Bx_firstShortDay_60 hl (k := 2) rfl (by decide +kernel) (by decide) rfl (fun ls hl => ?_)
  refine lv_lload hx hb d_Bx_firstShortDay_63 (lv_at hl 2 rfl) ?_
  refine lv_lload_n hx hb d_Bx_firstShortDay_65 rfl (lv_at hl 3 rfl) ?_
  refine lv_aload_n hx hb d_Bx_firstShortDay_66 rfl (lv_at hl 4 rfl) ?_
  refine lv_iload hx hb d_Bx_firstShortDay_67 (lv_at hl 0 rfl) ?_
  refine vp_callSi (va_Run.run (va_runV (As := [.int 3200]) (rest := [.long 0, .long 0]) ⟨hx, hb, hml, hown, htb⟩ (c_Bx_owedOn l dC dI a k L hL 3200) (cwV 1 htb (gd_V tw_272 tw_273 tw_274 tw_87 tw_271) rfl rfl rfl (by decide +kernel) ⟨Nat.le_of_ble_eq_true rfl, Nat.le_of_ble_eq_true rfl⟩) ⟨pr_blind, va_recv hK hP (ci := 5) (q0 := 12) rfl rfl, pr_pre hP hK hN⟩ rfl rfl hl.1 rfl (lv_room (Nat.le_of_ble_eq_true rfl)) d_Bx_firstShortDay_69 ⟨Nat.le_of_ble_eq_true rfl, Nat.le_of_ble_eq_true rfl⟩)) (fun r er => ?_)
  subst er
  refine hb_ti 0 rfl ?_
  refine lv_i2l hx hb d_Bx_firstShortDay_72 rfl ?_
  refine hb_tl 0 (by decide +kernel) ?_
  refine lv_lsub hx hb d_Bx_firstShortDay_73 ?_
  refine hb_tl 0 (by decide +kernel) ?_
  refine lv_ladd hx hb d_Bx_firstShortDay_74 ?_
  refine hb_tl 0 (by decide +kernel) ?_
  refine lv_lstore (lv' := [(4, .long 0), (6, .int 3200), (7, .int 31), (2, .long 0), (0, .ref (a 12)), (1, .int 0)]) hx hb d_Bx_firstShortDay_75 hl (by decide) rfl (fun ls hl => ?_)
  refine lv_lload hx hb d_Bx_firstShortDay_77 (lv_at hl 0 rfl) ?_
  refine lv_lconst (v := 0) hx hb d_Bx_firstShortDay_79 (by decide +kernel) ?_
  refine W.lcmp hx hb d_Bx_firstShortDay_80 ?_
  refine hb_ti 0 (by decide +kernel) ?_
  refine lv_if_ge (tgt := 87) hx hb d_Bx_firstShortDay_81 (by decide) (fun _ => ?_) (fun h => absurd (by decide +kernel) h)
  refine lv_iinc (v := 32) (lv' := [(7, .int 32), (4, .long 0), (6, .int 3200), (2, .long 0), (0, .ref (a 12)), (1, .int 0)]) hx hb d_Bx_firstShortDay_87 hl (k := 2) rfl (by decide +kernel) (by decide) rfl (fun ls hl => ?_)
  refine lv_goto (tgt := 53) hx hb d_Bx_firstShortDay_90 (by decide) ?_
  refine lv_iload hx hb d_Bx_firstShortDay_53 (lv_at hl 0 rfl) ?_
  refine lv_bipush (v := 40) hx hb d_Bx_firstShortDay_55 (by decide +kernel) ?_
  refine lv_icmp_ge (tgt := 93) hx hb d_Bx_firstShortDay_57 (by decide) (fun h => absurd h (by decide +kernel)) (fun _ => ?_)
  refine lv_iinc (v := 3300) (lv' := [(6, .int 3300), (7, .int 32), (4, .long 0), (2, .long 0), (0, .ref (a 12)), (1, .int 0)]) hx hb d_Bx_firstShortDay_60 hl (k := 2) rfl (by decide +kernel) (by decide) rfl (fun ls hl => ?_)
  refine lv_lload hx hb d_Bx_firstShortDay_63 (lv_at hl 2 rfl) ?_
  refine lv_lload_n hx hb d_Bx_firstShortDay_65 rfl (lv_at hl 3 rfl) ?_
  refine lv_aload_n hx hb d_Bx_firstShortDay_66 rfl (lv_at hl 4 rfl) ?_
  refine lv_iload hx hb d_Bx_firstShortDay_67 (lv_at hl 0 rfl) ?_
  refine vp_callSi (va_Run.run (va_runV (As := [.int 3300]) (rest := [.long 0, .long 0]) ⟨hx, hb, hml, hown, htb⟩ (c_Bx_owedOn l dC dI a k L hL 3300) (cwV 1 htb (gd_V tw_272 tw_273 tw_274 tw_87 tw_271) rfl rfl rfl (by decide +kernel) ⟨Nat.le_of_ble_eq_true rfl, Nat.le_of_ble_eq_true rfl⟩) ⟨pr_blind, va_recv hK hP (ci := 5) (q0 := 12) rfl rfl, pr_pre hP hK hN⟩ rfl rfl hl.1 rfl (lv_room (Nat.le_of_ble_eq_true rfl)) d_Bx_firstShortDay_69 ⟨Nat.le_of_ble_eq_true rfl, Nat.le_of_ble_eq_true rfl⟩)) (fun r er => ?_)
  subst er
  refine hb_ti 0 rfl ?_
  refine lv_i2l hx hb d_Bx_firstShortDay_72 rfl ?_
  refine hb_tl 0 (by decide +kernel) ?_
  refine lv_lsub hx hb d_Bx_firstShortDay_73 ?_
  refine hb_tl 0 (by decide +kernel) ?_
  refine lv_ladd hx hb d_Bx_firstShortDay_74 ?_
  refine hb_tl 0 (by decide +kernel) ?_
  refine lv_lstore (lv' := [(4, .long 0), (6, .int 3300), (7, .int 32), (2, .long 0), (0, .ref (a 12)), (1, .int 0)]) hx hb d_Bx_firstShortDay_75 hl (by decide) rfl (fun ls hl => ?_)
  refine lv_lload hx hb d_Bx_firstShortDay_77 (lv_at hl 0 rfl) ?_
  refine lv_lconst (v := 0) hx hb d_Bx_firstShortDay_79 (by decide +kernel) ?_
  refine W.lcmp hx hb d_Bx_firstShortDay_80 ?_
  refine hb_ti 0 (by decide +kernel) ?_
  refine lv_if_ge (tgt := 87) hx hb d_Bx_firstShortDay_81 (by decide) (fun _ => ?_) (fun h => absurd (by decide +kernel) h)
  refine lv_iinc (v := 33) (lv' := [(7, .int 33), (4, .long 0), (6, .int 3300), (2, .long 0), (0, .ref (a 12)), (1, .int 0)]) hx hb d_Bx_firstShortDay_87 hl (k := 2) rfl (by decide +kernel) (by decide) rfl (fun ls hl => ?_)
  refine lv_goto (tgt := 53) hx hb d_Bx_firstShortDay_90 (by decide) ?_
  refine lv_iload hx hb d_Bx_firstShortDay_53 (lv_at hl 0 rfl) ?_
  refine lv_bipush (v := 40) hx hb d_Bx_firstShortDay_55 (by decide +kernel) ?_
  refine lv_icmp_ge (tgt := 93) hx hb d_Bx_firstShortDay_57 (by decide) (fun h => absurd h (by decide +kernel)) (fun _ => ?_)
  refine lv_iinc (v := 3400) (lv' := [(6, .int 3400), (7, .int 33), (4, .long 0), (2, .long 0), (0, .ref (a 12)), (1, .int 0)]) hx hb d_Bx_firstShortDay_60 hl (k := 2) rfl (by decide +kernel) (by decide) rfl (fun ls hl => ?_)
  refine lv_lload hx hb d_Bx_firstShortDay_63 (lv_at hl 2 rfl) ?_
  refine lv_lload_n hx hb d_Bx_firstShortDay_65 rfl (lv_at hl 3 rfl) ?_
  refine lv_aload_n hx hb d_Bx_firstShortDay_66 rfl (lv_at hl 4 rfl) ?_
  refine lv_iload hx hb d_Bx_firstShortDay_67 (lv_at hl 0 rfl) ?_
  refine vp_callSi (va_Run.run (va_runV (As := [.int 3400]) (rest := [.long 0, .long 0]) ⟨hx, hb, hml, hown, htb⟩ (c_Bx_owedOn l dC dI a k L hL 3400) (cwV 1 htb (gd_V tw_272 tw_273 tw_274 tw_87 tw_271) rfl rfl rfl (by decide +kernel) ⟨Nat.le_of_ble_eq_true rfl, Nat.le_of_ble_eq_true rfl⟩) ⟨pr_blind, va_recv hK hP (ci := 5) (q0 := 12) rfl rfl, pr_pre hP hK hN⟩ rfl rfl hl.1 rfl (lv_room (Nat.le_of_ble_eq_true rfl)) d_Bx_firstShortDay_69 ⟨Nat.le_of_ble_eq_true rfl, Nat.le_of_ble_eq_true rfl⟩)) (fun r er => ?_)
  subst er
  refine hb_ti 0 rfl ?_
  refine lv_i2l hx hb d_Bx_firstShortDay_72 rfl ?_
  refine hb_tl 0 (by decide +kernel) ?_
  refine lv_lsub hx hb d_Bx_firstShortDay_73 ?_
  refine hb_tl 0 (by decide +kernel) ?_
  refine lv_ladd hx hb d_Bx_firstShortDay_74 ?_
  refine hb_tl 0 (by decide +kernel) ?_
  refine lv_lstore (lv' := [(4, .long 0), (6, .int 3400), (7, .int 33), (2, .long 0), (0, .ref (a 12)), (1, .int 0)]) hx hb d_Bx_firstShortDay_75 hl (by decide) rfl (fun ls hl => ?_)
  refine lv_lload hx hb d_Bx_firstShortDay_77 (lv_at hl 0 rfl) ?_
  refine lv_lconst (v := 0) hx hb d_Bx_firstShortDay_79 (by decide +kernel) ?_
  refine W.lcmp hx hb d_Bx_firstShortDay_80 ?_
  refine hb_ti 0 (by decide +kernel) ?_
  refine lv_if_ge (tgt := 87) hx hb d_Bx_firstShortDay_81 (by decide) (fun _ => ?_) (fun h => absurd (by decide +kernel) h)
  refine lv_iinc (v := 34) (lv' := [(7, .int 34), (4, .long 0), (6, .int 3400), (2, .long 0), (0, .ref (a 12)), (1, .int 0)]) hx hb d_Bx_firstShortDay_87 hl (k := 2) rfl (by decide +kernel) (by decide) rfl (fun ls hl => ?_)
  refine lv_goto (tgt := 53) hx hb d_Bx_firstShortDay_90 (by decide) ?_
  refine lv_iload hx hb d_Bx_firstShortDay_53 (lv_at hl 0 rfl) ?_
  refine lv_bipush (v := 40) hx hb d_Bx_firstShortDay_55 (by decide +kernel) ?_
  refine lv_icmp_ge (tgt := 93) hx hb d_Bx_firstShortDay_57 (by decide) (fun h => absurd h (by decide +kernel)) (fun _ => ?_)
  refine lv_iinc (v := 3500) (lv' := [(6, .int 3500), (7, .int 34), (4, .long 0), (2, .long 0), (0, .ref (a 12)), (1, .int 0)]) hx hb d_Bx_firstShortDay_60 hl (k := 2) rfl (by decide +kernel) (by decide) rfl (fun ls hl => ?_)
  refine lv_lload hx hb d_Bx_firstShortDay_63 (lv_at hl 2 rfl) ?_
  refine lv_lload_n hx hb d_Bx_firstShortDay_65 rfl (lv_at hl 3 rfl) ?_
  refine lv_aload_n hx hb d_Bx_firstShortDay_66 rfl (lv_at hl 4 rfl) ?_
  refine lv_iload hx hb d_Bx_firstShortDay_67 (lv_at hl 0 rfl) ?_
  refine vp_callSi (va_Run.run (va_runV (As := [.int 3500]) (rest := [.long 0, .long 0]) ⟨hx, hb, hml, hown, htb⟩ (c_Bx_owedOn l dC dI a k L hL 3500) (cwV 1 htb (gd_V tw_272 tw_273 tw_274 tw_87 tw_271) rfl rfl rfl (by decide +kernel) ⟨Nat.le_of_ble_eq_true rfl, Nat.le_of_ble_eq_true rfl⟩) ⟨pr_blind, va_recv hK hP (ci := 5) (q0 := 12) rfl rfl, pr_pre hP hK hN⟩ rfl rfl hl.1 rfl (lv_room (Nat.le_of_ble_eq_true rfl)) d_Bx_firstShortDay_69 ⟨Nat.le_of_ble_eq_true rfl, Nat.le_of_ble_eq_true rfl⟩)) (fun r er => ?_)
  subst er
  refine hb_ti 0 rfl ?_
  refine lv_i2l hx hb d_Bx_firstShortDay_72 rfl ?_
  refine hb_tl 0 (by decide +kernel) ?_
  refine lv_lsub hx hb d_Bx_firstShortDay_73 ?_
  refine hb_tl 0 (by decide +kernel) ?_
  refine lv_ladd hx hb d_Bx_firstShortDay_74 ?_
  refine hb_tl 0 (by decide +kernel) ?_
  refine lv_lstore (lv' := [(4, .long 0), (6, .int 3500), (7, .int 34), (2, .long 0), (0, .ref (a 12)), (1, .int 0)]) hx hb d_Bx_firstShortDay_75 hl (by decide) rfl (fun ls hl => ?_)
  refine lv_lload hx hb d_Bx_firstShortDay_77 (lv_at hl 0 rfl) ?_
  refine lv_lconst (v := 0) hx hb d_Bx_firstShortDay_79 (by decide +kernel) ?_
  refine W.lcmp hx hb d_Bx_firstShortDay_80 ?_
  refine hb_ti 0 (by decide +kernel) ?_
  refine lv_if_ge (tgt := 87) hx hb d_Bx_firstShortDay_81 (by decide) (fun _ => ?_) (fun h => absurd (by decide +kernel) h)
  refine lv_iinc (v := 35) (lv' := [(7, .int 35), (4, .long 0), (6, .int 3500), (2, .long 0), (0, .ref (a 12)), (1, .int 0)]) hx hb d_Bx_firstShortDay_87 hl (k := 2) rfl (by decide +kernel) (by decide) rfl (fun ls hl => ?_)
  refine lv_goto (tgt := 53) hx hb d_Bx_firstShortDay_90 (by decide) ?_
  refine lv_iload hx hb d_Bx_firstShortDay_53 (lv_at hl 0 rfl) ?_
  refine lv_bipush (v := 40) hx hb d_Bx_firstShortDay_55 (by decide +kernel) ?_
  refine lv_icmp_ge (tgt := 93) hx hb d_Bx_firstShortDay_57 (by decide) (fun h => absurd h (by decide +kernel)) (fun _ => ?_)
  refine lv_iinc (v := 3600) (lv' := [(6, .int 3600), (7, .int 35), (4, .long 0), (2, .long 0), (0, .ref (a 12)), (1, .int 0)]) hx hb d_Bx_firstShortDay_60 hl (k := 2) rfl (by decide +kernel) (by decide) rfl (fun ls hl => ?_)
  refine lv_lload hx hb d_Bx_firstShortDay_63 (lv_at hl 2 rfl) ?_
  refine lv_lload_n hx hb d_Bx_firstShortDay_65 rfl (lv_at hl 3 rfl) ?_
  refine lv_aload_n hx hb d_Bx_firstShortDay_66 rfl (lv_at hl 4 rfl) ?_
  refine lv_iload hx hb d_Bx_firstShortDay_67 (lv_at hl 0 rfl) ?_
  refine vp_callSi (va_Run.run (va_runV (As := [.int 3600]) (rest := [.long 0, .long 0]) ⟨hx, hb, hml, hown, htb⟩ (c_Bx_owedOn l dC dI a k L hL 3600) (cwV 1 htb (gd_V tw_272 tw_273 tw_274 tw_87 tw_271) rfl rfl rfl (by decide +kernel) ⟨Nat.le_of_ble_eq_true rfl, Nat.le_of_ble_eq_true rfl⟩) ⟨pr_blind, va_recv hK hP (ci := 5) (q0 := 12) rfl rfl, pr_pre hP hK hN⟩ rfl rfl hl.1 rfl (lv_room (Nat.le_of_ble_eq_true rfl)) d_Bx_firstShortDay_69 ⟨Nat.le_of_ble_eq_true rfl, Nat.le_of_ble_eq_true rfl⟩)) (fun r er => ?_)
  subst er
  refine hb_ti 0 rfl ?_
  refine lv_i2l hx hb d_Bx_firstShortDay_72 rfl ?_
  refine hb_tl 0 (by decide +kernel) ?_
  refine lv_lsub hx hb d_Bx_firstShortDay_73 ?_
  refine hb_tl 0 (by decide +kernel) ?_
  refine lv_ladd hx hb d_Bx_firstShortDay_74 ?_
  refine hb_tl 0 (by decide +kernel) ?_
  refine lv_lstore (lv' := [(4, .long 0), (6, .int 3600), (7, .int 35), (2, .long 0), (0, .ref (a 12)), (1, .int 0)]) hx hb d_Bx_firstShortDay_75 hl (by decide) rfl (fun ls hl => ?_)
  refine lv_lload hx hb d_Bx_firstShortDay_77 (lv_at hl 0 rfl) ?_
  refine lv_lconst (v := 0) hx hb d_Bx_firstShortDay_79 (by decide +kernel) ?_
  refine W.lcmp hx hb d_Bx_firstShortDay_80 ?_
  refine hb_ti 0 (by decide +kernel) ?_
  refine lv_if_ge (tgt := 87) hx hb d_Bx_firstShortDay_81 (by decide) (fun _ => ?_) (fun h => absurd (by decide +kernel) h)
  refine lv_iinc (v := 36) (lv' := [(7, .int 36), (4, .long 0), (6, .int 3600), (2, .long 0), (0, .ref (a 12)), (1, .int 0)]) hx hb d_Bx_firstShortDay_87 hl (k := 2) rfl (by decide +kernel) (by decide) rfl (fun ls hl => ?_)
  refine lv_goto (tgt := 53) hx hb d_Bx_firstShortDay_90 (by decide) ?_
  refine lv_iload hx hb d_Bx_firstShortDay_53 (lv_at hl 0 rfl) ?_
  refine lv_bipush (v := 40) hx hb d_Bx_firstShortDay_55 (by decide +kernel) ?_
  refine lv_icmp_ge (tgt := 93) hx hb d_Bx_firstShortDay_57 (by decide) (fun h => absurd h (by decide +kernel)) (fun _ => ?_)
  refine lv_iinc (v := 3700) (lv' := [(6, .int 3700), (7, .int 36), (4, .long 0), (2, .long 0), (0, .ref (a 12)), (1, .int 0)]) hx hb d_Bx_firstShortDay_60 hl (k := 2) rfl (by decide +kernel) (by decide) rfl (fun ls hl => ?_)
  refine lv_lload hx hb d_Bx_firstShortDay_63 (lv_at hl 2 rfl) ?_
  refine lv_lload_n hx hb d_Bx_firstShortDay_65 rfl (lv_at hl 3 rfl) ?_
  refine lv_aload_n hx hb d_Bx_firstShortDay_66 rfl (lv_at hl 4 rfl) ?_
  refine lv_iload hx hb d_Bx_firstShortDay_67 (lv_at hl 0 rfl) ?_
  refine vp_callSi (va_Run.run (va_runV (As := [.int 3700]) (rest := [.long 0, .long 0]) ⟨hx, hb, hml, hown, htb⟩ (c_Bx_owedOn l dC dI a k L hL 3700) (cwV 1 htb (gd_V tw_272 tw_273 tw_274 tw_87 tw_271) rfl rfl rfl (by decide +kernel) ⟨Nat.le_of_ble_eq_true rfl, Nat.le_of_ble_eq_true rfl⟩) ⟨pr_blind, va_recv hK hP (ci := 5) (q0 := 12) rfl rfl, pr_pre hP hK hN⟩ rfl rfl hl.1 rfl (lv_room (Nat.le_of_ble_eq_true rfl)) d_Bx_firstShortDay_69 ⟨Nat.le_of_ble_eq_true rfl, Nat.le_of_ble_eq_true rfl⟩)) (fun r er => ?_)
  subst er
  refine hb_ti 0 rfl ?_
  refine lv_i2l hx hb d_Bx_firstShortDay_72 rfl ?_
  refine hb_tl 0 (by decide +kernel) ?_
  refine lv_lsub hx hb d_Bx_firstShortDay_73 ?_
  refine hb_tl 0 (by decide +kernel) ?_
  refine lv_ladd hx hb d_Bx_firstShortDay_74 ?_
  refine hb_tl 0 (by decide +kernel) ?_
  refine lv_lstore (lv' := [(4, .long 0), (6, .int 3700), (7, .int 36), (2, .long 0), (0, .ref (a 12)), (1, .int 0)]) hx hb d_Bx_firstShortDay_75 hl (by decide) rfl (fun ls hl => ?_)
  refine lv_lload hx hb d_Bx_firstShortDay_77 (lv_at hl 0 rfl) ?_
  refine lv_lconst (v := 0) hx hb d_Bx_firstShortDay_79 (by decide +kernel) ?_
  refine W.lcmp hx hb d_Bx_firstShortDay_80 ?_
  refine hb_ti 0 (by decide +kernel) ?_
  refine lv_if_ge (tgt := 87) hx hb d_Bx_firstShortDay_81 (by decide) (fun _ => ?_) (fun h => absurd (by decide +kernel) h)
  refine lv_iinc (v := 37) (lv' := [(7, .int 37), (4, .long 0), (6, .int 3700), (2, .long 0), (0, .ref (a 12)), (1, .int 0)]) hx hb d_Bx_firstShortDay_87 hl (k := 2) rfl (by decide +kernel) (by decide) rfl (fun ls hl => ?_)
  refine lv_goto (tgt := 53) hx hb d_Bx_firstShortDay_90 (by decide) ?_
  refine lv_iload hx hb d_Bx_firstShortDay_53 (lv_at hl 0 rfl) ?_
  refine lv_bipush (v := 40) hx hb d_Bx_firstShortDay_55 (by decide +kernel) ?_
  refine lv_icmp_ge (tgt := 93) hx hb d_Bx_firstShortDay_57 (by decide) (fun h => absurd h (by decide +kernel)) (fun _ => ?_)
  refine lv_iinc (v := 3800) (lv' := [(6, .int 3800), (7, .int 37), (4, .long 0), (2, .long 0), (0, .ref (a 12)), (1, .int 0)]) hx hb d_Bx_firstShortDay_60 hl (k := 2) rfl (by decide +kernel) (by decide) rfl (fun ls hl => ?_)
  refine lv_lload hx hb d_Bx_firstShortDay_63 (lv_at hl 2 rfl) ?_
  refine lv_lload_n hx hb d_Bx_firstShortDay_65 rfl (lv_at hl 3 rfl) ?_
  refine lv_aload_n hx hb d_Bx_firstShortDay_66 rfl (lv_at hl 4 rfl) ?_
  refine lv_iload hx hb d_Bx_firstShortDay_67 (lv_at hl 0 rfl) ?_
  refine vp_callSi (va_Run.run (va_runV (As := [.int 3800]) (rest := [.long 0, .long 0]) ⟨hx, hb, hml, hown, htb⟩ (c_Bx_owedOn l dC dI a k L hL 3800) (cwV 1 htb (gd_V tw_272 tw_273 tw_274 tw_87 tw_271) rfl rfl rfl (by decide +kernel) ⟨Nat.le_of_ble_eq_true rfl, Nat.le_of_ble_eq_true rfl⟩) ⟨pr_blind, va_recv hK hP (ci := 5) (q0 := 12) rfl rfl, pr_pre hP hK hN⟩ rfl rfl hl.1 rfl (lv_room (Nat.le_of_ble_eq_true rfl)) d_Bx_firstShortDay_69 ⟨Nat.le_of_ble_eq_true rfl, Nat.le_of_ble_eq_true rfl⟩)) (fun r er => ?_)
  subst er
  refine hb_ti 0 rfl ?_
  refine lv_i2l hx hb d_Bx_firstShortDay_72 rfl ?_
  refine hb_tl 0 (by decide +kernel) ?_
  refine lv_lsub hx hb d_Bx_firstShortDay_73 ?_
  refine hb_tl 0 (by decide +kernel) ?_
  refine lv_ladd hx hb d_Bx_firstShortDay_74 ?_
  refine hb_tl 0 (by decide +kernel) ?_
  refine lv_lstore (lv' := [(4, .long 0), (6, .int 3800), (7, .int 37), (2, .long 0), (0, .ref (a 12)), (1, .int 0)]) hx hb d_Bx_firstShortDay_75 hl (by decide) rfl (fun ls hl => ?_)
  refine lv_lload hx hb d_Bx_firstShortDay_77 (lv_at hl 0 rfl) ?_
  refine lv_lconst (v := 0) hx hb d_Bx_firstShortDay_79 (by decide +kernel) ?_
  refine W.lcmp hx hb d_Bx_firstShortDay_80 ?_
  refine hb_ti 0 (by decide +kernel) ?_
  refine lv_if_ge (tgt := 87) hx hb d_Bx_firstShortDay_81 (by decide) (fun _ => ?_) (fun h => absurd (by decide +kernel) h)
  refine lv_iinc (v := 38) (lv' := [(7, .int 38), (4, .long 0), (6, .int 3800), (2, .long 0), (0, .ref (a 12)), (1, .int 0)]) hx hb d_Bx_firstShortDay_87 hl (k := 2) rfl (by decide +kernel) (by decide) rfl (fun ls hl => ?_)
  refine lv_goto (tgt := 53) hx hb d_Bx_firstShortDay_90 (by decide) ?_
  refine lv_iload hx hb d_Bx_firstShortDay_53 (lv_at hl 0 rfl) ?_
  refine lv_bipush (v := 40) hx hb d_Bx_firstShortDay_55 (by decide +kernel) ?_
  refine lv_icmp_ge (tgt := 93) hx hb d_Bx_firstShortDay_57 (by decide) (fun h => absurd h (by decide +kernel)) (fun _ => ?_)
  refine lv_iinc (v := 3900) (lv' := [(6, .int 3900), (7, .int 38), (4, .long 0), (2, .long 0), (0, .ref (a 12)), (1, .int 0)]) hx hb d_Bx_firstShortDay_60 hl (k := 2) rfl (by decide +kernel) (by decide) rfl (fun ls hl => ?_)
  refine lv_lload hx hb d_Bx_firstShortDay_63 (lv_at hl 2 rfl) ?_
  refine lv_lload_n hx hb d_Bx_firstShortDay_65 rfl (lv_at hl 3 rfl) ?_
  refine lv_aload_n hx hb d_Bx_firstShortDay_66 rfl (lv_at hl 4 rfl) ?_
  refine lv_iload hx hb d_Bx_firstShortDay_67 (lv_at hl 0 rfl) ?_
  refine vp_callSi (va_Run.run (va_runV (As := [.int 3900]) (rest := [.long 0, .long 0]) ⟨hx, hb, hml, hown, htb⟩ (c_Bx_owedOn l dC dI a k L hL 3900) (cwV 1 htb (gd_V tw_272 tw_273 tw_274 tw_87 tw_271) rfl rfl rfl (by decide +kernel) ⟨Nat.le_of_ble_eq_true rfl, Nat.le_of_ble_eq_true rfl⟩) ⟨pr_blind, va_recv hK hP (ci := 5) (q0 := 12) rfl rfl, pr_pre hP hK hN⟩ rfl rfl hl.1 rfl (lv_room (Nat.le_of_ble_eq_true rfl)) d_Bx_firstShortDay_69 ⟨Nat.le_of_ble_eq_true rfl, Nat.le_of_ble_eq_true rfl⟩)) (fun r er => ?_)
  subst er
  refine hb_ti 0 rfl ?_
  refine lv_i2l hx hb d_Bx_firstShortDay_72 rfl ?_
  refine hb_tl 0 (by decide +kernel) ?_
  refine lv_lsub hx hb d_Bx_firstShortDay_73 ?_
  refine hb_tl 0 (by decide +kernel) ?_
  refine lv_ladd hx hb d_Bx_firstShortDay_74 ?_
  refine hb_tl 0 (by decide +kernel) ?_
  refine lv_lstore (lv' := [(4, .long 0), (6, .int 3900), (7, .int 38), (2, .long 0), (0, .ref (a 12)), (1, .int 0)]) hx hb d_Bx_firstShortDay_75 hl (by decide) rfl (fun ls hl => ?_)
  refine lv_lload hx hb d_Bx_firstShortDay_77 (lv_at hl 0 rfl) ?_
  refine lv_lconst (v := 0) hx hb d_Bx_firstShortDay_79 (by decide +kernel) ?_
  refine W.lcmp hx hb d_Bx_firstShortDay_80 ?_
  refine hb_ti 0 (by decide +kernel) ?_
  refine lv_if_ge (tgt := 87) hx hb d_Bx_firstShortDay_81 (by decide) (fun _ => ?_) (fun h => absurd (by decide +kernel) h)
  refine lv_iinc (v := 39) (lv' := [(7, .int 39), (4, .long 0), (6, .int 3900), (2, .long 0), (0, .ref (a 12)), (1, .int 0)]) hx hb d_Bx_firstShortDay_87 hl (k := 2) rfl (by decide +kernel) (by decide) rfl (fun ls hl => ?_)
  refine lv_goto (tgt := 53) hx hb d_Bx_firstShortDay_90 (by decide) ?_
  refine lv_iload hx hb d_Bx_firstShortDay_53 (lv_at hl 0 rfl) ?_
  refine lv_bipush (v := 40) hx hb d_Bx_firstShortDay_55 (by decide +kernel) ?_
  refine lv_icmp_ge (tgt := 93) hx hb d_Bx_firstShortDay_57 (by decide) (fun h => absurd h (by decide +kernel)) (fun _ => ?_)
  refine lv_iinc (v := 4000) (lv' := [(6, .int 4000), (7, .int 39), (4, .long 0), (2, .long 0), (0, .ref (a 12)), (1, .int 0)]) hx hb d_Bx_firstShortDay_60 hl (k := 2) rfl (by decide +kernel) (by decide) rfl (fun ls hl => ?_)
  refine lv_lload hx hb d_Bx_firstShortDay_63 (lv_at hl 2 rfl) ?_
  refine lv_lload_n hx hb d_Bx_firstShortDay_65 rfl (lv_at hl 3 rfl) ?_
  refine lv_aload_n hx hb d_Bx_firstShortDay_66 rfl (lv_at hl 4 rfl) ?_
  refine lv_iload hx hb d_Bx_firstShortDay_67 (lv_at hl 0 rfl) ?_
  refine vp_callSi (va_Run.run (va_runV (As := [.int 4000]) (rest := [.long 0, .long 0]) ⟨hx, hb, hml, hown, htb⟩ (c_Bx_owedOn l dC dI a k L hL 4000) (cwV 1 htb (gd_V tw_272 tw_273 tw_274 tw_87 tw_271) rfl rfl rfl (by decide +kernel) ⟨Nat.le_of_ble_eq_true rfl, Nat.le_of_ble_eq_true rfl⟩) ⟨pr_blind, va_recv hK hP (ci := 5) (q0 := 12) rfl rfl, pr_pre hP hK hN⟩ rfl rfl hl.1 rfl (lv_room (Nat.le_of_ble_eq_true rfl)) d_Bx_firstShortDay_69 ⟨Nat.le_of_ble_eq_true rfl, Nat.le_of_ble_eq_true rfl⟩)) (fun r er => ?_)
  subst er
  refine hb_ti 0 rfl ?_
  refine lv_i2l hx hb d_Bx_firstShortDay_72 rfl ?_
  refine hb_tl 0 (by decide +kernel) ?_
  refine lv_lsub hx hb d_Bx_firstShortDay_73 ?_
  refine hb_tl 0 (by decide +kernel) ?_
  refine lv_ladd hx hb d_Bx_firstShortDay_74 ?_
  refine hb_tl 0 (by decide +kernel) ?_
  refine lv_lstore (lv' := [(4, .long 0), (6, .int 4000), (7, .int 39), (2, .long 0), (0, .ref (a 12)), (1, .int 0)]) hx hb d_Bx_firstShortDay_75 hl (by decide) rfl (fun ls hl => ?_)
  refine lv_lload hx hb d_Bx_firstShortDay_77 (lv_at hl 0 rfl) ?_
  refine lv_lconst (v := 0) hx hb d_Bx_firstShortDay_79 (by decide +kernel) ?_
  refine W.lcmp hx hb d_Bx_firstShortDay_80 ?_
  refine hb_ti 0 (by decide +kernel) ?_
  refine lv_if_ge (tgt := 87) hx hb d_Bx_firstShortDay_81 (by decide) (fun _ => ?_) (fun h => absurd (by decide +kernel) h)
  refine lv_iinc (v := 40) (lv' := [(7, .int 40), (4, .long 0), (6, .int 4000), (2, .long 0), (0, .ref (a 12)), (1, .int 0)]) hx hb d_Bx_firstShortDay_87 hl (k := 2) rfl (by decide +kernel) (by decide) rfl (fun ls hl => ?_)
  refine lv_goto (tgt := 53) hx hb d_Bx_firstShortDay_90 (by decide) ?_
  refine lv_iload hx hb d_Bx_firstShortDay_53 (lv_at hl 0 rfl) ?_
  refine lv_bipush (v := 40) hx hb d_Bx_firstShortDay_55 (by decide +kernel) ?_
  refine lv_icmp_ge (tgt := 93) hx hb d_Bx_firstShortDay_57 (by decide) (fun _ => ?_) (fun h => absurd (by decide +kernel) h)
  refine lv_iconst (v := (-1)) hx hb d_Bx_firstShortDay_93 (by decide +kernel) ?_
  exact W.iret (v := (-1)) hx hb hr (fun t ht hW => ⟨(-1), rfl, rfl, ht⟩) t_nil d_Bx_firstShortDay_94
