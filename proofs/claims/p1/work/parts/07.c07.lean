def f_WM_foretold  : Int32 := (-2)
set_option maxHeartbeats 4000000 in
set_option maxRecDepth 100000 in
theorem c_WM_foretold (l : Launch) (dC : Nat → ClassId) (dI : Nat → Nat → Nat) (a : Nat → Nat) (k : Nat → ClassId) (L : List Nat) (hL : L.length = 40)    : Met l y_WM_foretold (.code y_WM_foretold b_WM_foretold 2 (some .int) :: TB) ({ frames := 2, cells := 0, slots := 0, locals := 51 }) (va_Pc [.ref (a 0)] (PR dC dI (XW a k L) (XT k))) (vp_Si (fun r => r = f_WM_foretold)) 0 0 (fun _ => False) := by
  refine Met.ofW (cc := b_WM_foretold) (maxL := 2) (ret := (some .int)) (by decide) rfl ?_
  intro p e s m args below meth c s₁ B hml hv
  obtain ⟨rfl, hP, hK, hN⟩ := hv
  have hx := B.exec
  have hb := B.bytes
  have hr := B.returns
  have hts := atoms_spec (ws := (.code y_WM_foretold b_WM_foretold 2 (some .int) :: TB)) B.pre
  have htb := fun w (h : w ∈ TB) => hts w (List.mem_cons_of_mem _ h)
  have hown : s.vm.findClass R_WM = some m.cls := findClass_of_methodNamed B.named
  have hlocks := B.notSynchronized
  have hl := lv_entry ([.ref (a 0)]) (n := 2) (Nat.le_of_ble_eq_true rfl)
  rw [lg_entry_eq]
  generalize (lg_sl ([.ref (a 0)]) ++ List.replicate (2 - (lg_sl ([.ref (a 0)])).length) Slot.unset).toArray = ls at hl ⊢
  have hl : lv_has ls 2 [(0, .ref (a 0))] := hl
  refine lv_aload_n hx hb d_WM_foretold_0 rfl (lv_at hl 0 rfl) ?_
  refine va_get (D := (dC, dI)) (ci := 0) (v := .ref (a 12)) (C := R_WM) (T := F_WM) (N := 13) hx hb htb i_WM hown hK hP 0 rfl rfl 6 (by decide) (htb (.fieldLink R_WM 50 "WaterMen" "box" "LWaterMen$Box;") tw_94) (fun _ h9 => h9) rfl d_WM_foretold_1 ?_
  refine lv_aload_n hx hb d_WM_foretold_4 rfl (lv_at hl 0 rfl) ?_
  refine vp_callSi (va_Run.run (va_runV (As := []) (rest := [.ref (a 12)]) ⟨hx, hb, hml, hown, htb⟩ (c_WM_today l dC dI a k L hL) (cwV 0 htb (gd_V tw_148 tw_149 tw_150 tw_124 tw_147) rfl rfl rfl (by decide +kernel) ⟨Nat.le_of_ble_eq_true rfl, Nat.le_of_ble_eq_true rfl⟩) ⟨pr_blind, va_recv hK hP (ci := 0) (q0 := 0) rfl rfl, pr_pre hP hK hN⟩ rfl rfl hl.1 rfl (lv_room (Nat.le_of_ble_eq_true rfl)) d_WM_foretold_5 ⟨Nat.le_of_ble_eq_true rfl, Nat.le_of_ble_eq_true rfl⟩)) (fun r er => ?_)
  subst er
  refine hb_ti 0 rfl ?_
  refine vp_callSi (va_Run.run (va_runV (As := [.int 0]) (rest := []) ⟨hx, hb, hml, hown, htb⟩ (c_Bx_firstShortDay_0 l dC dI a k L hL) (cwV 1 htb (gd_V tw_276 tw_277 tw_278 tw_87 tw_275) rfl rfl rfl (by decide +kernel) ⟨Nat.le_of_ble_eq_true rfl, Nat.le_of_ble_eq_true rfl⟩) ⟨pr_blind, va_recv hK hP (ci := 5) (q0 := 12) rfl rfl, pr_pre hP hK hN⟩ rfl rfl hl.1 rfl (lv_room (Nat.le_of_ble_eq_true rfl)) d_WM_foretold_8 ⟨Nat.le_of_ble_eq_true rfl, Nat.le_of_ble_eq_true rfl⟩)) (fun r er => ?_)
  subst er
  refine hb_ti (-1) rfl ?_
  refine lv_istore_n (lv' := [(1, .int (-1)), (0, .ref (a 0))]) hx hb d_WM_foretold_11 rfl hl (by decide) rfl (fun ls hl => ?_)
  refine lv_iload_n hx hb d_WM_foretold_12 rfl (lv_at hl 0 rfl) ?_
  refine lv_iconst (v := (-1)) hx hb d_WM_foretold_13 (by decide +kernel) ?_
  refine lv_icmp_ne (tgt := 22) hx hb d_WM_foretold_14 (by decide) (fun h => absurd (by decide +kernel) h) (fun _ => ?_)
  refine lv_bipush (v := (-2)) hx hb d_WM_foretold_17 (by decide +kernel) ?_
  refine lv_goto (tgt := 23) hx hb d_WM_foretold_19 (by decide) ?_
  exact W.iret (v := (-2)) hx hb hr (fun t ht hW => ⟨(-2), rfl, rfl, ht⟩) t_nil d_WM_foretold_23
def f_Bx_pensionerAt (a : Nat → Nat) (k : Nat → ClassId) (L : List Nat) (p_0 : Int32) (r : Option Nat) : Prop := if p_0 < 0 then (r = none) else (r = none)
set_option maxHeartbeats 4000000 in
set_option maxRecDepth 100000 in
theorem c_Bx_pensionerAt (l : Launch) (dC : Nat → ClassId) (dI : Nat → Nat → Nat) (a : Nat → Nat) (k : Nat → ClassId) (L : List Nat) (hL : L.length = 40) (p_0 : Int32) : Met l y_Bx_pensionerAt (.code y_Bx_pensionerAt b_Bx_pensionerAt 2 (some (.object "WaterMen$Pensioner")) :: TB) ({ frames := 0, cells := 0, slots := 0, locals := 0 }) (va_Pc [.ref (a 12), .int p_0] (PR dC dI (XW a k L) (XT k))) (va_Sq (fun r => f_Bx_pensionerAt a k L p_0 r)) 0 0 (fun _ => False) := by
  refine Met.ofW (cc := b_Bx_pensionerAt) (maxL := 2) (ret := (some (.object "WaterMen$Pensioner"))) (by decide) rfl ?_
  intro p e s m args below meth c s₁ B hml hv
  obtain ⟨rfl, hP, hK, hN⟩ := hv
  have hx := B.exec
  have hb := B.bytes
  have hr := B.returns
  have hts := atoms_spec (ws := (.code y_Bx_pensionerAt b_Bx_pensionerAt 2 (some (.object "WaterMen$Pensioner")) :: TB)) B.pre
  have htb := fun w (h : w ∈ TB) => hts w (List.mem_cons_of_mem _ h)
  have hown : s.vm.findClass R_Bx = some m.cls := findClass_of_methodNamed B.named
  have hlocks := B.notSynchronized
  have hl := lv_entry ([.ref (a 12), .int p_0]) (n := 2) (Nat.le_of_ble_eq_true rfl)
  rw [lg_entry_eq]
  generalize (lg_sl ([.ref (a 12), .int p_0]) ++ List.replicate (2 - (lg_sl ([.ref (a 12), .int p_0])).length) Slot.unset).toArray = ls at hl ⊢
  have hl : lv_has ls 2 [(0, .ref (a 12)), (1, .int p_0)] := hl
  refine lv_iload_n hx hb d_Bx_pensionerAt_0 rfl (lv_at hl 1 rfl) ?_
  refine lv_if_lt (tgt := 21) hx hb d_Bx_pensionerAt_1 (by decide) (fun c_1 => ?_) (fun c_1 => ?_)
  · refine lv_null hx hb d_Bx_pensionerAt_21 ?_
    exact W.aret (v := .null) (rt := .object "WaterMen$Pensioner") hx hb hr (Or.inl ⟨_, rfl⟩) (Or.inl rfl) (fun t ht hW => ⟨none, rfl, (by show f_Bx_pensionerAt a k L p_0 none; unfold f_Bx_pensionerAt; rw [if_pos c_1]), ht⟩) t_nil d_Bx_pensionerAt_22
  · refine lv_iload_n hx hb d_Bx_pensionerAt_4 rfl (lv_at hl 1 rfl) ?_
    refine lv_aload_n hx hb d_Bx_pensionerAt_5 rfl (lv_at hl 0 rfl) ?_
    refine va_get (D := (dC, dI)) (ci := 5) (v := .int 0) (C := R_Bx) (T := F_Bx) (N := 7) hx hb htb i_Bx hown hK hP 12 rfl rfl 6 (by decide) (htb (.fieldLink R_Bx 29 "WaterMen$Box" "pensionerCount" "I") tw_253) (fun _ h9 => h9) rfl d_Bx_pensionerAt_6 ?_
    refine lv_icmp_ge (tgt := 21) hx hb d_Bx_pensionerAt_9 (by decide) (fun _ => ?_) (fun h => absurd (show 0 ≤ p_0 from by have e0 := c_1; rw [Int32.lt_iff_toInt_lt] at e0; have z0 : (0 : Int32).toInt = 0 := (by decide +kernel); rw [Int32.le_iff_toInt_le]; omega) h)
    refine lv_null hx hb d_Bx_pensionerAt_21 ?_
    exact W.aret (v := .null) (rt := .object "WaterMen$Pensioner") hx hb hr (Or.inl ⟨_, rfl⟩) (Or.inl rfl) (fun t ht hW => ⟨none, rfl, (by show f_Bx_pensionerAt a k L p_0 none; unfold f_Bx_pensionerAt; rw [if_neg c_1]), ht⟩) t_nil d_Bx_pensionerAt_22
def f_WM_pensioner (p_0 : Int32) (p_1 : Int32) : Int32 := if p_0 < 0 then ((-1)) else ((-1))
set_option maxHeartbeats 4000000 in
set_option maxRecDepth 100000 in
theorem c_WM_pensioner (l : Launch) (dC : Nat → ClassId) (dI : Nat → Nat → Nat) (a : Nat → Nat) (k : Nat → ClassId) (L : List Nat) (hL : L.length = 40)  (p_0 : Int32) (p_1 : Int32)  : Met l y_WM_pensioner (.code y_WM_pensioner b_WM_pensioner 4 (some .int) :: TB) ({ frames := 1, cells := 0, slots := 0, locals := 21 }) (va_Pc [.ref (a 0), .int p_0, .int p_1] (PR dC dI (XW a k L) (XT k))) (vp_Si (fun r => r = f_WM_pensioner p_0 p_1)) 0 0 (fun _ => False) := by
  refine Met.ofW (cc := b_WM_pensioner) (maxL := 4) (ret := (some .int)) (by decide) rfl ?_
  intro p e s m args below meth c s₁ B hml hv
  obtain ⟨rfl, hP, hK, hN⟩ := hv
  have hx := B.exec
  have hb := B.bytes
  have hr := B.returns
  have hts := atoms_spec (ws := (.code y_WM_pensioner b_WM_pensioner 4 (some .int) :: TB)) B.pre
  have htb := fun w (h : w ∈ TB) => hts w (List.mem_cons_of_mem _ h)
  have hown : s.vm.findClass R_WM = some m.cls := findClass_of_methodNamed B.named
  have hlocks := B.notSynchronized
  have hl := lv_entry ([.ref (a 0), .int p_0, .int p_1]) (n := 4) (Nat.le_of_ble_eq_true rfl)
  rw [lg_entry_eq]
  generalize (lg_sl ([.ref (a 0), .int p_0, .int p_1]) ++ List.replicate (4 - (lg_sl ([.ref (a 0), .int p_0, .int p_1])).length) Slot.unset).toArray = ls at hl ⊢
  have hl : lv_has ls 4 [(0, .ref (a 0)), (1, .int p_0), (2, .int p_1)] := hl
  refine lv_aload_n hx hb d_WM_pensioner_0 rfl (lv_at hl 0 rfl) ?_
  refine va_get (D := (dC, dI)) (ci := 0) (v := .ref (a 12)) (C := R_WM) (T := F_WM) (N := 13) hx hb htb i_WM hown hK hP 0 rfl rfl 6 (by decide) (htb (.fieldLink R_WM 50 "WaterMen" "box" "LWaterMen$Box;") tw_94) (fun _ h9 => h9) rfl d_WM_pensioner_1 ?_
  refine lv_iload_n hx hb d_WM_pensioner_4 rfl (lv_at hl 1 rfl) ?_
  refine va_csq (va_Run.run (va_runV (As := [.int p_0]) (rest := []) ⟨hx, hb, hml, hown, htb⟩ (c_Bx_pensionerAt l dC dI a k L hL p_0) (cwV 1 htb (gd_V tw_280 tw_281 tw_282 tw_87 tw_279) rfl rfl rfl (by decide +kernel) ⟨Nat.le_of_ble_eq_true rfl, Nat.le_of_ble_eq_true rfl⟩) ⟨pr_blind, va_recv hK hP (ci := 5) (q0 := 12) rfl rfl, pr_pre hP hK hN⟩ rfl rfl hl.1 rfl (lv_room (Nat.le_of_ble_eq_true rfl)) d_WM_pensioner_5 ⟨Nat.le_of_ble_eq_true rfl, Nat.le_of_ble_eq_true rfl⟩)) (fun rr_2 hq_1 => ?_)
  unfold f_Bx_pensionerAt at hq_1
  by_cases c_3 : p_0 < 0
  · rw [if_pos c_3] at hq_1
    subst hq_1
    refine hb_tv .null rfl ?_
    refine lv_astore_nN (lv' := [(3, .null), (0, .ref (a 0)), (1, .int p_0), (2, .int p_1)]) hx hb d_WM_pensioner_8 rfl hl (by decide) rfl (fun ls hl => ?_)
    refine lv_aload_nN hx hb d_WM_pensioner_9 rfl (lv_at hl 0 rfl) ?_
    refine lv_ifnonnullN hx hb d_WM_pensioner_10 ?_
    refine lv_iconst (v := (-1)) hx hb d_WM_pensioner_13 (by decide +kernel) ?_
    exact W.iret (v := (-1)) hx hb hr (fun t ht hW => ⟨(-1), rfl, (by unfold f_WM_pensioner; rw [if_pos c_3]), ht⟩) t_nil d_WM_pensioner_14
  · rw [if_neg c_3] at hq_1
    subst hq_1
    refine hb_tv .null rfl ?_
    refine lv_astore_nN (lv' := [(3, .null), (0, .ref (a 0)), (1, .int p_0), (2, .int p_1)]) hx hb d_WM_pensioner_8 rfl hl (by decide) rfl (fun ls hl => ?_)
    refine lv_aload_nN hx hb d_WM_pensioner_9 rfl (lv_at hl 0 rfl) ?_
    refine lv_ifnonnullN hx hb d_WM_pensioner_10 ?_
    refine lv_iconst (v := (-1)) hx hb d_WM_pensioner_13 (by decide +kernel) ?_
    exact W.iret (v := (-1)) hx hb hr (fun t ht hW => ⟨(-1), rfl, (by unfold f_WM_pensioner; rw [if_neg c_3]), ht⟩) t_nil d_WM_pensioner_14
def f_WM_menThatAre (p_0 : Int32) : Int32 := if 0 = p_0 then (40) else (0)
set_option maxHeartbeats 4000000 in
set_option maxRecDepth 100000 in
theorem c_WM_menThatAre (l : Launch) (dC : Nat → ClassId) (dI : Nat → Nat → Nat) (a : Nat → Nat) (k : Nat → ClassId) (L : List Nat) (hL : L.length = 40)  (p_0 : Int32)  : Met l y_WM_menThatAre (.code y_WM_menThatAre b_WM_menThatAre 5 (some .int) :: TB) ({ frames := 0, cells := 0, slots := 0, locals := 0 }) (va_Pc [.ref (a 0), .int p_0] (PR dC dI (XW a k L) (XT k))) (vp_Si (fun r => r = f_WM_menThatAre p_0)) 0 0 (fun _ => False) := by
  refine Met.ofW (cc := b_WM_menThatAre) (maxL := 5) (ret := (some .int)) (by decide) rfl ?_
  intro p e s m args below meth c s₁ B hml hv
  obtain ⟨rfl, hP, hK, hN⟩ := hv
  have hx := B.exec
  have hb := B.bytes
  have hr := B.returns
  have hts := atoms_spec (ws := (.code y_WM_menThatAre b_WM_menThatAre 5 (some .int) :: TB)) B.pre
  have htb := fun w (h : w ∈ TB) => hts w (List.mem_cons_of_mem _ h)
  have hown : s.vm.findClass R_WM = some m.cls := findClass_of_methodNamed B.named
  have hlocks := B.notSynchronized
  have hl := lv_entry ([.ref (a 0), .int p_0]) (n := 5) (Nat.le_of_ble_eq_true rfl)
  rw [lg_entry_eq]
  generalize (lg_sl ([.ref (a 0), .int p_0]) ++ List.replicate (5 - (lg_sl ([.ref (a 0), .int p_0])).length) Slot.unset).toArray = ls at hl ⊢
  have hl : lv_has ls 5 [(0, .ref (a 0)), (1, .int p_0)] := hl
  refine lv_iconst (v := 0) hx hb d_WM_menThatAre_0 (by decide +kernel) ?_
  refine lv_istore_n (lv' := [(2, .int 0), (0, .ref (a 0)), (1, .int p_0)]) hx hb d_WM_menThatAre_1 rfl hl (by decide) rfl (fun ls hl => ?_)
  refine lv_iconst (v := 0) hx hb d_WM_menThatAre_2 (by decide +kernel) ?_
  refine lv_istore_n (lv' := [(3, .int 0), (2, .int 0), (0, .ref (a 0)), (1, .int p_0)]) hx hb d_WM_menThatAre_3 rfl hl (by decide) rfl (fun ls hl => ?_)
  refine lv_iload_n hx hb d_WM_menThatAre_4 rfl (lv_at hl 0 rfl) ?_
  refine lv_bipush (v := 40) hx hb d_WM_menThatAre_5 (by decide +kernel) ?_
  refine lv_icmp_ge (tgt := 41) hx hb d_WM_menThatAre_7 (by decide) (fun h => absurd h (by decide +kernel)) (fun _ => ?_)
  refine lv_aload_n hx hb d_WM_menThatAre_10 rfl (lv_at hl 2 rfl) ?_
  refine va_get (D := (dC, dI)) (ci := 0) (v := .ref (a 6)) (C := R_WM) (T := F_WM) (N := 13) hx hb htb i_WM hown hK hP 0 rfl rfl 1 (by decide) (htb (.fieldLink R_WM 18 "WaterMen" "men" "[LWaterMen$Man;") tw_70) (fun _ h9 => h9) rfl d_WM_menThatAre_11 ?_
  refine lv_iload_n hx hb d_WM_menThatAre_14 rfl (lv_at hl 0 rfl) ?_
  refine va_aldq hx hb hK hP 6 4 rfl rfl (by unfold vp_in; decide +kernel) d_WM_menThatAre_15 ?_
  obtain ⟨q_1, x_2, hq_3, hk_4⟩ := xw_man (a := a) (k := k) (i := 0) hL (by unfold vp_in; decide +kernel)
  refine hb_tv (.ref q_1) (by show va_rf (L[_]?) = _; rw [hq_3]; rfl) ?_
  refine lv_astore (lv' := [(4, .ref q_1), (3, .int 0), (2, .int 0), (0, .ref (a 0)), (1, .int p_0)]) hx hb d_WM_menThatAre_16 hl (by decide) rfl (fun ls hl => ?_)
  refine lv_aload hx hb d_WM_menThatAre_18 (lv_at hl 0 rfl) ?_
  refine lv_ifnull hx hb d_WM_menThatAre_20 ?_
  refine lv_aload hx hb d_WM_menThatAre_23 (lv_at hl 0 rfl) ?_
  refine va_get (D := (dC, dI)) (ci := 2) (v := .int 0) (C := R_Mn) (T := F_Mn) (N := 8) hx hb htb i_Mn hown hK hP x_2 hk_4 rfl 0 (by decide) (htb (.fieldLink R_WM 111 "WaterMen$Man" "state" "I") tw_160) (fun _ h9 => h9) rfl d_WM_menThatAre_25 ?_
  refine lv_iload_n hx hb d_WM_menThatAre_28 rfl (lv_at hl 4 rfl) ?_
  refine lv_icmp_ne (tgt := 35) hx hb d_WM_menThatAre_29 (by decide) (fun c_5 => ?_) (fun c_5 => ?_)
  · refine lv_iinc (v := 1) (lv' := [(3, .int 1), (4, .ref q_1), (2, .int 0), (0, .ref (a 0)), (1, .int p_0)]) hx hb d_WM_menThatAre_35 hl (k := 1) rfl (by decide +kernel) (by decide) rfl (fun ls hl => ?_)
    refine lv_goto (tgt := 4) hx hb d_WM_menThatAre_38 (by decide) ?_
    refine lv_iload_n hx hb d_WM_menThatAre_4 rfl (lv_at hl 0 rfl) ?_
    refine lv_bipush (v := 40) hx hb d_WM_menThatAre_5 (by decide +kernel) ?_
    refine lv_icmp_ge (tgt := 41) hx hb d_WM_menThatAre_7 (by decide) (fun h => absurd h (by decide +kernel)) (fun _ => ?_)
    refine lv_aload_n hx hb d_WM_menThatAre_10 rfl (lv_at hl 3 rfl) ?_
    refine va_get (D := (dC, dI)) (ci := 0) (v := .ref (a 6)) (C := R_WM) (T := F_WM) (N := 13) hx hb htb i_WM hown hK hP 0 rfl rfl 1 (by decide) (htb (.fieldLink R_WM 18 "WaterMen" "men" "[LWaterMen$Man;") tw_70) (fun _ h9 => h9) rfl d_WM_menThatAre_11 ?_
    refine lv_iload_n hx hb d_WM_menThatAre_14 rfl (lv_at hl 0 rfl) ?_
    refine va_aldq hx hb hK hP 6 4 rfl rfl (by unfold vp_in; decide +kernel) d_WM_menThatAre_15 ?_
    obtain ⟨q_6, x_7, hq_8, hk_9⟩ := xw_man (a := a) (k := k) (i := 1) hL (by unfold vp_in; decide +kernel)
    refine hb_tv (.ref q_6) (by show va_rf (L[_]?) = _; rw [hq_8]; rfl) ?_
    refine lv_astore (lv' := [(4, .ref q_6), (3, .int 1), (2, .int 0), (0, .ref (a 0)), (1, .int p_0)]) hx hb d_WM_menThatAre_16 hl (by decide) rfl (fun ls hl => ?_)
    refine lv_aload hx hb d_WM_menThatAre_18 (lv_at hl 0 rfl) ?_
    refine lv_ifnull hx hb d_WM_menThatAre_20 ?_
    refine lv_aload hx hb d_WM_menThatAre_23 (lv_at hl 0 rfl) ?_
    refine va_get (D := (dC, dI)) (ci := 2) (v := .int 0) (C := R_Mn) (T := F_Mn) (N := 8) hx hb htb i_Mn hown hK hP x_7 hk_9 rfl 0 (by decide) (htb (.fieldLink R_WM 111 "WaterMen$Man" "state" "I") tw_160) (fun _ h9 => h9) rfl d_WM_menThatAre_25 ?_
    refine lv_iload_n hx hb d_WM_menThatAre_28 rfl (lv_at hl 4 rfl) ?_
    refine lv_icmp_ne (tgt := 35) hx hb d_WM_menThatAre_29 (by decide) (fun _ => ?_) (fun h => absurd h c_5)
    refine lv_iinc (v := 2) (lv' := [(3, .int 2), (4, .ref q_6), (2, .int 0), (0, .ref (a 0)), (1, .int p_0)]) hx hb d_WM_menThatAre_35 hl (k := 1) rfl (by decide +kernel) (by decide) rfl (fun ls hl => ?_)
    refine lv_goto (tgt := 4) hx hb d_WM_menThatAre_38 (by decide) ?_
    refine lv_iload_n hx hb d_WM_menThatAre_4 rfl (lv_at hl 0 rfl) ?_
    refine lv_bipush (v := 40) hx hb d_WM_menThatAre_5 (by decide +kernel) ?_
    refine lv_icmp_ge (tgt := 41) hx hb d_WM_menThatAre_7 (by decide) (fun h => absurd h (by decide +kernel)) (fun _ => ?_)
    refine lv_aload_n hx hb d_WM_menThatAre_10 rfl (lv_at hl 3 rfl) ?_
    refine va_get (D := (dC, dI)) (ci := 0) (v := .ref (a 6)) (C := R_WM) (T := F_WM) (N := 13) hx hb htb i_WM hown hK hP 0 rfl rfl 1 (by decide) (htb (.fieldLink R_WM 18 "WaterMen" "men" "[LWaterMen$Man;") tw_70) (fun _ h9 => h9) rfl d_WM_menThatAre_11 ?_
    refine lv_iload_n hx hb d_WM_menThatAre_14 rfl (lv_at hl 0 rfl) ?_
    refine va_aldq hx hb hK hP 6 4 rfl rfl (by unfold vp_in; decide +kernel) d_WM_menThatAre_15 ?_
    obtain ⟨q_10, x_11, hq_12, hk_13⟩ := xw_man (a := a) (k := k) (i := 2) hL (by unfold vp_in; decide +kernel)
    refine hb_tv (.ref q_10) (by show va_rf (L[_]?) = _; rw [hq_12]; rfl) ?_
    refine lv_astore (lv' := [(4, .ref q_10), (3, .int 2), (2, .int 0), (0, .ref (a 0)), (1, .int p_0)]) hx hb d_WM_menThatAre_16 hl (by decide) rfl (fun ls hl => ?_)
    refine lv_aload hx hb d_WM_menThatAre_18 (lv_at hl 0 rfl) ?_
    refine lv_ifnull hx hb d_WM_menThatAre_20 ?_
    refine lv_aload hx hb d_WM_menThatAre_23 (lv_at hl 0 rfl) ?_
    refine va_get (D := (dC, dI)) (ci := 2) (v := .int 0) (C := R_Mn) (T := F_Mn) (N := 8) hx hb htb i_Mn hown hK hP x_11 hk_13 rfl 0 (by decide) (htb (.fieldLink R_WM 111 "WaterMen$Man" "state" "I") tw_160) (fun _ h9 => h9) rfl d_WM_menThatAre_25 ?_
    refine lv_iload_n hx hb d_WM_menThatAre_28 rfl (lv_at hl 4 rfl) ?_
    refine lv_icmp_ne (tgt := 35) hx hb d_WM_menThatAre_29 (by decide) (fun _ => ?_) (fun h => absurd h c_5)
    refine lv_iinc (v := 3) (lv' := [(3, .int 3), (4, .ref q_10), (2, .int 0), (0, .ref (a 0)), (1, .int p_0)]) hx hb d_WM_menThatAre_35 hl (k := 1) rfl (by decide +kernel) (by decide) rfl (fun ls hl => ?_)
    refine lv_goto (tgt := 4) hx hb d_WM_menThatAre_38 (by decide) ?_
    refine lv_iload_n hx hb d_WM_menThatAre_4 rfl (lv_at hl 0 rfl) ?_
    refine lv_bipush (v := 40) hx hb d_WM_menThatAre_5 (by decide +kernel) ?_
    refine lv_icmp_ge (tgt := 41) hx hb d_WM_menThatAre_7 (by decide) (fun h => absurd h (by decide +kernel)) (fun _ => ?_)
    refine lv_aload_n hx hb d_WM_menThatAre_10 rfl (lv_at hl 3 rfl) ?_
    refine va_get (D := (dC, dI)) (ci := 0) (v := .ref (a 6)) (C := R_WM) (T := F_WM) (N := 13) hx hb htb i_WM hown hK hP 0 rfl rfl 1 (by decide) (htb (.fieldLink R_WM 18 "WaterMen" "men" "[LWaterMen$Man;") tw_70) (fun _ h9 => h9) rfl d_WM_menThatAre_11 ?_
    refine lv_iload_n hx hb d_WM_menThatAre_14 rfl (lv_at hl 0 rfl) ?_
    refine va_aldq hx hb hK hP 6 4 rfl rfl (by unfold vp_in; decide +kernel) d_WM_menThatAre_15 ?_
    obtain ⟨q_14, x_15, hq_16, hk_17⟩ := xw_man (a := a) (k := k) (i := 3) hL (by unfold vp_in; decide +kernel)
    refine hb_tv (.ref q_14) (by show va_rf (L[_]?) = _; rw [hq_16]; rfl) ?_
    refine lv_astore (lv' := [(4, .ref q_14), (3, .int 3), (2, .int 0), (0, .ref (a 0)), (1, .int p_0)]) hx hb d_WM_menThatAre_16 hl (by decide) rfl (fun ls hl => ?_)
    refine lv_aload hx hb d_WM_menThatAre_18 (lv_at hl 0 rfl) ?_
    refine lv_ifnull hx hb d_WM_menThatAre_20 ?_
    refine lv_aload hx hb d_WM_menThatAre_23 (lv_at hl 0 rfl) ?_
    refine va_get (D := (dC, dI)) (ci := 2) (v := .int 0) (C := R_Mn) (T := F_Mn) (N := 8) hx hb htb i_Mn hown hK hP x_15 hk_17 rfl 0 (by decide) (htb (.fieldLink R_WM 111 "WaterMen$Man" "state" "I") tw_160) (fun _ h9 => h9) rfl d_WM_menThatAre_25 ?_
    refine lv_iload_n hx hb d_WM_menThatAre_28 rfl (lv_at hl 4 rfl) ?_
    refine lv_icmp_ne (tgt := 35) hx hb d_WM_menThatAre_29 (by decide) (fun _ => ?_) (fun h => absurd h c_5)
    refine lv_iinc (v := 4) (lv' := [(3, .int 4), (4, .ref q_14), (2, .int 0), (0, .ref (a 0)), (1, .int p_0)]) hx hb d_WM_menThatAre_35 hl (k := 1) rfl (by decide +kernel) (by decide) rfl (fun ls hl => ?_)
    refine lv_goto (tgt := 4) hx hb d_WM_menThatAre_38 (by decide) ?_
    refine lv_iload_n hx hb d_WM_menThatAre_4 rfl (lv_at hl 0 rfl) ?_
    refine lv_bipush (v := 40) hx hb d_WM_menThatAre_5 (by decide +kernel) ?_
    refine lv_icmp_ge (tgt := 41) hx hb d_WM_menThatAre_7 (by decide) (fun h => absurd h (by decide +kernel)) (fun _ => ?_)
    refine lv_aload_n hx hb d_WM_menThatAre_10 rfl (lv_at hl 3 rfl) ?_
    refine va_get (D := (dC, dI)) (ci := 0) (v := .ref (a 6)) (C := R_WM) (T := F_WM) (N := 13) hx hb htb i_WM hown hK hP 0 rfl rfl 1 (by decide) (htb (.fieldLink R_WM 18 "WaterMen" "men" "[LWaterMen$Man;") tw_70) (fun _ h9 => h9) rfl d_WM_menThatAre_11 ?_
    refine lv_iload_n hx hb d_WM_menThatAre_14 rfl (lv_at hl 0 rfl) ?_
    refine va_aldq hx hb hK hP 6 4 rfl rfl (by unfold vp_in; decide +kernel) d_WM_menThatAre_15 ?_
    obtain ⟨q_18, x_19, hq_20, hk_21⟩ := xw_man (a := a) (k := k) (i := 4) hL (by unfold vp_in; decide +kernel)
    refine hb_tv (.ref q_18) (by show va_rf (L[_]?) = _; rw [hq_20]; rfl) ?_
    refine lv_astore (lv' := [(4, .ref q_18), (3, .int 4), (2, .int 0), (0, .ref (a 0)), (1, .int p_0)]) hx hb d_WM_menThatAre_16 hl (by decide) rfl (fun ls hl => ?_)
    refine lv_aload hx hb d_WM_menThatAre_18 (lv_at hl 0 rfl) ?_
    refine lv_ifnull hx hb d_WM_menThatAre_20 ?_
    refine lv_aload hx hb d_WM_menThatAre_23 (lv_at hl 0 rfl) ?_
    refine va_get (D := (dC, dI)) (ci := 2) (v := .int 0) (C := R_Mn) (T := F_Mn) (N := 8) hx hb htb i_Mn hown hK hP x_19 hk_21 rfl 0 (by decide) (htb (.fieldLink R_WM 111 "WaterMen$Man" "state" "I") tw_160) (fun _ h9 => h9) rfl d_WM_menThatAre_25 ?_
    refine lv_iload_n hx hb d_WM_menThatAre_28 rfl (lv_at hl 4 rfl) ?_
    refine lv_icmp_ne (tgt := 35) hx hb d_WM_menThatAre_29 (by decide) (fun _ => ?_) (fun h => absurd h c_5)
    refine lv_iinc (v := 5) (lv' := [(3, .int 5), (4, .ref q_18), (2, .int 0), (0, .ref (a 0)), (1, .int p_0)]) hx hb d_WM_menThatAre_35 hl (k := 1) rfl (by decide +kernel) (by decide) rfl (fun ls hl => ?_)
    refine lv_goto (tgt := 4) hx hb d_WM_menThatAre_38 (by decide) ?_
    refine lv_iload_n hx hb d_WM_menThatAre_4 rfl (lv_at hl 0 rfl) ?_
    refine lv_bipush (v := 40) hx hb d_WM_menThatAre_5 (by decide +kernel) ?_
    refine lv_icmp_ge (tgt := 41) hx hb d_WM_menThatAre_7 (by decide) (fun h => absurd h (by decide +kernel)) (fun _ => ?_)
    refine lv_aload_n hx hb d_WM_menThatAre_10 rfl (lv_at hl 3 rfl) ?_
    refine va_get (D := (dC, dI)) (ci := 0) (v := .ref (a 6)) (C := R_WM) (T := F_WM) (N := 13) hx hb htb i_WM hown hK hP 0 rfl rfl 1 (by decide) (htb (.fieldLink R_WM 18 "WaterMen" "men" "[LWaterMen$Man;") tw_70) (fun _ h9 => h9) rfl d_WM_menThatAre_11 ?_
    refine lv_iload_n hx hb d_WM_menThatAre_14 rfl (lv_at hl 0 rfl) ?_
    refine va_aldq hx hb hK hP 6 4 rfl rfl (by unfold vp_in; decide +kernel) d_WM_menThatAre_15 ?_
    obtain ⟨q_22, x_23, hq_24, hk_25⟩ := xw_man (a := a) (k := k) (i := 5) hL (by unfold vp_in; decide +kernel)
    refine hb_tv (.ref q_22) (by show va_rf (L[_]?) = _; rw [hq_24]; rfl) ?_
    refine lv_astore (lv' := [(4, .ref q_22), (3, .int 5), (2, .int 0), (0, .ref (a 0)), (1, .int p_0)]) hx hb d_WM_menThatAre_16 hl (by decide) rfl (fun ls hl => ?_)
    refine lv_aload hx hb d_WM_menThatAre_18 (lv_at hl 0 rfl) ?_
    refine lv_ifnull hx hb d_WM_menThatAre_20 ?_
    refine lv_aload hx hb d_WM_menThatAre_23 (lv_at hl 0 rfl) ?_
    refine va_get (D := (dC, dI)) (ci := 2) (v := .int 0) (C := R_Mn) (T := F_Mn) (N := 8) hx hb htb i_Mn hown hK hP x_23 hk_25 rfl 0 (by decide) (htb (.fieldLink R_WM 111 "WaterMen$Man" "state" "I") tw_160) (fun _ h9 => h9) rfl d_WM_menThatAre_25 ?_
    refine lv_iload_n hx hb d_WM_menThatAre_28 rfl (lv_at hl 4 rfl) ?_
    refine lv_icmp_ne (tgt := 35) hx hb d_WM_menThatAre_29 (by decide) (fun _ => ?_) (fun h => absurd h c_5)
    refine lv_iinc (v := 6) (lv' := [(3, .int 6), (4, .ref q_22), (2, .int 0), (0, .ref (a 0)), (1, .int p_0)]) hx hb d_WM_menThatAre_35 hl (k := 1) rfl (by decide +kernel) (by decide) rfl (fun ls hl => ?_)
    refine lv_goto (tgt := 4) hx hb d_WM_menThatAre_38 (by decide) ?_
    refine lv_iload_n hx hb d_WM_menThatAre_4 rfl (lv_at hl 0 rfl) ?_
    refine lv_bipush (v := 40) hx hb d_WM_menThatAre_5 (by decide +kernel) ?_
    refine lv_icmp_ge (tgt := 41) hx hb d_WM_menThatAre_7 (by decide) (fun h => absurd h (by decide +kernel)) (fun _ => ?_)
    refine lv_aload_n hx hb d_WM_menThatAre_10 rfl (lv_at hl 3 rfl) ?_
    refine va_get (D := (dC, dI)) (ci := 0) (v := .ref (a 6)) (C := R_WM) (T := F_WM) (N := 13) hx hb htb i_WM hown hK hP 0 rfl rfl 1 (by decide) (htb (.fieldLink R_WM 18 "WaterMen" "men" "[LWaterMen$Man;") tw_70) (fun _ h9 => h9) rfl d_WM_menThatAre_11 ?_
    refine lv_iload_n hx hb d_WM_menThatAre_14 rfl (lv_at hl 0 rfl) ?_
    refine va_aldq hx hb hK hP 6 4 rfl rfl (by unfold vp_in; decide +kernel) d_WM_menThatAre_15 ?_
    obtain ⟨q_26, x_27, hq_28, hk_29⟩ := xw_man (a := a) (k := k) (i := 6) hL (by unfold vp_in; decide +kernel)
    refine hb_tv (.ref q_26) (by show va_rf (L[_]?) = _; rw [hq_28]; rfl) ?_
    refine lv_astore (lv' := [(4, .ref q_26), (3, .int 6), (2, .int 0), (0, .ref (a 0)), (1, .int p_0)]) hx hb d_WM_menThatAre_16 hl (by decide) rfl (fun ls hl => ?_)
    refine lv_aload hx hb d_WM_menThatAre_18 (lv_at hl 0 rfl) ?_
    refine lv_ifnull hx hb d_WM_menThatAre_20 ?_
    refine lv_aload hx hb d_WM_menThatAre_23 (lv_at hl 0 rfl) ?_
    refine va_get (D := (dC, dI)) (ci := 2) (v := .int 0) (C := R_Mn) (T := F_Mn) (N := 8) hx hb htb i_Mn hown hK hP x_27 hk_29 rfl 0 (by decide) (htb (.fieldLink R_WM 111 "WaterMen$Man" "state" "I") tw_160) (fun _ h9 => h9) rfl d_WM_menThatAre_25 ?_
    refine lv_iload_n hx hb d_WM_menThatAre_28 rfl (lv_at hl 4 rfl) ?_
    refine lv_icmp_ne (tgt := 35) hx hb d_WM_menThatAre_29 (by decide) (fun _ => ?_) (fun h => absurd h c_5)
    refine lv_iinc (v := 7) (lv' := [(3, .int 7), (4, .ref q_26), (2, .int 0), (0, .ref (a 0)), (1, .int p_0)]) hx hb d_WM_menThatAre_35 hl (k := 1) rfl (by decide +kernel) (by decide) rfl (fun ls hl => ?_)
    refine lv_goto (tgt := 4) hx hb d_WM_menThatAre_38 (by decide) ?_
    refine lv_iload_n hx hb d_WM_menThatAre_4 rfl (lv_at hl 0 rfl) ?_
    refine lv_bipush (v := 40) hx hb d_WM_menThatAre_5 (by decide +kernel) ?_
    refine lv_icmp_ge (tgt := 41) hx hb d_WM_menThatAre_7 (by decide) (fun h => absurd h (by decide +kernel)) (fun _ => ?_)
    refine lv_aload_n hx hb d_WM_menThatAre_10 rfl (lv_at hl 3 rfl) ?_
    refine va_get (D := (dC, dI)) (ci := 0) (v := .ref (a 6)) (C := R_WM) (T := F_WM) (N := 13) hx hb htb i_WM hown hK hP 0 rfl rfl 1 (by decide) (htb (.fieldLink R_WM 18 "WaterMen" "men" "[LWaterMen$Man;") tw_70) (fun _ h9 => h9) rfl d_WM_menThatAre_11 ?_
    refine lv_iload_n hx hb d_WM_menThatAre_14 rfl (lv_at hl 0 rfl) ?_
    refine va_aldq hx hb hK hP 6 4 rfl rfl (by unfold vp_in; decide +kernel) d_WM_menThatAre_15 ?_
    obtain ⟨q_30, x_31, hq_32, hk_33⟩ := xw_man (a := a) (k := k) (i := 7) hL (by unfold vp_in; decide +kernel)
    refine hb_tv (.ref q_30) (by show va_rf (L[_]?) = _; rw [hq_32]; rfl) ?_
    refine lv_astore (lv' := [(4, .ref q_30), (3, .int 7), (2, .int 0), (0, .ref (a 0)), (1, .int p_0)]) hx hb d_WM_menThatAre_16 hl (by decide) rfl (fun ls hl => ?_)
    refine lv_aload hx hb d_WM_menThatAre_18 (lv_at hl 0 rfl) ?_
    refine lv_ifnull hx hb d_WM_menThatAre_20 ?_
    refine lv_aload hx hb d_WM_menThatAre_23 (lv_at hl 0 rfl) ?_
    refine va_get (D := (dC, dI)) (ci := 2) (v := .int 0) (C := R_Mn) (T := F_Mn) (N := 8) hx hb htb i_Mn hown hK hP x_31 hk_33 rfl 0 (by decide) (htb (.fieldLink R_WM 111 "WaterMen$Man" "state" "I") tw_160) (fun _ h9 => h9) rfl d_WM_menThatAre_25 ?_
    refine lv_iload_n hx hb d_WM_menThatAre_28 rfl (lv_at hl 4 rfl) ?_
    refine lv_icmp_ne (tgt := 35) hx hb d_WM_menThatAre_29 (by decide) (fun _ => ?_) (fun h => absurd h c_5)
    refine lv_iinc (v := 8) (lv' := [(3, .int 8), (4, .ref q_30), (2, .int 0), (0, .ref (a 0)), (1, .int p_0)]) hx hb d_WM_menThatAre_35 hl (k := 1) rfl (by decide +kernel) (by decide) rfl (fun ls hl => ?_)
    refine lv_goto (tgt := 4) hx hb d_WM_menThatAre_38 (by decide) ?_
    refine lv_iload_n hx hb d_WM_menThatAre_4 rfl (lv_at hl 0 rfl) ?_
    refine lv_bipush (v := 40) hx hb d_WM_menThatAre_5 (by decide +kernel) ?_
    refine lv_icmp_ge (tgt := 41) hx hb d_WM_menThatAre_7 (by decide) (fun h => absurd h (by decide +kernel)) (fun _ => ?_)
    refine lv_aload_n hx hb d_WM_menThatAre_10 rfl (lv_at hl 3 rfl) ?_
    refine va_get (D := (dC, dI)) (ci := 0) (v := .ref (a 6)) (C := R_WM) (T := F_WM) (N := 13) hx hb htb i_WM hown hK hP 0 rfl rfl 1 (by decide) (htb (.fieldLink R_WM 18 "WaterMen" "men" "[LWaterMen$Man;") tw_70) (fun _ h9 => h9) rfl d_WM_menThatAre_11 ?_
    refine lv_iload_n hx hb d_WM_menThatAre_14 rfl (lv_at hl 0 rfl) ?_
    refine va_aldq hx hb hK hP 6 4 rfl rfl (by unfold vp_in; decide +kernel) d_WM_menThatAre_15 ?_
    obtain ⟨q_34, x_35, hq_36, hk_37⟩ := xw_man (a := a) (k := k) (i := 8) hL (by unfold vp_in; decide +kernel)
    refine hb_tv (.ref q_34) (by show va_rf (L[_]?) = _; rw [hq_36]; rfl) ?_
    refine lv_astore (lv' := [(4, .ref q_34), (3, .int 8), (2, .int 0), (0, .ref (a 0)), (1, .int p_0)]) hx hb d_WM_menThatAre_16 hl (by decide) rfl (fun ls hl => ?_)
    refine lv_aload hx hb d_WM_menThatAre_18 (lv_at hl 0 rfl) ?_
    refine lv_ifnull hx hb d_WM_menThatAre_20 ?_
    refine lv_aload hx hb d_WM_menThatAre_23 (lv_at hl 0 rfl) ?_
    refine va_get (D := (dC, dI)) (ci := 2) (v := .int 0) (C := R_Mn) (T := F_Mn) (N := 8) hx hb htb i_Mn hown hK hP x_35 hk_37 rfl 0 (by decide) (htb (.fieldLink R_WM 111 "WaterMen$Man" "state" "I") tw_160) (fun _ h9 => h9) rfl d_WM_menThatAre_25 ?_
    refine lv_iload_n hx hb d_WM_menThatAre_28 rfl (lv_at hl 4 rfl) ?_
    refine lv_icmp_ne (tgt := 35) hx hb d_WM_menThatAre_29 (by decide) (fun _ => ?_) (fun h => absurd h c_5)
    refine lv_iinc (v := 9) (lv' := [(3, .int 9), (4, .ref q_34), (2, .int 0), (0, .ref (a 0)), (1, .int p_0)]) hx hb d_WM_menThatAre_35 hl (k := 1) rfl (by decide +kernel) (by decide) rfl (fun ls hl => ?_)
    refine lv_goto (tgt := 4) hx hb d_WM_menThatAre_38 (by decide) ?_
    refine lv_iload_n hx hb d_WM_menThatAre_4 rfl (lv_at hl 0 rfl) ?_
    refine lv_bipush (v := 40) hx hb d_WM_menThatAre_5 (by decide +kernel) ?_
    refine lv_icmp_ge (tgt := 41) hx hb d_WM_menThatAre_7 (by decide) (fun h => absurd h (by decide +kernel)) (fun _ => ?_)
    refine lv_aload_n hx hb d_WM_menThatAre_10 rfl (lv_at hl 3 rfl) ?_
    refine va_get (D := (dC, dI)) (ci := 0) (v := .ref (a 6)) (C := R_WM) (T := F_WM) (N := 13) hx hb htb i_WM hown hK hP 0 rfl rfl 1 (by decide) (htb (.fieldLink R_WM 18 "WaterMen" "men" "[LWaterMen$Man;") tw_70) (fun _ h9 => h9) rfl d_WM_menThatAre_11 ?_
    refine lv_iload_n hx hb d_WM_menThatAre_14 rfl (lv_at hl 0 rfl) ?_
    refine va_aldq hx hb hK hP 6 4 rfl rfl (by unfold vp_in; decide +kernel) d_WM_menThatAre_15 ?_
    obtain ⟨q_38, x_39, hq_40, hk_41⟩ := xw_man (a := a) (k := k) (i := 9) hL (by unfold vp_in; decide +kernel)
    refine hb_tv (.ref q_38) (by show va_rf (L[_]?) = _; rw [hq_40]; rfl) ?_
    refine lv_astore (lv' := [(4, .ref q_38), (3, .int 9), (2, .int 0), (0, .ref (a 0)), (1, .int p_0)]) hx hb d_WM_menThatAre_16 hl (by decide) rfl (fun ls hl => ?_)
    refine lv_aload hx hb d_WM_menThatAre_18 (lv_at hl 0 rfl) ?_
    refine lv_ifnull hx hb d_WM_menThatAre_20 ?_
    refine lv_aload hx hb d_WM_menThatAre_23 (lv_at hl 0 rfl) ?_
    refine va_get (D := (dC, dI)) (ci := 2) (v := .int 0) (C := R_Mn) (T := F_Mn) (N := 8) hx hb htb i_Mn hown hK hP x_39 hk_41 rfl 0 (by decide) (htb (.fieldLink R_WM 111 "WaterMen$Man" "state" "I") tw_160) (fun _ h9 => h9) rfl d_WM_menThatAre_25 ?_
    refine lv_iload_n hx hb d_WM_menThatAre_28 rfl (lv_at hl 4 rfl) ?_
    refine lv_icmp_ne (tgt := 35) hx hb d_WM_menThatAre_29 (by decide) (fun _ => ?_) (fun h => absurd h c_5)
    refine lv_iinc (v := 10) (lv' := [(3, .int 10), (4, .ref q_38), (2, .int 0), (0, .ref (a 0)), (1, .int p_0)]) hx hb d_WM_menThatAre_35 hl (k := 1) rfl (by decide +kernel) (by decide) rfl (fun ls hl => ?_)
    refine lv_goto (tgt := 4) hx hb d_WM_menThatAre_38 (by decide) ?_
    refine lv_iload_n hx hb d_WM_menThatAre_4 rfl (lv_at hl 0 rfl) ?_
    refine lv_bipush (v := 40) hx hb d_WM_menThatAre_5 (by decide +kernel) ?_
    refine lv_icmp_ge (tgt := 41) hx hb d_WM_menThatAre_7 (by decide) (fun h => absurd h (by decide +kernel)) (fun _ => ?_)
    refine lv_aload_n hx hb d_WM_menThatAre_10 rfl (lv_at hl 3 rfl) ?_
    refine va_get (D := (dC, dI)) (ci := 0) (v := .ref (a 6)) (C := R_WM) (T := F_WM) (N := 13) hx hb htb i_WM hown hK hP 0 rfl rfl 1 (by decide) (htb (.fieldLink R_WM 18 "WaterMen" "men" "[LWaterMen$Man;") tw_70) (fun _ h9 => h9) rfl d_WM_menThatAre_11 ?_
    refine lv_iload_n hx hb d_WM_menThatAre_14 rfl (lv_at hl 0 rfl) ?_
    refine va_aldq hx hb hK hP 6 4 rfl rfl (by unfold vp_in; decide +kernel) d_WM_menThatAre_15 ?_
    obtain ⟨q_42, x_43, hq_44, hk_45⟩ := xw_man (a := a) (k := k) (i := 10) hL (by unfold vp_in; decide +kernel)
    refine hb_tv (.ref q_42) (by show va_rf (L[_]?) = _; rw [hq_44]; rfl) ?_
    refine lv_astore (lv' := [(4, .ref q_42), (3, .int 10), (2, .int 0), (0, .ref (a 0)), (1, .int p_0)]) hx hb d_WM_menThatAre_16 hl (by decide) rfl (fun ls hl => ?_)
    refine lv_aload hx hb d_WM_menThatAre_18 (lv_at hl 0 rfl) ?_
    refine lv_ifnull hx hb d_WM_menThatAre_20 ?_
    refine lv_aload hx hb d_WM_menThatAre_23 (lv_at hl 0 rfl) ?_
    refine va_get (D := (dC, dI)) (ci := 2) (v := .int 0) (C := R_Mn) (T := F_Mn) (N := 8) hx hb htb i_Mn hown hK hP x_43 hk_45 rfl 0 (by decide) (htb (.fieldLink R_WM 111 "WaterMen$Man" "state" "I") tw_160) (fun _ h9 => h9) rfl d_WM_menThatAre_25 ?_
    refine lv_iload_n hx hb d_WM_menThatAre_28 rfl (lv_at hl 4 rfl) ?_
    refine lv_icmp_ne (tgt := 35) hx hb d_WM_menThatAre_29 (by decide) (fun _ => ?_) (fun h => absurd h c_5)
    refine lv_iinc (v := 11) (lv' := [(3, .int 11), (4, .ref q_42), (2, .int 0), (0, .ref (a 0)), (1, .int p_0)]) hx hb d_WM_menThatAre_35 hl (k := 1) rfl (by decide +kernel) (by decide) rfl (fun ls hl => ?_)
    refine lv_goto (tgt := 4) hx hb d_WM_menThatAre_38 (by decide) ?_
    refine lv_iload_n hx hb d_WM_menThatAre_4 rfl (lv_at hl 0 rfl) ?_
    refine lv_bipush (v := 40) hx hb d_WM_menThatAre_5 (by decide +kernel) ?_
    refine lv_icmp_ge (tgt := 41) hx hb d_WM_menThatAre_7 (by decide) (fun h => absurd h (by decide +kernel)) (fun _ => ?_)
    refine lv_aload_n hx hb d_WM_menThatAre_10 rfl (lv_at hl 3 rfl) ?_
    refine va_get (D := (dC, dI)) (ci := 0) (v := .ref (a 6)) (C := R_WM) (T := F_WM) (N := 13) hx hb htb i_WM hown hK hP 0 rfl rfl 1 (by decide) (htb (.fieldLink R_WM 18 "WaterMen" "men" "[LWaterMen$Man;") tw_70) (fun _ h9 => h9) rfl d_WM_menThatAre_11 ?_
    refine lv_iload_n hx hb d_WM_menThatAre_14 rfl (lv_at hl 0 rfl) ?_
    refine va_aldq hx hb hK hP 6 4 rfl rfl (by unfold vp_in; decide +kernel) d_WM_menThatAre_15 ?_
    obtain ⟨q_46, x_47, hq_48, hk_49⟩ := xw_man (a := a) (k := k) (i := 11) hL (by unfold vp_in; decide +kernel)
    refine hb_tv (.ref q_46) (by show va_rf (L[_]?) = _; rw [hq_48]; rfl) ?_
    refine lv_astore (lv' := [(4, .ref q_46), (3, .int 11), (2, .int 0), (0, .ref (a 0)), (1, .int p_0)]) hx hb d_WM_menThatAre_16 hl (by decide) rfl (fun ls hl => ?_)
    refine lv_aload hx hb d_WM_menThatAre_18 (lv_at hl 0 rfl) ?_
    refine lv_ifnull hx hb d_WM_menThatAre_20 ?_
    refine lv_aload hx hb d_WM_menThatAre_23 (lv_at hl 0 rfl) ?_
    refine va_get (D := (dC, dI)) (ci := 2) (v := .int 0) (C := R_Mn) (T := F_Mn) (N := 8) hx hb htb i_Mn hown hK hP x_47 hk_49 rfl 0 (by decide) (htb (.fieldLink R_WM 111 "WaterMen$Man" "state" "I") tw_160) (fun _ h9 => h9) rfl d_WM_menThatAre_25 ?_
    refine lv_iload_n hx hb d_WM_menThatAre_28 rfl (lv_at hl 4 rfl) ?_
    refine lv_icmp_ne (tgt := 35) hx hb d_WM_menThatAre_29 (by decide) (fun _ => ?_) (fun h => absurd h c_5)
    refine lv_iinc (v := 12) (lv' := [(3, .int 12), (4, .ref q_46), (2, .int 0), (0, .ref (a 0)), (1, .int p_0)]) hx hb d_WM_menThatAre_35 hl (k := 1) rfl (by decide +kernel) (by decide) rfl (fun ls hl => ?_)
    refine lv_goto (tgt := 4) hx hb d_WM_menThatAre_38 (by decide) ?_
    refine lv_iload_n hx hb d_WM_menThatAre_4 rfl (lv_at hl 0 rfl) ?_
    refine lv_bipush (v := 40) hx hb d_WM_menThatAre_5 (by decide +kernel) ?_
    refine lv_icmp_ge (tgt := 41) hx hb d_WM_menThatAre_7 (by decide) (fun h => absurd h (by decide +kernel)) (fun _ => ?_)
    refine lv_aload_n hx hb d_WM_menThatAre_10 rfl (lv_at hl 3 rfl) ?_
    refine va_get (D := (dC, dI)) (ci := 0) (v := .ref (a 6)) (C := R_WM) (T := F_WM) (N := 13) hx hb htb i_WM hown hK hP 0 rfl rfl 1 (by decide) (htb (.fieldLink R_WM 18 "WaterMen" "men" "[LWaterMen$Man;") tw_70) (fun _ h9 => h9) rfl d_WM_menThatAre_11 ?_
    refine lv_iload_n hx hb d_WM_menThatAre_14 rfl (lv_at hl 0 rfl) ?_
    refine va_aldq hx hb hK hP 6 4 rfl rfl (by unfold vp_in; decide +kernel) d_WM_menThatAre_15 ?_
    obtain ⟨q_50, x_51, hq_52, hk_53⟩ := xw_man (a := a) (k := k) (i := 12) hL (by unfold vp_in; decide +kernel)
    refine hb_tv (.ref q_50) (by show va_rf (L[_]?) = _; rw [hq_52]; rfl) ?_
    refine lv_astore (lv' := [(4, .ref q_50), (3, .int 12), (2, .int 0), (0, .ref (a 0)), (1, .int p_0)]) hx hb d_WM_menThatAre_16 hl (by decide) rfl (fun ls hl => ?_)
    refine lv_aload hx hb d_WM_menThatAre_18 (lv_at hl 0 rfl) ?_
    refine lv_ifnull hx hb d_WM_menThatAre_20 ?_
    refine lv_aload hx hb d_WM_menThatAre_23 (lv_at hl 0 rfl) ?_
    refine va_get (D := (dC, dI)) (ci := 2) (v := .int 0) (C := R_Mn) (T := F_Mn) (N := 8) hx hb htb i_Mn hown hK hP x_51 hk_53 rfl 0 (by decide) (htb (.fieldLink R_WM 111 "WaterMen$Man" "state" "I") tw_160) (fun _ h9 => h9) rfl d_WM_menThatAre_25 ?_
    refine lv_iload_n hx hb d_WM_menThatAre_28 rfl (lv_at hl 4 rfl) ?_
    refine lv_icmp_ne (tgt := 35) hx hb d_WM_menThatAre_29 (by decide) (fun _ => ?_) (fun h => absurd h c_5)
    refine lv_iinc (v := 13) (lv' := [(3, .int 13), (4, .ref q_50), (2, .int 0), (0, .ref (a 0)), (1, .int p_0)]) hx hb d_WM_menThatAre_35 hl (k := 1) rfl (by decide +kernel) (by decide) rfl (fun ls hl => ?_)
    refine lv_goto (tgt := 4) hx hb d_WM_menThatAre_38 (by decide) ?_
    refine lv_iload_n hx hb d_WM_menThatAre_4 rfl (lv_at hl 0 rfl) ?_
    refine lv_bipush (v := 40) hx hb d_WM_menThatAre_5 (by decide +kernel) ?_
    refine lv_icmp_ge (tgt := 41) hx hb d_WM_menThatAre_7 (by decide) (fun h => absurd h (by decide +kernel)) (fun _ => ?_)
    refine lv_aload_n hx hb d_WM_menThatAre_10 rfl (lv_at hl 3 rfl) ?_
    refine va_get (D := (dC, dI)) (ci := 0) (v := .ref (a 6)) (C := R_WM) (T := F_WM) (N := 13) hx hb htb i_WM hown hK hP 0 rfl rfl 1 (by decide) (htb (.fieldLink R_WM 18 "WaterMen" "men" "[LWaterMen$Man;") tw_70) (fun _ h9 => h9) rfl d_WM_menThatAre_11 ?_
    refine lv_iload_n hx hb d_WM_menThatAre_14 rfl (lv_at hl 0 rfl) ?_
    refine va_aldq hx hb hK hP 6 4 rfl rfl (by unfold vp_in; decide +kernel) d_WM_menThatAre_15 ?_
    obtain ⟨q_54, x_55, hq_56, hk_57⟩ := xw_man (a := a) (k := k) (i := 13) hL (by unfold vp_in; decide +kernel)
    refine hb_tv (.ref q_54) (by show va_rf (L[_]?) = _; rw [hq_56]; rfl) ?_
    refine lv_astore (lv' := [(4, .ref q_54), (3, .int 13), (2, .int 0), (0, .ref (a 0)), (1, .int p_0)]) hx hb d_WM_menThatAre_16 hl (by decide) rfl (fun ls hl => ?_)
    refine lv_aload hx hb d_WM_menThatAre_18 (lv_at hl 0 rfl) ?_
    refine lv_ifnull hx hb d_WM_menThatAre_20 ?_
    refine lv_aload hx hb d_WM_menThatAre_23 (lv_at hl 0 rfl) ?_
    refine va_get (D := (dC, dI)) (ci := 2) (v := .int 0) (C := R_Mn) (T := F_Mn) (N := 8) hx hb htb i_Mn hown hK hP x_55 hk_57 rfl 0 (by decide) (htb (.fieldLink R_WM 111 "WaterMen$Man" "state" "I") tw_160) (fun _ h9 => h9) rfl d_WM_menThatAre_25 ?_
    refine lv_iload_n hx hb d_WM_menThatAre_28 rfl (lv_at hl 4 rfl) ?_
    refine lv_icmp_ne (tgt := 35) hx hb d_WM_menThatAre_29 (by decide) (fun _ => ?_) (fun h => absurd h c_5)
    refine lv_iinc (v := 14) (lv' := [(3, .int 14), (4, .ref q_54), (2, .int 0), (0, .ref (a 0)), (1, .int p_0)]) hx hb d_WM_menThatAre_35 hl (k := 1) rfl (by decide +kernel) (by decide) rfl (fun ls hl => ?_)
    refine lv_goto (tgt := 4) hx hb d_WM_menThatAre_38 (by decide) ?_
    refine lv_iload_n hx hb d_WM_menThatAre_4 rfl (lv_at hl 0 rfl) ?_
    refine lv_bipush (v := 40) hx hb d_WM_menThatAre_5 (by decide +kernel) ?_
    refine lv_icmp_ge (tgt := 41) hx hb d_WM_menThatAre_7 (by decide) (fun h => absurd h (by decide +kernel)) (fun _ => ?_)
    refine lv_aload_n hx hb d_WM_menThatAre_10 rfl (lv_at hl 3 rfl) ?_
    refine va_get (D := (dC, dI)) (ci := 0) (v := .ref (a 6)) (C := R_WM) (T := F_WM) (N := 13) hx hb htb i_WM hown hK hP 0 rfl rfl 1 (by decide) (htb (.fieldLink R_WM 18 "WaterMen" "men" "[LWaterMen$Man;") tw_70) (fun _ h9 => h9) rfl d_WM_menThatAre_11 ?_
    refine lv_iload_n hx hb d_WM_menThatAre_14 rfl (lv_at hl 0 rfl) ?_
    refine va_aldq hx hb hK hP 6 4 rfl rfl (by unfold vp_in; decide +kernel) d_WM_menThatAre_15 ?_
    obtain ⟨q_58, x_59, hq_60, hk_61⟩ := xw_man (a := a) (k := k) (i := 14) hL (by unfold vp_in; decide +kernel)
    refine hb_tv (.ref q_58) (by show va_rf (L[_]?) = _; rw [hq_60]; rfl) ?_
    refine lv_astore (lv' := [(4, .ref q_58), (3, .int 14), (2, .int 0), (0, .ref (a 0)), (1, .int p_0)]) hx hb d_WM_menThatAre_16 hl (by decide) rfl (fun ls hl => ?_)
    refine lv_aload hx hb d_WM_menThatAre_18 (lv_at hl 0 rfl) ?_
    refine lv_ifnull hx hb d_WM_menThatAre_20 ?_
    refine lv_aload hx hb d_WM_menThatAre_23 (lv_at hl 0 rfl) ?_
    refine va_get (D := (dC, dI)) (ci := 2) (v := .int 0) (C := R_Mn) (T := F_Mn) (N := 8) hx hb htb i_Mn hown hK hP x_59 hk_61 rfl 0 (by decide) (htb (.fieldLink R_WM 111 "WaterMen$Man" "state" "I") tw_160) (fun _ h9 => h9) rfl d_WM_menThatAre_25 ?_
    refine lv_iload_n hx hb d_WM_menThatAre_28 rfl (lv_at hl 4 rfl) ?_
    refine lv_icmp_ne (tgt := 35) hx hb d_WM_menThatAre_29 (by decide) (fun _ => ?_) (fun h => absurd h c_5)
    refine lv_iinc (v := 15) (lv' := [(3, .int 15), (4, .ref q_58), (2, .int 0), (0, .ref (a 0)), (1, .int p_0)]) hx hb d_WM_menThatAre_35 hl (k := 1) rfl (by decide +kernel) (by decide) rfl (fun ls hl => ?_)
    refine lv_goto (tgt := 4) hx hb d_WM_menThatAre_38 (by decide) ?_
    refine lv_iload_n hx hb d_WM_menThatAre_4 rfl (lv_at hl 0 rfl) ?_
    refine lv_bipush (v := 40) hx hb d_WM_menThatAre_5 (by decide +kernel) ?_
    refine lv_icmp_ge (tgt := 41) hx hb d_WM_menThatAre_7 (by decide) (fun h => absurd h (by decide +kernel)) (fun _ => ?_)
    refine lv_aload_n hx hb d_WM_menThatAre_10 rfl (lv_at hl 3 rfl) ?_
    refine va_get (D := (dC, dI)) (ci := 0) (v := .ref (a 6)) (C := R_WM) (T := F_WM) (N := 13) hx hb htb i_WM hown hK hP 0 rfl rfl 1 (by decide) (htb (.fieldLink R_WM 18 "WaterMen" "men" "[LWaterMen$Man;") tw_70) (fun _ h9 => h9) rfl d_WM_menThatAre_11 ?_
    refine lv_iload_n hx hb d_WM_menThatAre_14 rfl (lv_at hl 0 rfl) ?_
    refine va_aldq hx hb hK hP 6 4 rfl rfl (by unfold vp_in; decide +kernel) d_WM_menThatAre_15 ?_
    obtain ⟨q_62, x_63, hq_64, hk_65⟩ := xw_man (a := a) (k := k) (i := 15) hL (by unfold vp_in; decide +kernel)
    refine hb_tv (.ref q_62) (by show va_rf (L[_]?) = _; rw [hq_64]; rfl) ?_
    refine lv_astore (lv' := [(4, .ref q_62), (3, .int 15), (2, .int 0), (0, .ref (a 0)), (1, .int p_0)]) hx hb d_WM_menThatAre_16 hl (by decide) rfl (fun ls hl => ?_)
    refine lv_aload hx hb d_WM_menThatAre_18 (lv_at hl 0 rfl) ?_
    refine lv_ifnull hx hb d_WM_menThatAre_20 ?_
    refine lv_aload hx hb d_WM_menThatAre_23 (lv_at hl 0 rfl) ?_
    refine va_get (D := (dC, dI)) (ci := 2) (v := .int 0) (C := R_Mn) (T := F_Mn) (N := 8) hx hb htb i_Mn hown hK hP x_63 hk_65 rfl 0 (by decide) (htb (.fieldLink R_WM 111 "WaterMen$Man" "state" "I") tw_160) (fun _ h9 => h9) rfl d_WM_menThatAre_25 ?_
    refine lv_iload_n hx hb d_WM_menThatAre_28 rfl (lv_at hl 4 rfl) ?_
    refine lv_icmp_ne (tgt := 35) hx hb d_WM_menThatAre_29 (by decide) (fun _ => ?_) (fun h => absurd h c_5)
    refine lv_iinc (v := 16) (lv' := [(3, .int 16), (4, .ref q_62), (2, .int 0), (0, .ref (a 0)), (1, .int p_0)]) hx hb d_WM_menThatAre_35 hl (k := 1) rfl (by decide +kernel) (by decide) rfl (fun ls hl => ?_)
    refine lv_goto (tgt := 4) hx hb d_WM_menThatAre_38 (by decide) ?_
    refine lv_iload_n hx hb d_WM_menThatAre_4 rfl (lv_at hl 0 rfl) ?_
    refine lv_bipush (v := 40) hx hb d_WM_menThatAre_5 (by decide +kernel) ?_
    refine lv_icmp_ge (tgt := 41) hx hb d_WM_menThatAre_7 (by decide) (fun h => absurd h (by decide +kernel)) (fun _ => ?_)
    refine lv_aload_n hx hb d_WM_menThatAre_10 rfl (lv_at hl 3 rfl) ?_
    refine va_get (D := (dC, dI)) (ci := 0) (v := .ref (a 6)) (C := R_WM) (T := F_WM) (N := 13) hx hb htb i_WM hown hK hP 0 rfl rfl 1 (by decide) (htb (.fieldLink R_WM 18 "WaterMen" "men" "[LWaterMen$Man;") tw_70) (fun _ h9 => h9) rfl d_WM_menThatAre_11 ?_
    refine lv_iload_n hx hb d_WM_menThatAre_14 rfl (lv_at hl 0 rfl) ?_
    refine va_aldq hx hb hK hP 6 4 rfl rfl (by unfold vp_in; decide +kernel) d_WM_menThatAre_15 ?_
    obtain ⟨q_66, x_67, hq_68, hk_69⟩ := xw_man (a := a) (k := k) (i := 16) hL (by unfold vp_in; decide +kernel)
    refine hb_tv (.ref q_66) (by show va_rf (L[_]?) = _; rw [hq_68]; rfl) ?_
    refine lv_astore (lv' := [(4, .ref q_66), (3, .int 16), (2, .int 0), (0, .ref (a 0)), (1, .int p_0)]) hx hb d_WM_menThatAre_16 hl (by decide) rfl (fun ls hl => ?_)
    refine lv_aload hx hb d_WM_menThatAre_18 (lv_at hl 0 rfl) ?_
    refine lv_ifnull hx hb d_WM_menThatAre_20 ?_
    refine lv_aload hx hb d_WM_menThatAre_23 (lv_at hl 0 rfl) ?_
    refine va_get (D := (dC, dI)) (ci := 2) (v := .int 0) (C := R_Mn) (T := F_Mn) (N := 8) hx hb htb i_Mn hown hK hP x_67 hk_69 rfl 0 (by decide) (htb (.fieldLink R_WM 111 "WaterMen$Man" "state" "I") tw_160) (fun _ h9 => h9) rfl d_WM_menThatAre_25 ?_
    refine lv_iload_n hx hb d_WM_menThatAre_28 rfl (lv_at hl 4 rfl) ?_
    refine lv_icmp_ne (tgt := 35) hx hb d_WM_menThatAre_29 (by decide) (fun _ => ?_) (fun h => absurd h c_5)
    refine lv_iinc (v := 17) (lv' := [(3, .int 17), (4, .ref q_66), (2, .int 0), (0, .ref (a 0)), (1, .int p_0)]) hx hb d_WM_menThatAre_35 hl (k := 1) rfl (by decide +kernel) (by decide) rfl (fun ls hl => ?_)
    refine lv_goto (tgt := 4) hx hb d_WM_menThatAre_38 (by decide) ?_
    refine lv_iload_n hx hb d_WM_menThatAre_4 rfl (lv_at hl 0 rfl) ?_
    refine lv_bipush (v := 40) hx hb d_WM_menThatAre_5 (by decide +kernel) ?_
    refine lv_icmp_ge (tgt := 41) hx hb d_WM_menThatAre_7 (by decide) (fun h => absurd h (by decide +kernel)) (fun _ => ?_)
    refine lv_aload_n hx hb d_WM_menThatAre_10 rfl (lv_at hl 3 rfl) ?_
    refine va_get (D := (dC, dI)) (ci := 0) (v := .ref (a 6)) (C := R_WM) (T := F_WM) (N := 13) hx hb htb i_WM hown hK hP 0 rfl rfl 1 (by decide) (htb (.fieldLink R_WM 18 "WaterMen" "men" "[LWaterMen$Man;") tw_70) (fun _ h9 => h9) rfl d_WM_menThatAre_11 ?_
    refine lv_iload_n hx hb d_WM_menThatAre_14 rfl (lv_at hl 0 rfl) ?_
    refine va_aldq hx hb hK hP 6 4 rfl rfl (by unfold vp_in; decide +kernel) d_WM_menThatAre_15 ?_
    obtain ⟨q_70, x_71, hq_72, hk_73⟩ := xw_man (a := a) (k := k) (i := 17) hL (by unfold vp_in; decide +kernel)
    refine hb_tv (.ref q_70) (by show va_rf (L[_]?) = _; rw [hq_72]; rfl) ?_
    refine lv_astore (lv' := [(4, .ref q_70), (3, .int 17), (2, .int 0), (0, .ref (a 0)), (1, .int p_0)]) hx hb d_WM_menThatAre_16 hl (by decide) rfl (fun ls hl => ?_)
    refine lv_aload hx hb d_WM_menThatAre_18 (lv_at hl 0 rfl) ?_
    refine lv_ifnull hx hb d_WM_menThatAre_20 ?_
    refine lv_aload hx hb d_WM_menThatAre_23 (lv_at hl 0 rfl) ?_
    refine va_get (D := (dC, dI)) (ci := 2) (v := .int 0) (C := R_Mn) (T := F_Mn) (N := 8) hx hb htb i_Mn hown hK hP x_71 hk_73 rfl 0 (by decide) (htb (.fieldLink R_WM 111 "WaterMen$Man" "state" "I") tw_160) (fun _ h9 => h9) rfl d_WM_menThatAre_25 ?_
    refine lv_iload_n hx hb d_WM_menThatAre_28 rfl (lv_at hl 4 rfl) ?_
    refine lv_icmp_ne (tgt := 35) hx hb d_WM_menThatAre_29 (by decide) (fun _ => ?_) (fun h => absurd h c_5)
    refine lv_iinc (v := 18) (lv' := [(3, .int 18), (4, .ref q_70), (2, .int 0), (0, .ref (a 0)), (1, .int p_0)]) hx hb d_WM_menThatAre_35 hl (k := 1) rfl (by decide +kernel) (by decide) rfl (fun ls hl => ?_)
    refine lv_goto (tgt := 4) hx hb d_WM_menThatAre_38 (by decide) ?_
    refine lv_iload_n hx hb d_WM_menThatAre_4 rfl (lv_at hl 0 rfl) ?_
    refine lv_bipush (v := 40) hx hb d_WM_menThatAre_5 (by decide +kernel) ?_
    refine lv_icmp_ge (tgt := 41) hx hb d_WM_menThatAre_7 (by decide) (fun h => absurd h (by decide +kernel)) (fun _ => ?_)
    refine lv_aload_n hx hb d_WM_menThatAre_10 rfl (lv_at hl 3 rfl) ?_
    refine va_get (D := (dC, dI)) (ci := 0) (v := .ref (a 6)) (C := R_WM) (T := F_WM) (N := 13) hx hb htb i_WM hown hK hP 0 rfl rfl 1 (by decide) (htb (.fieldLink R_WM 18 "WaterMen" "men" "[LWaterMen$Man;") tw_70) (fun _ h9 => h9) rfl d_WM_menThatAre_11 ?_
    refine lv_iload_n hx hb d_WM_menThatAre_14 rfl (lv_at hl 0 rfl) ?_
    refine va_aldq hx hb hK hP 6 4 rfl rfl (by unfold vp_in; decide +kernel) d_WM_menThatAre_15 ?_
    obtain ⟨q_74, x_75, hq_76, hk_77⟩ := xw_man (a := a) (k := k) (i := 18) hL (by unfold vp_in; decide +kernel)
    refine hb_tv (.ref q_74) (by show va_rf (L[_]?) = _; rw [hq_76]; rfl) ?_
    refine lv_astore (lv' := [(4, .ref q_74), (3, .int 18), (2, .int 0), (0, .ref (a 0)), (1, .int p_0)]) hx hb d_WM_menThatAre_16 hl (by decide) rfl (fun ls hl => ?_)
    refine lv_aload hx hb d_WM_menThatAre_18 (lv_at hl 0 rfl) ?_
    refine lv_ifnull hx hb d_WM_menThatAre_20 ?_
    refine lv_aload hx hb d_WM_menThatAre_23 (lv_at hl 0 rfl) ?_
    refine va_get (D := (dC, dI)) (ci := 2) (v := .int 0) (C := R_Mn) (T := F_Mn) (N := 8) hx hb htb i_Mn hown hK hP x_75 hk_77 rfl 0 (by decide) (htb (.fieldLink R_WM 111 "WaterMen$Man" "state" "I") tw_160) (fun _ h9 => h9) rfl d_WM_menThatAre_25 ?_
    refine lv_iload_n hx hb d_WM_menThatAre_28 rfl (lv_at hl 4 rfl) ?_
    refine lv_icmp_ne (tgt := 35) hx hb d_WM_menThatAre_29 (by decide) (fun _ => ?_) (fun h => absurd h c_5)
    refine lv_iinc (v := 19) (lv' := [(3, .int 19), (4, .ref q_74), (2, .int 0), (0, .ref (a 0)), (1, .int p_0)]) hx hb d_WM_menThatAre_35 hl (k := 1) rfl (by decide +kernel) (by decide) rfl (fun ls hl => ?_)
    refine lv_goto (tgt := 4) hx hb d_WM_menThatAre_38 (by decide) ?_
    refine lv_iload_n hx hb d_WM_menThatAre_4 rfl (lv_at hl 0 rfl) ?_
    refine lv_bipush (v := 40) hx hb d_WM_menThatAre_5 (by decide +kernel) ?_
    refine lv_icmp_ge (tgt := 41) hx hb d_WM_menThatAre_7 (by decide) (fun h => absurd h (by decide +kernel)) (fun _ => ?_)
    refine lv_aload_n hx hb d_WM_menThatAre_10 rfl (lv_at hl 3 rfl) ?_
    refine va_get (D := (dC, dI)) (ci := 0) (v := .ref (a 6)) (C := R_WM) (T := F_WM) (N := 13) hx hb htb i_WM hown hK hP 0 rfl rfl 1 (by decide) (htb (.fieldLink R_WM 18 "WaterMen" "men" "[LWaterMen$Man;") tw_70) (fun _ h9 => h9) rfl d_WM_menThatAre_11 ?_
    refine lv_iload_n hx hb d_WM_menThatAre_14 rfl (lv_at hl 0 rfl) ?_
    refine va_aldq hx hb hK hP 6 4 rfl rfl (by unfold vp_in; decide +kernel) d_WM_menThatAre_15 ?_
    obtain ⟨q_78, x_79, hq_80, hk_81⟩ := xw_man (a := a) (k := k) (i := 19) hL (by unfold vp_in; decide +kernel)
    refine hb_tv (.ref q_78) (by show va_rf (L[_]?) = _; rw [hq_80]; rfl) ?_
    refine lv_astore (lv' := [(4, .ref q_78), (3, .int 19), (2, .int 0), (0, .ref (a 0)), (1, .int p_0)]) hx hb d_WM_menThatAre_16 hl (by decide) rfl (fun ls hl => ?_)
    refine lv_aload hx hb d_WM_menThatAre_18 (lv_at hl 0 rfl) ?_
    refine lv_ifnull hx hb d_WM_menThatAre_20 ?_
    refine lv_aload hx hb d_WM_menThatAre_23 (lv_at hl 0 rfl) ?_
    refine va_get (D := (dC, dI)) (ci := 2) (v := .int 0) (C := R_Mn) (T := F_Mn) (N := 8) hx hb htb i_Mn hown hK hP x_79 hk_81 rfl 0 (by decide) (htb (.fieldLink R_WM 111 "WaterMen$Man" "state" "I") tw_160) (fun _ h9 => h9) rfl d_WM_menThatAre_25 ?_
    refine lv_iload_n hx hb d_WM_menThatAre_28 rfl (lv_at hl 4 rfl) ?_
    refine lv_icmp_ne (tgt := 35) hx hb d_WM_menThatAre_29 (by decide) (fun _ => ?_) (fun h => absurd h c_5)
    refine lv_iinc (v := 20) (lv' := [(3, .int 20), (4, .ref q_78), (2, .int 0), (0, .ref (a 0)), (1, .int p_0)]) hx hb d_WM_menThatAre_35 hl (k := 1) rfl (by decide +kernel) (by decide) rfl (fun ls hl => ?_)
    refine lv_goto (tgt := 4) hx hb d_WM_menThatAre_38 (by decide) ?_
    refine lv_iload_n hx hb d_WM_menThatAre_4 rfl (lv_at hl 0 rfl) ?_
    refine lv_bipush (v := 40) hx hb d_WM_menThatAre_5 (by decide +kernel) ?_
    refine lv_icmp_ge (tgt := 41) hx hb d_WM_menThatAre_7 (by decide) (fun h => absurd h (by decide +kernel)) (fun _ => ?_)
    refine lv_aload_n hx hb d_WM_menThatAre_10 rfl (lv_at hl 3 rfl) ?_
    refine va_get (D := (dC, dI)) (ci := 0) (v := .ref (a 6)) (C := R_WM) (T := F_WM) (N := 13) hx hb htb i_WM hown hK hP 0 rfl rfl 1 (by decide) (htb (.fieldLink R_WM 18 "WaterMen" "men" "[LWaterMen$Man;") tw_70) (fun _ h9 => h9) rfl d_WM_menThatAre_11 ?_
    refine lv_iload_n hx hb d_WM_menThatAre_14 rfl (lv_at hl 0 rfl) ?_
    refine va_aldq hx hb hK hP 6 4 rfl rfl (by unfold vp_in; decide +kernel) d_WM_menThatAre_15 ?_
    obtain ⟨q_82, x_83, hq_84, hk_85⟩ := xw_man (a := a) (k := k) (i := 20) hL (by unfold vp_in; decide +kernel)
    refine hb_tv (.ref q_82) (by show va_rf (L[_]?) = _; rw [hq_84]; rfl) ?_
    refine lv_astore (lv' := [(4, .ref q_82), (3, .int 20), (2, .int 0), (0, .ref (a 0)), (1, .int p_0)]) hx hb d_WM_menThatAre_16 hl (by decide) rfl (fun ls hl => ?_)
    refine lv_aload hx hb d_WM_menThatAre_18 (lv_at hl 0 rfl) ?_
    refine lv_ifnull hx hb d_WM_menThatAre_20 ?_
    refine lv_aload hx hb d_WM_menThatAre_23 (lv_at hl 0 rfl) ?_
    refine va_get (D := (dC, dI)) (ci := 2) (v := .int 0) (C := R_Mn) (T := F_Mn) (N := 8) hx hb htb i_Mn hown hK hP x_83 hk_85 rfl 0 (by decide) (htb (.fieldLink R_WM 111 "WaterMen$Man" "state" "I") tw_160) (fun _ h9 => h9) rfl d_WM_menThatAre_25 ?_
    refine lv_iload_n hx hb d_WM_menThatAre_28 rfl (lv_at hl 4 rfl) ?_
    refine lv_icmp_ne (tgt := 35) hx hb d_WM_menThatAre_29 (by decide) (fun _ => ?_) (fun h => absurd h c_5)
    refine lv_iinc (v := 21) (lv' := [(3, .int 21), (4, .ref q_82), (2, .int 0), (0, .ref (a 0)), (1, .int p_0)]) hx hb d_WM_menThatAre_35 hl (k := 1) rfl (by decide +kernel) (by decide) rfl (fun ls hl => ?_)
    refine lv_goto (tgt := 4) hx hb d_WM_menThatAre_38 (by decide) ?_
    refine lv_iload_n hx hb d_WM_menThatAre_4 rfl (lv_at hl 0 rfl) ?_
    refine lv_bipush (v := 40) hx hb d_WM_menThatAre_5 (by decide +kernel) ?_
    refine lv_icmp_ge (tgt := 41) hx hb d_WM_menThatAre_7 (by decide) (fun h => absurd h (by decide +kernel)) (fun _ => ?_)
    refine lv_aload_n hx hb d_WM_menThatAre_10 rfl (lv_at hl 3 rfl) ?_
    refine va_get (D := (dC, dI)) (ci := 0) (v := .ref (a 6)) (C := R_WM) (T := F_WM) (N := 13) hx hb htb i_WM hown hK hP 0 rfl rfl 1 (by decide) (htb (.fieldLink R_WM 18 "WaterMen" "men" "[LWaterMen$Man;") tw_70) (fun _ h9 => h9) rfl d_WM_menThatAre_11 ?_
    refine lv_iload_n hx hb d_WM_menThatAre_14 rfl (lv_at hl 0 rfl) ?_
    refine va_aldq hx hb hK hP 6 4 rfl rfl (by unfold vp_in; decide +kernel) d_WM_menThatAre_15 ?_
    obtain ⟨q_86, x_87, hq_88, hk_89⟩ := xw_man (a := a) (k := k) (i := 21) hL (by unfold vp_in; decide +kernel)
    refine hb_tv (.ref q_86) (by show va_rf (L[_]?) = _; rw [hq_88]; rfl) ?_
    refine lv_astore (lv' := [(4, .ref q_86), (3, .int 21), (2, .int 0), (0, .ref (a 0)), (1, .int p_0)]) hx hb d_WM_menThatAre_16 hl (by decide) rfl (fun ls hl => ?_)
    refine lv_aload hx hb d_WM_menThatAre_18 (lv_at hl 0 rfl) ?_
    refine lv_ifnull hx hb d_WM_menThatAre_20 ?_
    refine lv_aload hx hb d_WM_menThatAre_23 (lv_at hl 0 rfl) ?_
    refine va_get (D := (dC, dI)) (ci := 2) (v := .int 0) (C := R_Mn) (T := F_Mn) (N := 8) hx hb htb i_Mn hown hK hP x_87 hk_89 rfl 0 (by decide) (htb (.fieldLink R_WM 111 "WaterMen$Man" "state" "I") tw_160) (fun _ h9 => h9) rfl d_WM_menThatAre_25 ?_
    refine lv_iload_n hx hb d_WM_menThatAre_28 rfl (lv_at hl 4 rfl) ?_
    refine lv_icmp_ne (tgt := 35) hx hb d_WM_menThatAre_29 (by decide) (fun _ => ?_) (fun h => absurd h c_5)
    refine lv_iinc (v := 22) (lv' := [(3, .int 22), (4, .ref q_86), (2, .int 0), (0, .ref (a 0)), (1, .int p_0)]) hx hb d_WM_menThatAre_35 hl (k := 1) rfl (by decide +kernel) (by decide) rfl (fun ls hl => ?_)
    refine lv_goto (tgt := 4) hx hb d_WM_menThatAre_38 (by decide) ?_
    refine lv_iload_n hx hb d_WM_menThatAre_4 rfl (lv_at hl 0 rfl) ?_
    refine lv_bipush (v := 40) hx hb d_WM_menThatAre_5 (by decide +kernel) ?_
    refine lv_icmp_ge (tgt := 41) hx hb d_WM_menThatAre_7 (by decide) (fun h => absurd h (by decide +kernel)) (fun _ => ?_)
    refine lv_aload_n hx hb d_WM_menThatAre_10 rfl (lv_at hl 3 rfl) ?_
    refine va_get (D := (dC, dI)) (ci := 0) (v := .ref (a 6)) (C := R_WM) (T := F_WM) (N := 13) hx hb htb i_WM hown hK hP 0 rfl rfl 1 (by decide) (htb (.fieldLink R_WM 18 "WaterMen" "men" "[LWaterMen$Man;") tw_70) (fun _ h9 => h9) rfl d_WM_menThatAre_11 ?_
    refine lv_iload_n hx hb d_WM_menThatAre_14 rfl (lv_at hl 0 rfl) ?_
    refine va_aldq hx hb hK hP 6 4 rfl rfl (by unfold vp_in; decide +kernel) d_WM_menThatAre_15 ?_
    obtain ⟨q_90, x_91, hq_92, hk_93⟩ := xw_man (a := a) (k := k) (i := 22) hL (by unfold vp_in; decide +kernel)
    refine hb_tv (.ref q_90) (by show va_rf (L[_]?) = _; rw [hq_92]; rfl) ?_
    refine lv_astore (lv' := [(4, .ref q_90), (3, .int 22), (2, .int 0), (0, .ref (a 0)), (1, .int p_0)]) hx hb d_WM_menThatAre_16 hl (by decide) rfl (fun ls hl => ?_)
    refine lv_aload hx hb d_WM_menThatAre_18 (lv_at hl 0 rfl) ?_
    refine lv_ifnull hx hb d_WM_menThatAre_20 ?_
    refine lv_aload hx hb d_WM_menThatAre_23 (lv_at hl 0 rfl) ?_
    refine va_get (D := (dC, dI)) (ci := 2) (v := .int 0) (C := R_Mn) (T := F_Mn) (N := 8) hx hb htb i_Mn hown hK hP x_91 hk_93 rfl 0 (by decide) (htb (.fieldLink R_WM 111 "WaterMen$Man" "state" "I") tw_160) (fun _ h9 => h9) rfl d_WM_menThatAre_25 ?_
    refine lv_iload_n hx hb d_WM_menThatAre_28 rfl (lv_at hl 4 rfl) ?_
    refine lv_icmp_ne (tgt := 35) hx hb d_WM_menThatAre_29 (by decide) (fun _ => ?_) (fun h => absurd h c_5)
    refine lv_iinc (v := 23) (lv' := [(3, .int 23), (4, .ref q_90), (2, .int 0), (0, .ref (a 0)), (1, .int p_0)]) hx hb d_WM_menThatAre_35 hl (k := 1) rfl (by decide +kernel) (by decide) rfl (fun ls hl => ?_)
    refine lv_goto (tgt := 4) hx hb d_WM_menThatAre_38 (by decide) ?_
    refine lv_iload_n hx hb d_WM_menThatAre_4 rfl (lv_at hl 0 rfl) ?_
    refine lv_bipush (v := 40) hx hb d_WM_menThatAre_5 (by decide +kernel) ?_
    refine lv_icmp_ge (tgt := 41) hx hb d_WM_menThatAre_7 (by decide) (fun h => absurd h (by decide +kernel)) (fun _ => ?_)
    refine lv_aload_n hx hb d_WM_menThatAre_10 rfl (lv_at hl 3 rfl) ?_
    refine va_get (D := (dC, dI)) (ci := 0) (v := .ref (a 6)) (C := R_WM) (T := F_WM) (N := 13) hx hb htb i_WM hown hK hP 0 rfl rfl 1 (by decide) (htb (.fieldLink R_WM 18 "WaterMen" "men" "[LWaterMen$Man;") tw_70) (fun _ h9 => h9) rfl d_WM_menThatAre_11 ?_
    refine lv_iload_n hx hb d_WM_menThatAre_14 rfl (lv_at hl 0 rfl) ?_
    refine va_aldq hx hb hK hP 6 4 rfl rfl (by unfold vp_in; decide +kernel) d_WM_menThatAre_15 ?_
    obtain ⟨q_94, x_95, hq_96, hk_97⟩ := xw_man (a := a) (k := k) (i := 23) hL (by unfold vp_in; decide +kernel)
    refine hb_tv (.ref q_94) (by show va_rf (L[_]?) = _; rw [hq_96]; rfl) ?_
    refine lv_astore (lv' := [(4, .ref q_94), (3, .int 23), (2, .int 0), (0, .ref (a 0)), (1, .int p_0)]) hx hb d_WM_menThatAre_16 hl (by decide) rfl (fun ls hl => ?_)
    refine lv_aload hx hb d_WM_menThatAre_18 (lv_at hl 0 rfl) ?_
    refine lv_ifnull hx hb d_WM_menThatAre_20 ?_
    refine lv_aload hx hb d_WM_menThatAre_23 (lv_at hl 0 rfl) ?_
    refine va_get (D := (dC, dI)) (ci := 2) (v := .int 0) (C := R_Mn) (T := F_Mn) (N := 8) hx hb htb i_Mn hown hK hP x_95 hk_97 rfl 0 (by decide) (htb (.fieldLink R_WM 111 "WaterMen$Man" "state" "I") tw_160) (fun _ h9 => h9) rfl d_WM_menThatAre_25 ?_
    refine lv_iload_n hx hb d_WM_menThatAre_28 rfl (lv_at hl 4 rfl) ?_
    refine lv_icmp_ne (tgt := 35) hx hb d_WM_menThatAre_29 (by decide) (fun _ => ?_) (fun h => absurd h c_5)
    refine lv_iinc (v := 24) (lv' := [(3, .int 24), (4, .ref q_94), (2, .int 0), (0, .ref (a 0)), (1, .int p_0)]) hx hb d_WM_menThatAre_35 hl (k := 1) rfl (by decide +kernel) (by decide) rfl (fun ls hl => ?_)
    refine lv_goto (tgt := 4) hx hb d_WM_menThatAre_38 (by decide) ?_
    refine lv_iload_n hx hb d_WM_menThatAre_4 rfl (lv_at hl 0 rfl) ?_
    refine lv_bipush (v := 40) hx hb d_WM_menThatAre_5 (by decide +kernel) ?_
    refine lv_icmp_ge (tgt := 41) hx hb d_WM_menThatAre_7 (by decide) (fun h => absurd h (by decide +kernel)) (fun _ => ?_)
    refine lv_aload_n hx hb d_WM_menThatAre_10 rfl (lv_at hl 3 rfl) ?_
    refine va_get (D := (dC, dI)) (ci := 0) (v := .ref (a 6)) (C := R_WM) (T := F_WM) (N := 13) hx hb htb i_WM hown hK hP 0 rfl rfl 1 (by decide) (htb (.fieldLink R_WM 18 "WaterMen" "men" "[LWaterMen$Man;") tw_70) (fun _ h9 => h9) rfl d_WM_menThatAre_11 ?_
    refine lv_iload_n hx hb d_WM_menThatAre_14 rfl (lv_at hl 0 rfl) ?_
    refine va_aldq hx hb hK hP 6 4 rfl rfl (by unfold vp_in; decide +kernel) d_WM_menThatAre_15 ?_
    obtain ⟨q_98, x_99, hq_100, hk_101⟩ := xw_man (a := a) (k := k) (i := 24) hL (by unfold vp_in; decide +kernel)
    refine hb_tv (.ref q_98) (by show va_rf (L[_]?) = _; rw [hq_100]; rfl) ?_
    refine lv_astore (lv' := [(4, .ref q_98), (3, .int 24), (2, .int 0), (0, .ref (a 0)), (1, .int p_0)]) hx hb d_WM_menThatAre_16 hl (by decide) rfl (fun ls hl => ?_)
    refine lv_aload hx hb d_WM_menThatAre_18 (lv_at hl 0 rfl) ?_
    refine lv_ifnull hx hb d_WM_menThatAre_20 ?_
    refine lv_aload hx hb d_WM_menThatAre_23 (lv_at hl 0 rfl) ?_
    refine va_get (D := (dC, dI)) (ci := 2) (v := .int 0) (C := R_Mn) (T := F_Mn) (N := 8) hx hb htb i_Mn hown hK hP x_99 hk_101 rfl 0 (by decide) (htb (.fieldLink R_WM 111 "WaterMen$Man" "state" "I") tw_160) (fun _ h9 => h9) rfl d_WM_menThatAre_25 ?_
    refine lv_iload_n hx hb d_WM_menThatAre_28 rfl (lv_at hl 4 rfl) ?_
    refine lv_icmp_ne (tgt := 35) hx hb d_WM_menThatAre_29 (by decide) (fun _ => ?_) (fun h => absurd h c_5)
    refine lv_iinc (v := 25) (lv' := [(3, .int 25), (4, .ref q_98), (2, .int 0), (0, .ref (a 0)), (1, .int p_0)]) hx hb d_WM_menThatAre_35 hl (k := 1) rfl (by decide +kernel) (by decide) rfl (fun ls hl => ?_)
    refine lv_goto (tgt := 4) hx hb d_WM_menThatAre_38 (by decide) ?_
    refine lv_iload_n hx hb d_WM_menThatAre_4 rfl (lv_at hl 0 rfl) ?_
    refine lv_bipush (v := 40) hx hb d_WM_menThatAre_5 (by decide +kernel) ?_
    refine lv_icmp_ge (tgt := 41) hx hb d_WM_menThatAre_7 (by decide) (fun h => absurd h (by decide +kernel)) (fun _ => ?_)
    refine lv_aload_n hx hb d_WM_menThatAre_10 rfl (lv_at hl 3 rfl) ?_
    refine va_get (D := (dC, dI)) (ci := 0) (v := .ref (a 6)) (C := R_WM) (T := F_WM) (N := 13) hx hb htb i_WM hown hK hP 0 rfl rfl 1 (by decide) (htb (.fieldLink R_WM 18 "WaterMen" "men" "[LWaterMen$Man;") tw_70) (fun _ h9 => h9) rfl d_WM_menThatAre_11 ?_
    refine lv_iload_n hx hb d_WM_menThatAre_14 rfl (lv_at hl 0 rfl) ?_
    refine va_aldq hx hb hK hP 6 4 rfl rfl (by unfold vp_in; decide +kernel) d_WM_menThatAre_15 ?_
    obtain ⟨q_102, x_103, hq_104, hk_105⟩ := xw_man (a := a) (k := k) (i := 25) hL (by unfold vp_in; decide +kernel)
    refine hb_tv (.ref q_102) (by show va_rf (L[_]?) = _; rw [hq_104]; rfl) ?_
    refine lv_astore (lv' := [(4, .ref q_102), (3, .int 25), (2, .int 0), (0, .ref (a 0)), (1, .int p_0)]) hx hb d_WM_menThatAre_16 hl (by decide) rfl (fun ls hl => ?_)
    refine lv_aload hx hb d_WM_menThatAre_18 (lv_at hl 0 rfl) ?_
    refine lv_ifnull hx hb d_WM_menThatAre_20 ?_
    refine lv_aload hx hb d_WM_menThatAre_23 (lv_at hl 0 rfl) ?_
    refine va_get (D := (dC, dI)) (ci := 2) (v := .int 0) (C := R_Mn) (T := F_Mn) (N := 8) hx hb htb i_Mn hown hK hP x_103 hk_105 rfl 0 (by decide) (htb (.fieldLink R_WM 111 "WaterMen$Man" "state" "I") tw_160) (fun _ h9 => h9) rfl d_WM_menThatAre_25 ?_
    refine lv_iload_n hx hb d_WM_menThatAre_28 rfl (lv_at hl 4 rfl) ?_
    refine lv_icmp_ne (tgt := 35) hx hb d_WM_menThatAre_29 (by decide) (fun _ => ?_) (fun h => absurd h c_5)
    refine lv_iinc (v := 26) (lv' := [(3, .int 26), (4, .ref q_102), (2, .int 0), (0, .ref (a 0)), (1, .int p_0)]) hx hb d_WM_menThatAre_35 hl (k := 1) rfl (by decide +kernel) (by decide) rfl (fun ls hl => ?_)
    refine lv_goto (tgt := 4) hx hb d_WM_menThatAre_38 (by decide) ?_
    refine lv_iload_n hx hb d_WM_menThatAre_4 rfl (lv_at hl 0 rfl) ?_
    refine lv_bipush (v := 40) hx hb d_WM_menThatAre_5 (by decide +kernel) ?_
    refine lv_icmp_ge (tgt := 41) hx hb d_WM_menThatAre_7 (by decide) (fun h => absurd h (by decide +kernel)) (fun _ => ?_)
    refine lv_aload_n hx hb d_WM_menThatAre_10 rfl (lv_at hl 3 rfl) ?_
    refine va_get (D := (dC, dI)) (ci := 0) (v := .ref (a 6)) (C := R_WM) (T := F_WM) (N := 13) hx hb htb i_WM hown hK hP 0 rfl rfl 1 (by decide) (htb (.fieldLink R_WM 18 "WaterMen" "men" "[LWaterMen$Man;") tw_70) (fun _ h9 => h9) rfl d_WM_menThatAre_11 ?_
    refine lv_iload_n hx hb d_WM_menThatAre_14 rfl (lv_at hl 0 rfl) ?_
    refine va_aldq hx hb hK hP 6 4 rfl rfl (by unfold vp_in; decide +kernel) d_WM_menThatAre_15 ?_
    obtain ⟨q_106, x_107, hq_108, hk_109⟩ := xw_man (a := a) (k := k) (i := 26) hL (by unfold vp_in; decide +kernel)
    refine hb_tv (.ref q_106) (by show va_rf (L[_]?) = _; rw [hq_108]; rfl) ?_
    refine lv_astore (lv' := [(4, .ref q_106), (3, .int 26), (2, .int 0), (0, .ref (a 0)), (1, .int p_0)]) hx hb d_WM_menThatAre_16 hl (by decide) rfl (fun ls hl => ?_)
    refine lv_aload hx hb d_WM_menThatAre_18 (lv_at hl 0 rfl) ?_
    refine lv_ifnull hx hb d_WM_menThatAre_20 ?_
    refine lv_aload hx hb d_WM_menThatAre_23 (lv_at hl 0 rfl) ?_
    refine va_get (D := (dC, dI)) (ci := 2) (v := .int 0) (C := R_Mn) (T := F_Mn) (N := 8) hx hb htb i_Mn hown hK hP x_107 hk_109 rfl 0 (by decide) (htb (.fieldLink R_WM 111 "WaterMen$Man" "state" "I") tw_160) (fun _ h9 => h9) rfl d_WM_menThatAre_25 ?_
    refine lv_iload_n hx hb d_WM_menThatAre_28 rfl (lv_at hl 4 rfl) ?_
    refine lv_icmp_ne (tgt := 35) hx hb d_WM_menThatAre_29 (by decide) (fun _ => ?_) (fun h => absurd h c_5)
    refine lv_iinc (v := 27) (lv' := [(3, .int 27), (4, .ref q_106), (2, .int 0), (0, .ref (a 0)), (1, .int p_0)]) hx hb d_WM_menThatAre_35 hl (k := 1) rfl (by decide +kernel) (by decide) rfl (fun ls hl => ?_)
    refine lv_goto (tgt := 4) hx hb d_WM_menThatAre_38 (by decide) ?_
    refine lv_iload_n hx hb d_WM_menThatAre_4 rfl (lv_at hl 0 rfl) ?_
    refine lv_bipush (v := 40) hx hb d_WM_menThatAre_5 (by decide +kernel) ?_
    refine lv_icmp_ge (tgt := 41) hx hb d_WM_menThatAre_7 (by decide) (fun h => absurd h (by decide +kernel)) (fun _ => ?_)
    refine lv_aload_n hx hb d_WM_menThatAre_10 rfl (lv_at hl 3 rfl) ?_
    refine va_get (D := (dC, dI)) (ci := 0) (v := .ref (a 6)) (C := R_WM) (T := F_WM) (N := 13) hx hb htb i_WM hown hK hP 0 rfl rfl 1 (by decide) (htb (.fieldLink R_WM 18 "WaterMen" "men" "[LWaterMen$Man;") tw_70) (fun _ h9 => h9) rfl d_WM_menThatAre_11 ?_
    refine lv_iload_n hx hb d_WM_menThatAre_14 rfl (lv_at hl 0 rfl) ?_
    refine va_aldq hx hb hK hP 6 4 rfl rfl (by unfold vp_in; decide +kernel) d_WM_menThatAre_15 ?_
    obtain ⟨q_110, x_111, hq_112, hk_113⟩ := xw_man (a := a) (k := k) (i := 27) hL (by unfold vp_in; decide +kernel)
    refine hb_tv (.ref q_110) (by show va_rf (L[_]?) = _; rw [hq_112]; rfl) ?_
    refine lv_astore (lv' := [(4, .ref q_110), (3, .int 27), (2, .int 0), (0, .ref (a 0)), (1, .int p_0)]) hx hb d_WM_menThatAre_16 hl (by decide) rfl (fun ls hl => ?_)
    refine lv_aload hx hb d_WM_menThatAre_18 (lv_at hl 0 rfl) ?_
    refine lv_ifnull hx hb d_WM_menThatAre_20 ?_
    refine lv_aload hx hb d_WM_menThatAre_23 (lv_at hl 0 rfl) ?_
    refine va_get (D := (dC, dI)) (ci := 2) (v := .int 0) (C := R_Mn) (T := F_Mn) (N := 8) hx hb htb i_Mn hown hK hP x_111 hk_113 rfl 0 (by decide) (htb (.fieldLink R_WM 111 "WaterMen$Man" "state" "I") tw_160) (fun _ h9 => h9) rfl d_WM_menThatAre_25 ?_
    refine lv_iload_n hx hb d_WM_menThatAre_28 rfl (lv_at hl 4 rfl) ?_
    refine lv_icmp_ne (tgt := 35) hx hb d_WM_menThatAre_29 (by decide) (fun _ => ?_) (fun h => absurd h c_5)
    refine lv_iinc (v := 28) (lv' := [(3, .int 28), (4, .ref q_110), (2, .int 0), (0, .ref (a 0)), (1, .int p_0)]) hx hb d_WM_menThatAre_35 hl (k := 1) rfl (by decide +kernel) (by decide) rfl (fun ls hl => ?_)
    refine lv_goto (tgt := 4) hx hb d_WM_menThatAre_38 (by decide) ?_
    refine lv_iload_n hx hb d_WM_menThatAre_4 rfl (lv_at hl 0 rfl) ?_
    refine lv_bipush (v := 40) hx hb d_WM_menThatAre_5 (by decide +kernel) ?_
    refine lv_icmp_ge (tgt := 41) hx hb d_WM_menThatAre_7 (by decide) (fun h => absurd h (by decide +kernel)) (fun _ => ?_)
    refine lv_aload_n hx hb d_WM_menThatAre_10 rfl (lv_at hl 3 rfl) ?_
    refine va_get (D := (dC, dI)) (ci := 0) (v := .ref (a 6)) (C := R_WM) (T := F_WM) (N := 13) hx hb htb i_WM hown hK hP 0 rfl rfl 1 (by decide) (htb (.fieldLink R_WM 18 "WaterMen" "men" "[LWaterMen$Man;") tw_70) (fun _ h9 => h9) rfl d_WM_menThatAre_11 ?_
    refine lv_iload_n hx hb d_WM_menThatAre_14 rfl (lv_at hl 0 rfl) ?_
    refine va_aldq hx hb hK hP 6 4 rfl rfl (by unfold vp_in; decide +kernel) d_WM_menThatAre_15 ?_
    obtain ⟨q_114, x_115, hq_116, hk_117⟩ := xw_man (a := a) (k := k) (i := 28) hL (by unfold vp_in; decide +kernel)
    refine hb_tv (.ref q_114) (by show va_rf (L[_]?) = _; rw [hq_116]; rfl) ?_
    refine lv_astore (lv' := [(4, .ref q_114), (3, .int 28), (2, .int 0), (0, .ref (a 0)), (1, .int p_0)]) hx hb d_WM_menThatAre_16 hl (by decide) rfl (fun ls hl => ?_)
    refine lv_aload hx hb d_WM_menThatAre_18 (lv_at hl 0 rfl) ?_
    refine lv_ifnull hx hb d_WM_menThatAre_20 ?_
    refine lv_aload hx hb d_WM_menThatAre_23 (lv_at hl 0 rfl) ?_
    refine va_get (D := (dC, dI)) (ci := 2) (v := .int 0) (C := R_Mn) (T := F_Mn) (N := 8) hx hb htb i_Mn hown hK hP x_115 hk_117 rfl 0 (by decide) (htb (.fieldLink R_WM 111 "WaterMen$Man" "state" "I") tw_160) (fun _ h9 => h9) rfl d_WM_menThatAre_25 ?_
    refine lv_iload_n hx hb d_WM_menThatAre_28 rfl (lv_at hl 4 rfl) ?_
    refine lv_icmp_ne (tgt := 35) hx hb d_WM_menThatAre_29 (by decide) (fun _ => ?_) (fun h => absurd h c_5)
    refine lv_iinc (v := 29) (lv' := [(3, .int 29), (4, .ref q_114), (2, .int 0), (0, .ref (a 0)), (1, .int p_0)]) hx hb d_WM_menThatAre_35 hl (k := 1) rfl (by decide +kernel) (by decide) rfl (fun ls hl => ?_)
    refine lv_goto (tgt := 4) hx hb d_WM_menThatAre_38 (by decide) ?_
    refine lv_iload_n hx hb d_WM_menThatAre_4 rfl (lv_at hl 0 rfl) ?_
    refine lv_bipush (v := 40) hx hb d_WM_menThatAre_5 (by decide +kernel) ?_
    refine lv_icmp_ge (tgt := 41) hx hb d_WM_menThatAre_7 (by decide) (fun h => absurd h (by decide +kernel)) (fun _ => ?_)
    refine lv_aload_n hx hb d_WM_menThatAre_10 rfl (lv_at hl 3 rfl) ?_
    refine va_get (D := (dC, dI)) (ci := 0) (v := .ref (a 6)) (C := R_WM) (T := F_WM) (N := 13) hx hb htb i_WM hown hK hP 0 rfl rfl 1 (by decide) (htb (.fieldLink R_WM 18 "WaterMen" "men" "[LWaterMen$Man;") tw_70) (fun _ h9 => h9) rfl d_WM_menThatAre_11 ?_
    refine lv_iload_n hx hb d_WM_menThatAre_14 rfl (lv_at hl 0 rfl) ?_
    refine va_aldq hx hb hK hP 6 4 rfl rfl (by unfold vp_in; decide +kernel) d_WM_menThatAre_15 ?_
    obtain ⟨q_118, x_119, hq_120, hk_121⟩ := xw_man (a := a) (k := k) (i := 29) hL (by unfold vp_in; decide +kernel)
    refine hb_tv (.ref q_118) (by show va_rf (L[_]?) = _; rw [hq_120]; rfl) ?_
    refine lv_astore (lv' := [(4, .ref q_118), (3, .int 29), (2, .int 0), (0, .ref (a 0)), (1, .int p_0)]) hx hb d_WM_menThatAre_16 hl (by decide) rfl (fun ls hl => ?_)
    refine lv_aload hx hb d_WM_menThatAre_18 (lv_at hl 0 rfl) ?_
    refine lv_ifnull hx hb d_WM_menThatAre_20 ?_
    refine lv_aload hx hb d_WM_menThatAre_23 (lv_at hl 0 rfl) ?_
    refine va_get (D := (dC, dI)) (ci := 2) (v := .int 0) (C := R_Mn) (T := F_Mn) (N := 8) hx hb htb i_Mn hown hK hP x_119 hk_121 rfl 0 (by decide) (htb (.fieldLink R_WM 111 "WaterMen$Man" "state" "I") tw_160) (fun _ h9 => h9) rfl d_WM_menThatAre_25 ?_
    refine lv_iload_n hx hb d_WM_menThatAre_28 rfl (lv_at hl 4 rfl) ?_
    refine lv_icmp_ne (tgt := 35) hx hb d_WM_menThatAre_29 (by decide) (fun _ => ?_) (fun h => absurd h c_5)
    refine lv_iinc (v := 30) (lv' := [(3, .int 30), (4, .ref q_118), (2, .int 0), (0, .ref (a 0)), (1, .int p_0)]) hx hb d_WM_menThatAre_35 hl (k := 1) rfl (by decide +kernel) (by decide) rfl (fun ls hl => ?_)
    refine lv_goto (tgt := 4) hx hb d_WM_menThatAre_38 (by decide) ?_
    refine lv_iload_n hx hb d_WM_menThatAre_4 rfl (lv_at hl 0 rfl) ?_
    refine lv_bipush (v := 40) hx hb d_WM_menThatAre_5 (by decide +kernel) ?_
    refine lv_icmp_ge (tgt := 41) hx hb d_WM_menThatAre_7 (by decide) (fun h => absurd h (by decide +kernel)) (fun _ => ?_)
    refine lv_aload_n hx hb d_WM_menThatAre_10 rfl (lv_at hl 3 rfl) ?_
    refine va_get (D := (dC, dI)) (ci := 0) (v := .ref (a 6)) (C := R_WM) (T := F_WM) (N := 13) hx hb htb i_WM hown hK hP 0 rfl rfl 1 (by decide) (htb (.fieldLink R_WM 18 "WaterMen" "men" "[LWaterMen$Man;") tw_70) (fun _ h9 => h9) rfl d_WM_menThatAre_11 ?_
    refine lv_iload_n hx hb d_WM_menThatAre_14 rfl (lv_at hl 0 rfl) ?_
    refine va_aldq hx hb hK hP 6 4 rfl rfl (by unfold vp_in; decide +kernel) d_WM_menThatAre_15 ?_
    obtain ⟨q_122, x_123, hq_124, hk_125⟩ := xw_man (a := a) (k := k) (i := 30) hL (by unfold vp_in; decide +kernel)
    refine hb_tv (.ref q_122) (by show va_rf (L[_]?) = _; rw [hq_124]; rfl) ?_
    refine lv_astore (lv' := [(4, .ref q_122), (3, .int 30), (2, .int 0), (0, .ref (a 0)), (1, .int p_0)]) hx hb d_WM_menThatAre_16 hl (by decide) rfl (fun ls hl => ?_)
    refine lv_aload hx hb d_WM_menThatAre_18 (lv_at hl 0 rfl) ?_
    refine lv_ifnull hx hb d_WM_menThatAre_20 ?_
    refine lv_aload hx hb d_WM_menThatAre_23 (lv_at hl 0 rfl) ?_
    refine va_get (D := (dC, dI)) (ci := 2) (v := .int 0) (C := R_Mn) (T := F_Mn) (N := 8) hx hb htb i_Mn hown hK hP x_123 hk_125 rfl 0 (by decide) (htb (.fieldLink R_WM 111 "WaterMen$Man" "state" "I") tw_160) (fun _ h9 => h9) rfl d_WM_menThatAre_25 ?_
    refine lv_iload_n hx hb d_WM_menThatAre_28 rfl (lv_at hl 4 rfl) ?_
    refine lv_icmp_ne (tgt := 35) hx hb d_WM_menThatAre_29 (by decide) (fun _ => ?_) (fun h => absurd h c_5)
    refine lv_iinc (v := 31) (lv' := [(3, .int 31), (4, .ref q_122), (2, .int 0), (0, .ref (a 0)), (1, .int p_0)]) hx hb d_WM_menThatAre_35 hl (k := 1) rfl (by decide +kernel) (by decide) rfl (fun ls hl => ?_)
    refine lv_goto (tgt := 4) hx hb d_WM_menThatAre_38 (by decide) ?_
    refine lv_iload_n hx hb d_WM_menThatAre_4 rfl (lv_at hl 0 rfl) ?_
    refine lv_bipush (v := 40) hx hb d_WM_menThatAre_5 (by decide +kernel) ?_
    refine lv_icmp_ge (tgt := 41) hx hb d_WM_menThatAre_7 (by decide) (fun h => absurd h (by decide +kernel)) (fun _ => ?_)
    refine lv_aload_n hx hb d_WM_menThatAre_10 rfl (lv_at hl 3 rfl) ?_
    refine va_get (D := (dC, dI)) (ci := 0) (v := .ref (a 6)) (C := R_WM) (T := F_WM) (N := 13) hx hb htb i_WM hown hK hP 0 rfl rfl 1 (by decide) (htb (.fieldLink R_WM 18 "WaterMen" "men" "[LWaterMen$Man;") tw_70) (fun _ h9 => h9) rfl d_WM_menThatAre_11 ?_
    refine lv_iload_n hx hb d_WM_menThatAre_14 rfl (lv_at hl 0 rfl) ?_
    refine va_aldq hx hb hK hP 6 4 rfl rfl (by unfold vp_in; decide +kernel) d_WM_menThatAre_15 ?_
    obtain ⟨q_126, x_127, hq_128, hk_129⟩ := xw_man (a := a) (k := k) (i := 31) hL (by unfold vp_in; decide +kernel)
    refine hb_tv (.ref q_126) (by show va_rf (L[_]?) = _; rw [hq_128]; rfl) ?_
    refine lv_astore (lv' := [(4, .ref q_126), (3, .int 31), (2, .int 0), (0, .ref (a 0)), (1, .int p_0)]) hx hb d_WM_menThatAre_16 hl (by decide) rfl (fun ls hl => ?_)
    refine lv_aload hx hb d_WM_menThatAre_18 (lv_at hl 0 rfl) ?_
    refine lv_ifnull hx hb d_WM_menThatAre_20 ?_
    refine lv_aload hx hb d_WM_menThatAre_23 (lv_at hl 0 rfl) ?_
    refine va_get (D := (dC, dI)) (ci := 2) (v := .int 0) (C := R_Mn) (T := F_Mn) (N := 8) hx hb htb i_Mn hown hK hP x_127 hk_129 rfl 0 (by decide) (htb (.fieldLink R_WM 111 "WaterMen$Man" "state" "I") tw_160) (fun _ h9 => h9) rfl d_WM_menThatAre_25 ?_
    refine lv_iload_n hx hb d_WM_menThatAre_28 rfl (lv_at hl 4 rfl) ?_
    refine lv_icmp_ne (tgt := 35) hx hb d_WM_menThatAre_29 (by decide) (fun _ => ?_) (fun h => absurd h c_5)
    refine lv_iinc (v := 32) (lv' := [(3, .int 32), (4, .ref q_126), (2, .int 0), (0, .ref (a 0)), (1, .int p_0)]) hx hb d_WM_menThatAre_35 hl (k := 1) rfl (by decide +kernel) (by decide) rfl (fun ls hl => ?_)
    refine lv_goto (tgt := 4) hx hb d_WM_menThatAre_38 (by decide) ?_
    refine lv_iload_n hx hb d_WM_menThatAre_4 rfl (lv_at hl 0 rfl) ?_
    refine lv_bipush (v := 40) hx hb d_WM_menThatAre_5 (by decide +kernel) ?_
    refine lv_icmp_ge (tgt := 41) hx hb d_WM_menThatAre_7 (by decide) (fun h => absurd h (by decide +kernel)) (fun _ => ?_)
    refine lv_aload_n hx hb d_WM_menThatAre_10 rfl (lv_at hl 3 rfl) ?_
    refine va_get (D := (dC, dI)) (ci := 0) (v := .ref (a 6)) (C := R_WM) (T := F_WM) (N := 13) hx hb htb i_WM hown hK hP 0 rfl rfl 1 (by decide) (htb (.fieldLink R_WM 18 "WaterMen" "men" "[LWaterMen$Man;") tw_70) (fun _ h9 => h9) rfl d_WM_menThatAre_11 ?_
    refine lv_iload_n hx hb d_WM_menThatAre_14 rfl (lv_at hl 0 rfl) ?_
    refine va_aldq hx hb hK hP 6 4 rfl rfl (by unfold vp_in; decide +kernel) d_WM_menThatAre_15 ?_
    obtain ⟨q_130, x_131, hq_132, hk_133⟩ := xw_man (a := a) (k := k) (i := 32) hL (by unfold vp_in; decide +kernel)
    refine hb_tv (.ref q_130) (by show va_rf (L[_]?) = _; rw [hq_132]; rfl) ?_
    refine lv_astore (lv' := [(4, .ref q_130), (3, .int 32), (2, .int 0), (0, .ref (a 0)), (1, .int p_0)]) hx hb d_WM_menThatAre_16 hl (by decide) rfl (fun ls hl => ?_)
    refine lv_aload hx hb d_WM_menThatAre_18 (lv_at hl 0 rfl) ?_
    refine lv_ifnull hx hb d_WM_menThatAre_20 ?_
    refine lv_aload hx hb d_WM_menThatAre_23 (lv_at hl 0 rfl) ?_
    refine va_get (D := (dC, dI)) (ci := 2) (v := .int 0) (C := R_Mn) (T := F_Mn) (N := 8) hx hb htb i_Mn hown hK hP x_131 hk_133 rfl 0 (by decide) (htb (.fieldLink R_WM 111 "WaterMen$Man" "state" "I") tw_160) (fun _ h9 => h9) rfl d_WM_menThatAre_25 ?_
    refine lv_iload_n hx hb d_WM_menThatAre_28 rfl (lv_at hl 4 rfl) ?_
    refine lv_icmp_ne (tgt := 35) hx hb d_WM_menThatAre_29 (by decide) (fun _ => ?_) (fun h => absurd h c_5)
    refine lv_iinc (v := 33) (lv' := [(3, .int 33), (4, .ref q_130), (2, .int 0), (0, .ref (a 0)), (1, .int p_0)]) hx hb d_WM_menThatAre_35 hl (k := 1) rfl (by decide +kernel) (by decide) rfl (fun ls hl => ?_)
    refine lv_goto (tgt := 4) hx hb d_WM_menThatAre_38 (by decide) ?_
    refine lv_iload_n hx hb d_WM_menThatAre_4 rfl (lv_at hl 0 rfl) ?_
    refine lv_bipush (v := 40) hx hb d_WM_menThatAre_5 (by decide +kernel) ?_
    refine lv_icmp_ge (tgt := 41) hx hb d_WM_menThatAre_7 (by decide) (fun h => absurd h (by decide +kernel)) (fun _ => ?_)
    refine lv_aload_n hx hb d_WM_menThatAre_10 rfl (lv_at hl 3 rfl) ?_
    refine va_get (D := (dC, dI)) (ci := 0) (v := .ref (a 6)) (C := R_WM) (T := F_WM) (N := 13) hx hb htb i_WM hown hK hP 0 rfl rfl 1 (by decide) (htb (.fieldLink R_WM 18 "WaterMen" "men" "[LWaterMen$Man;") tw_70) (fun _ h9 => h9) rfl d_WM_menThatAre_11 ?_
    refine lv_iload_n hx hb d_WM_menThatAre_14 rfl (lv_at hl 0 rfl) ?_
    refine va_aldq hx hb hK hP 6 4 rfl rfl (by unfold vp_in; decide +kernel) d_WM_menThatAre_15 ?_
    obtain ⟨q_134, x_135, hq_136, hk_137⟩ := xw_man (a := a) (k := k) (i := 33) hL (by unfold vp_in; decide +kernel)
    refine hb_tv (.ref q_134) (by show va_rf (L[_]?) = _; rw [hq_136]; rfl) ?_
    refine lv_astore (lv' := [(4, .ref q_134), (3, .int 33), (2, .int 0), (0, .ref (a 0)), (1, .int p_0)]) hx hb d_WM_menThatAre_16 hl (by decide) rfl (fun ls hl => ?_)
    refine lv_aload hx hb d_WM_menThatAre_18 (lv_at hl 0 rfl) ?_
    refine lv_ifnull hx hb d_WM_menThatAre_20 ?_
    refine lv_aload hx hb d_WM_menThatAre_23 (lv_at hl 0 rfl) ?_
    refine va_get (D := (dC, dI)) (ci := 2) (v := .int 0) (C := R_Mn) (T := F_Mn) (N := 8) hx hb htb i_Mn hown hK hP x_135 hk_137 rfl 0 (by decide) (htb (.fieldLink R_WM 111 "WaterMen$Man" "state" "I") tw_160) (fun _ h9 => h9) rfl d_WM_menThatAre_25 ?_
    refine lv_iload_n hx hb d_WM_menThatAre_28 rfl (lv_at hl 4 rfl) ?_
    refine lv_icmp_ne (tgt := 35) hx hb d_WM_menThatAre_29 (by decide) (fun _ => ?_) (fun h => absurd h c_5)
    refine lv_iinc (v := 34) (lv' := [(3, .int 34), (4, .ref q_134), (2, .int 0), (0, .ref (a 0)), (1, .int p_0)]) hx hb d_WM_menThatAre_35 hl (k := 1) rfl (by decide +kernel) (by decide) rfl (fun ls hl => ?_)
    refine lv_goto (tgt := 4) hx hb d_WM_menThatAre_38 (by decide) ?_
    refine lv_iload_n hx hb d_WM_menThatAre_4 rfl (lv_at hl 0 rfl) ?_
    refine lv_bipush (v := 40) hx hb d_WM_menThatAre_5 (by decide +kernel) ?_
    refine lv_icmp_ge (tgt := 41) hx hb d_WM_menThatAre_7 (by decide) (fun h => absurd h (by decide +kernel)) (fun _ => ?_)
    refine lv_aload_n hx hb d_WM_menThatAre_10 rfl (lv_at hl 3 rfl) ?_
    refine va_get (D := (dC, dI)) (ci := 0) (v := .ref (a 6)) (C := R_WM) (T := F_WM) (N := 13) hx hb htb i_WM hown hK hP 0 rfl rfl 1 (by decide) (htb (.fieldLink R_WM 18 "WaterMen" "men" "[LWaterMen$Man;") tw_70) (fun _ h9 => h9) rfl d_WM_menThatAre_11 ?_
    refine lv_iload_n hx hb d_WM_menThatAre_14 rfl (lv_at hl 0 rfl) ?_
    refine va_aldq hx hb hK hP 6 4 rfl rfl (by unfold vp_in; decide +kernel) d_WM_menThatAre_15 ?_
    obtain ⟨q_138, x_139, hq_140, hk_141⟩ := xw_man (a := a) (k := k) (i := 34) hL (by unfold vp_in; decide +kernel)
    refine hb_tv (.ref q_138) (by show va_rf (L[_]?) = _; rw [hq_140]; rfl) ?_
    refine lv_astore (lv' := [(4, .ref q_138), (3, .int 34), (2, .int 0), (0, .ref (a 0)), (1, .int p_0)]) hx hb d_WM_menThatAre_16 hl (by decide) rfl (fun ls hl => ?_)
    refine lv_aload hx hb d_WM_menThatAre_18 (lv_at hl 0 rfl) ?_
    refine lv_ifnull hx hb d_WM_menThatAre_20 ?_
    refine lv_aload hx hb d_WM_menThatAre_23 (lv_at hl 0 rfl) ?_
    refine va_get (D := (dC, dI)) (ci := 2) (v := .int 0) (C := R_Mn) (T := F_Mn) (N := 8) hx hb htb i_Mn hown hK hP x_139 hk_141 rfl 0 (by decide) (htb (.fieldLink R_WM 111 "WaterMen$Man" "state" "I") tw_160) (fun _ h9 => h9) rfl d_WM_menThatAre_25 ?_
    refine lv_iload_n hx hb d_WM_menThatAre_28 rfl (lv_at hl 4 rfl) ?_
    refine lv_icmp_ne (tgt := 35) hx hb d_WM_menThatAre_29 (by decide) (fun _ => ?_) (fun h => absurd h c_5)
    refine lv_iinc (v := 35) (lv' := [(3, .int 35), (4, .ref q_138), (2, .int 0), (0, .ref (a 0)), (1, .int p_0)]) hx hb d_WM_menThatAre_35 hl (k := 1) rfl (by decide +kernel) (by decide) rfl (fun ls hl => ?_)
    refine lv_goto (tgt := 4) hx hb d_WM_menThatAre_38 (by decide) ?_
    refine lv_iload_n hx hb d_WM_menThatAre_4 rfl (lv_at hl 0 rfl) ?_
    refine lv_bipush (v := 40) hx hb d_WM_menThatAre_5 (by decide +kernel) ?_
    refine lv_icmp_ge (tgt := 41) hx hb d_WM_menThatAre_7 (by decide) (fun h => absurd h (by decide +kernel)) (fun _ => ?_)
    refine lv_aload_n hx hb d_WM_menThatAre_10 rfl (lv_at hl 3 rfl) ?_
    refine va_get (D := (dC, dI)) (ci := 0) (v := .ref (a 6)) (C := R_WM) (T := F_WM) (N := 13) hx hb htb i_WM hown hK hP 0 rfl rfl 1 (by decide) (htb (.fieldLink R_WM 18 "WaterMen" "men" "[LWaterMen$Man;") tw_70) (fun _ h9 => h9) rfl d_WM_menThatAre_11 ?_
    refine lv_iload_n hx hb d_WM_menThatAre_14 rfl (lv_at hl 0 rfl) ?_
    refine va_aldq hx hb hK hP 6 4 rfl rfl (by unfold vp_in; decide +kernel) d_WM_menThatAre_15 ?_
    obtain ⟨q_142, x_143, hq_144, hk_145⟩ := xw_man (a := a) (k := k) (i := 35) hL (by unfold vp_in; decide +kernel)
    refine hb_tv (.ref q_142) (by show va_rf (L[_]?) = _; rw [hq_144]; rfl) ?_
    refine lv_astore (lv' := [(4, .ref q_142), (3, .int 35), (2, .int 0), (0, .ref (a 0)), (1, .int p_0)]) hx hb d_WM_menThatAre_16 hl (by decide) rfl (fun ls hl => ?_)
    refine lv_aload hx hb d_WM_menThatAre_18 (lv_at hl 0 rfl) ?_
    refine lv_ifnull hx hb d_WM_menThatAre_20 ?_
    refine lv_aload hx hb d_WM_menThatAre_23 (lv_at hl 0 rfl) ?_
    refine va_get (D := (dC, dI)) (ci := 2) (v := .int 0) (C := R_Mn) (T := F_Mn) (N := 8) hx hb htb i_Mn hown hK hP x_143 hk_145 rfl 0 (by decide) (htb (.fieldLink R_WM 111 "WaterMen$Man" "state" "I") tw_160) (fun _ h9 => h9) rfl d_WM_menThatAre_25 ?_
    refine lv_iload_n hx hb d_WM_menThatAre_28 rfl (lv_at hl 4 rfl) ?_
    refine lv_icmp_ne (tgt := 35) hx hb d_WM_menThatAre_29 (by decide) (fun _ => ?_) (fun h => absurd h c_5)
    refine lv_iinc (v := 36) (lv' := [(3, .int 36), (4, .ref q_142), (2, .int 0), (0, .ref (a 0)), (1, .int p_0)]) hx hb d_WM_menThatAre_35 hl (k := 1) rfl (by decide +kernel) (by decide) rfl (fun ls hl => ?_)
    refine lv_goto (tgt := 4) hx hb d_WM_menThatAre_38 (by decide) ?_
    refine lv_iload_n hx hb d_WM_menThatAre_4 rfl (lv_at hl 0 rfl) ?_
    refine lv_bipush (v := 40) hx hb d_WM_menThatAre_5 (by decide +kernel) ?_
    refine lv_icmp_ge (tgt := 41) hx hb d_WM_menThatAre_7 (by decide) (fun h => absurd h (by decide +kernel)) (fun _ => ?_)
    refine lv_aload_n hx hb d_WM_menThatAre_10 rfl (lv_at hl 3 rfl) ?_
    refine va_get (D := (dC, dI)) (ci := 0) (v := .ref (a 6)) (C := R_WM) (T := F_WM) (N := 13) hx hb htb i_WM hown hK hP 0 rfl rfl 1 (by decide) (htb (.fieldLink R_WM 18 "WaterMen" "men" "[LWaterMen$Man;") tw_70) (fun _ h9 => h9) rfl d_WM_menThatAre_11 ?_
    refine lv_iload_n hx hb d_WM_menThatAre_14 rfl (lv_at hl 0 rfl) ?_
    refine va_aldq hx hb hK hP 6 4 rfl rfl (by unfold vp_in; decide +kernel) d_WM_menThatAre_15 ?_
    obtain ⟨q_146, x_147, hq_148, hk_149⟩ := xw_man (a := a) (k := k) (i := 36) hL (by unfold vp_in; decide +kernel)
    refine hb_tv (.ref q_146) (by show va_rf (L[_]?) = _; rw [hq_148]; rfl) ?_
    refine lv_astore (lv' := [(4, .ref q_146), (3, .int 36), (2, .int 0), (0, .ref (a 0)), (1, .int p_0)]) hx hb d_WM_menThatAre_16 hl (by decide) rfl (fun ls hl => ?_)
    refine lv_aload hx hb d_WM_menThatAre_18 (lv_at hl 0 rfl) ?_
    refine lv_ifnull hx hb d_WM_menThatAre_20 ?_
    refine lv_aload hx hb d_WM_menThatAre_23 (lv_at hl 0 rfl) ?_
    refine va_get (D := (dC, dI)) (ci := 2) (v := .int 0) (C := R_Mn) (T := F_Mn) (N := 8) hx hb htb i_Mn hown hK hP x_147 hk_149 rfl 0 (by decide) (htb (.fieldLink R_WM 111 "WaterMen$Man" "state" "I") tw_160) (fun _ h9 => h9) rfl d_WM_menThatAre_25 ?_
    refine lv_iload_n hx hb d_WM_menThatAre_28 rfl (lv_at hl 4 rfl) ?_
    refine lv_icmp_ne (tgt := 35) hx hb d_WM_menThatAre_29 (by decide) (fun _ => ?_) (fun h => absurd h c_5)
    refine lv_iinc (v := 37) (lv' := [(3, .int 37), (4, .ref q_146), (2, .int 0), (0, .ref (a 0)), (1, .int p_0)]) hx hb d_WM_menThatAre_35 hl (k := 1) rfl (by decide +kernel) (by decide) rfl (fun ls hl => ?_)
    refine lv_goto (tgt := 4) hx hb d_WM_menThatAre_38 (by decide) ?_
    refine lv_iload_n hx hb d_WM_menThatAre_4 rfl (lv_at hl 0 rfl) ?_
    refine lv_bipush (v := 40) hx hb d_WM_menThatAre_5 (by decide +kernel) ?_
    refine lv_icmp_ge (tgt := 41) hx hb d_WM_menThatAre_7 (by decide) (fun h => absurd h (by decide +kernel)) (fun _ => ?_)
    refine lv_aload_n hx hb d_WM_menThatAre_10 rfl (lv_at hl 3 rfl) ?_
    refine va_get (D := (dC, dI)) (ci := 0) (v := .ref (a 6)) (C := R_WM) (T := F_WM) (N := 13) hx hb htb i_WM hown hK hP 0 rfl rfl 1 (by decide) (htb (.fieldLink R_WM 18 "WaterMen" "men" "[LWaterMen$Man;") tw_70) (fun _ h9 => h9) rfl d_WM_menThatAre_11 ?_
    refine lv_iload_n hx hb d_WM_menThatAre_14 rfl (lv_at hl 0 rfl) ?_
    refine va_aldq hx hb hK hP 6 4 rfl rfl (by unfold vp_in; decide +kernel) d_WM_menThatAre_15 ?_
    obtain ⟨q_150, x_151, hq_152, hk_153⟩ := xw_man (a := a) (k := k) (i := 37) hL (by unfold vp_in; decide +kernel)
    refine hb_tv (.ref q_150) (by show va_rf (L[_]?) = _; rw [hq_152]; rfl) ?_
    refine lv_astore (lv' := [(4, .ref q_150), (3, .int 37), (2, .int 0), (0, .ref (a 0)), (1, .int p_0)]) hx hb d_WM_menThatAre_16 hl (by decide) rfl (fun ls hl => ?_)
    refine lv_aload hx hb d_WM_menThatAre_18 (lv_at hl 0 rfl) ?_
    refine lv_ifnull hx hb d_WM_menThatAre_20 ?_
    refine lv_aload hx hb d_WM_menThatAre_23 (lv_at hl 0 rfl) ?_
    refine va_get (D := (dC, dI)) (ci := 2) (v := .int 0) (C := R_Mn) (T := F_Mn) (N := 8) hx hb htb i_Mn hown hK hP x_151 hk_153 rfl 0 (by decide) (htb (.fieldLink R_WM 111 "WaterMen$Man" "state" "I") tw_160) (fun _ h9 => h9) rfl d_WM_menThatAre_25 ?_
    refine lv_iload_n hx hb d_WM_menThatAre_28 rfl (lv_at hl 4 rfl) ?_
    refine lv_icmp_ne (tgt := 35) hx hb d_WM_menThatAre_29 (by decide) (fun _ => ?_) (fun h => absurd h c_5)
    refine lv_iinc (v := 38) (lv' := [(3, .int 38), (4, .ref q_150), (2, .int 0), (0, .ref (a 0)), (1, .int p_0)]) hx hb d_WM_menThatAre_35 hl (k := 1) rfl (by decide +kernel) (by decide) rfl (fun ls hl => ?_)
    refine lv_goto (tgt := 4) hx hb d_WM_menThatAre_38 (by decide) ?_
    refine lv_iload_n hx hb d_WM_menThatAre_4 rfl (lv_at hl 0 rfl) ?_
    refine lv_bipush (v := 40) hx hb d_WM_menThatAre_5 (by decide +kernel) ?_
    refine lv_icmp_ge (tgt := 41) hx hb d_WM_menThatAre_7 (by decide) (fun h => absurd h (by decide +kernel)) (fun _ => ?_)
    refine lv_aload_n hx hb d_WM_menThatAre_10 rfl (lv_at hl 3 rfl) ?_
    refine va_get (D := (dC, dI)) (ci := 0) (v := .ref (a 6)) (C := R_WM) (T := F_WM) (N := 13) hx hb htb i_WM hown hK hP 0 rfl rfl 1 (by decide) (htb (.fieldLink R_WM 18 "WaterMen" "men" "[LWaterMen$Man;") tw_70) (fun _ h9 => h9) rfl d_WM_menThatAre_11 ?_
    refine lv_iload_n hx hb d_WM_menThatAre_14 rfl (lv_at hl 0 rfl) ?_
    refine va_aldq hx hb hK hP 6 4 rfl rfl (by unfold vp_in; decide +kernel) d_WM_menThatAre_15 ?_
    obtain ⟨q_154, x_155, hq_156, hk_157⟩ := xw_man (a := a) (k := k) (i := 38) hL (by unfold vp_in; decide +kernel)
    refine hb_tv (.ref q_154) (by show va_rf (L[_]?) = _; rw [hq_156]; rfl) ?_
    refine lv_astore (lv' := [(4, .ref q_154), (3, .int 38), (2, .int 0), (0, .ref (a 0)), (1, .int p_0)]) hx hb d_WM_menThatAre_16 hl (by decide) rfl (fun ls hl => ?_)
    refine lv_aload hx hb d_WM_menThatAre_18 (lv_at hl 0 rfl) ?_
    refine lv_ifnull hx hb d_WM_menThatAre_20 ?_
    refine lv_aload hx hb d_WM_menThatAre_23 (lv_at hl 0 rfl) ?_
    refine va_get (D := (dC, dI)) (ci := 2) (v := .int 0) (C := R_Mn) (T := F_Mn) (N := 8) hx hb htb i_Mn hown hK hP x_155 hk_157 rfl 0 (by decide) (htb (.fieldLink R_WM 111 "WaterMen$Man" "state" "I") tw_160) (fun _ h9 => h9) rfl d_WM_menThatAre_25 ?_
    refine lv_iload_n hx hb d_WM_menThatAre_28 rfl (lv_at hl 4 rfl) ?_
    refine lv_icmp_ne (tgt := 35) hx hb d_WM_menThatAre_29 (by decide) (fun _ => ?_) (fun h => absurd h c_5)
    refine lv_iinc (v := 39) (lv' := [(3, .int 39), (4, .ref q_154), (2, .int 0), (0, .ref (a 0)), (1, .int p_0)]) hx hb d_WM_menThatAre_35 hl (k := 1) rfl (by decide +kernel) (by decide) rfl (fun ls hl => ?_)
    refine lv_goto (tgt := 4) hx hb d_WM_menThatAre_38 (by decide) ?_
    refine lv_iload_n hx hb d_WM_menThatAre_4 rfl (lv_at hl 0 rfl) ?_
    refine lv_bipush (v := 40) hx hb d_WM_menThatAre_5 (by decide +kernel) ?_
    refine lv_icmp_ge (tgt := 41) hx hb d_WM_menThatAre_7 (by decide) (fun h => absurd h (by decide +kernel)) (fun _ => ?_)
    refine lv_aload_n hx hb d_WM_menThatAre_10 rfl (lv_at hl 3 rfl) ?_
    refine va_get (D := (dC, dI)) (ci := 0) (v := .ref (a 6)) (C := R_WM) (T := F_WM) (N := 13) hx hb htb i_WM hown hK hP 0 rfl rfl 1 (by decide) (htb (.fieldLink R_WM 18 "WaterMen" "men" "[LWaterMen$Man;") tw_70) (fun _ h9 => h9) rfl d_WM_menThatAre_11 ?_
    refine lv_iload_n hx hb d_WM_menThatAre_14 rfl (lv_at hl 0 rfl) ?_
    refine va_aldq hx hb hK hP 6 4 rfl rfl (by unfold vp_in; decide +kernel) d_WM_menThatAre_15 ?_
    obtain ⟨q_158, x_159, hq_160, hk_161⟩ := xw_man (a := a) (k := k) (i := 39) hL (by unfold vp_in; decide +kernel)
    refine hb_tv (.ref q_158) (by show va_rf (L[_]?) = _; rw [hq_160]; rfl) ?_
    refine lv_astore (lv' := [(4, .ref q_158), (3, .int 39), (2, .int 0), (0, .ref (a 0)), (1, .int p_0)]) hx hb d_WM_menThatAre_16 hl (by decide) rfl (fun ls hl => ?_)
    refine lv_aload hx hb d_WM_menThatAre_18 (lv_at hl 0 rfl) ?_
    refine lv_ifnull hx hb d_WM_menThatAre_20 ?_
    refine lv_aload hx hb d_WM_menThatAre_23 (lv_at hl 0 rfl) ?_
    refine va_get (D := (dC, dI)) (ci := 2) (v := .int 0) (C := R_Mn) (T := F_Mn) (N := 8) hx hb htb i_Mn hown hK hP x_159 hk_161 rfl 0 (by decide) (htb (.fieldLink R_WM 111 "WaterMen$Man" "state" "I") tw_160) (fun _ h9 => h9) rfl d_WM_menThatAre_25 ?_
    refine lv_iload_n hx hb d_WM_menThatAre_28 rfl (lv_at hl 4 rfl) ?_
    refine lv_icmp_ne (tgt := 35) hx hb d_WM_menThatAre_29 (by decide) (fun _ => ?_) (fun h => absurd h c_5)
    refine lv_iinc (v := 40) (lv' := [(3, .int 40), (4, .ref q_158), (2, .int 0), (0, .ref (a 0)), (1, .int p_0)]) hx hb d_WM_menThatAre_35 hl (k := 1) rfl (by decide +kernel) (by decide) rfl (fun ls hl => ?_)
    refine lv_goto (tgt := 4) hx hb d_WM_menThatAre_38 (by decide) ?_
    refine lv_iload_n hx hb d_WM_menThatAre_4 rfl (lv_at hl 0 rfl) ?_
    refine lv_bipush (v := 40) hx hb d_WM_menThatAre_5 (by decide +kernel) ?_
    refine lv_icmp_ge (tgt := 41) hx hb d_WM_menThatAre_7 (by decide) (fun _ => ?_) (fun h => absurd (by decide +kernel) h)
    refine lv_iload_n hx hb d_WM_menThatAre_41 rfl (lv_at hl 2 rfl) ?_
    exact W.iret (v := 0) hx hb hr (fun t ht hW => ⟨0, rfl, (by unfold f_WM_menThatAre; rw [if_neg c_5]), ht⟩) t_nil d_WM_menThatAre_42
  · refine lv_iinc (v := 1) (lv' := [(2, .int 1), (4, .ref q_1), (3, .int 0), (0, .ref (a 0)), (1, .int p_0)]) hx hb d_WM_menThatAre_32 hl (k := 2) rfl (by decide +kernel) (by decide) rfl (fun ls hl => ?_)
    refine lv_iinc (v := 1) (lv' := [(3, .int 1), (2, .int 1), (4, .ref q_1), (0, .ref (a 0)), (1, .int p_0)]) hx hb d_WM_menThatAre_35 hl (k := 2) rfl (by decide +kernel) (by decide) rfl (fun ls hl => ?_)
    refine lv_goto (tgt := 4) hx hb d_WM_menThatAre_38 (by decide) ?_
    refine lv_iload_n hx hb d_WM_menThatAre_4 rfl (lv_at hl 0 rfl) ?_
    refine lv_bipush (v := 40) hx hb d_WM_menThatAre_5 (by decide +kernel) ?_
    refine lv_icmp_ge (tgt := 41) hx hb d_WM_menThatAre_7 (by decide) (fun h => absurd h (by decide +kernel)) (fun _ => ?_)
    refine lv_aload_n hx hb d_WM_menThatAre_10 rfl (lv_at hl 3 rfl) ?_
    refine va_get (D := (dC, dI)) (ci := 0) (v := .ref (a 6)) (C := R_WM) (T := F_WM) (N := 13) hx hb htb i_WM hown hK hP 0 rfl rfl 1 (by decide) (htb (.fieldLink R_WM 18 "WaterMen" "men" "[LWaterMen$Man;") tw_70) (fun _ h9 => h9) rfl d_WM_menThatAre_11 ?_
    refine lv_iload_n hx hb d_WM_menThatAre_14 rfl (lv_at hl 0 rfl) ?_
    refine va_aldq hx hb hK hP 6 4 rfl rfl (by unfold vp_in; decide +kernel) d_WM_menThatAre_15 ?_
    obtain ⟨q_162, x_163, hq_164, hk_165⟩ := xw_man (a := a) (k := k) (i := 1) hL (by unfold vp_in; decide +kernel)
    refine hb_tv (.ref q_162) (by show va_rf (L[_]?) = _; rw [hq_164]; rfl) ?_
    refine lv_astore (lv' := [(4, .ref q_162), (3, .int 1), (2, .int 1), (0, .ref (a 0)), (1, .int p_0)]) hx hb d_WM_menThatAre_16 hl (by decide) rfl (fun ls hl => ?_)
    refine lv_aload hx hb d_WM_menThatAre_18 (lv_at hl 0 rfl) ?_
    refine lv_ifnull hx hb d_WM_menThatAre_20 ?_
    refine lv_aload hx hb d_WM_menThatAre_23 (lv_at hl 0 rfl) ?_
    refine va_get (D := (dC, dI)) (ci := 2) (v := .int 0) (C := R_Mn) (T := F_Mn) (N := 8) hx hb htb i_Mn hown hK hP x_163 hk_165 rfl 0 (by decide) (htb (.fieldLink R_WM 111 "WaterMen$Man" "state" "I") tw_160) (fun _ h9 => h9) rfl d_WM_menThatAre_25 ?_
    refine lv_iload_n hx hb d_WM_menThatAre_28 rfl (lv_at hl 4 rfl) ?_
    refine lv_icmp_ne (tgt := 35) hx hb d_WM_menThatAre_29 (by decide) (fun h => absurd c_5 h) (fun _ => ?_)
    refine lv_iinc (v := 2) (lv' := [(2, .int 2), (4, .ref q_162), (3, .int 1), (0, .ref (a 0)), (1, .int p_0)]) hx hb d_WM_menThatAre_32 hl (k := 2) rfl (by decide +kernel) (by decide) rfl (fun ls hl => ?_)
    refine lv_iinc (v := 2) (lv' := [(3, .int 2), (2, .int 2), (4, .ref q_162), (0, .ref (a 0)), (1, .int p_0)]) hx hb d_WM_menThatAre_35 hl (k := 2) rfl (by decide +kernel) (by decide) rfl (fun ls hl => ?_)
    refine lv_goto (tgt := 4) hx hb d_WM_menThatAre_38 (by decide) ?_
    refine lv_iload_n hx hb d_WM_menThatAre_4 rfl (lv_at hl 0 rfl) ?_
    refine lv_bipush (v := 40) hx hb d_WM_menThatAre_5 (by decide +kernel) ?_
    refine lv_icmp_ge (tgt := 41) hx hb d_WM_menThatAre_7 (by decide) (fun h => absurd h (by decide +kernel)) (fun _ => ?_)
    refine lv_aload_n hx hb d_WM_menThatAre_10 rfl (lv_at hl 3 rfl) ?_
    refine va_get (D := (dC, dI)) (ci := 0) (v := .ref (a 6)) (C := R_WM) (T := F_WM) (N := 13) hx hb htb i_WM hown hK hP 0 rfl rfl 1 (by decide) (htb (.fieldLink R_WM 18 "WaterMen" "men" "[LWaterMen$Man;") tw_70) (fun _ h9 => h9) rfl d_WM_menThatAre_11 ?_
    refine lv_iload_n hx hb d_WM_menThatAre_14 rfl (lv_at hl 0 rfl) ?_
    refine va_aldq hx hb hK hP 6 4 rfl rfl (by unfold vp_in; decide +kernel) d_WM_menThatAre_15 ?_
    obtain ⟨q_166, x_167, hq_168, hk_169⟩ := xw_man (a := a) (k := k) (i := 2) hL (by unfold vp_in; decide +kernel)
    refine hb_tv (.ref q_166) (by show va_rf (L[_]?) = _; rw [hq_168]; rfl) ?_
    refine lv_astore (lv' := [(4, .ref q_166), (3, .int 2), (2, .int 2), (0, .ref (a 0)), (1, .int p_0)]) hx hb d_WM_menThatAre_16 hl (by decide) rfl (fun ls hl => ?_)
    refine lv_aload hx hb d_WM_menThatAre_18 (lv_at hl 0 rfl) ?_
    refine lv_ifnull hx hb d_WM_menThatAre_20 ?_
    refine lv_aload hx hb d_WM_menThatAre_23 (lv_at hl 0 rfl) ?_
    refine va_get (D := (dC, dI)) (ci := 2) (v := .int 0) (C := R_Mn) (T := F_Mn) (N := 8) hx hb htb i_Mn hown hK hP x_167 hk_169 rfl 0 (by decide) (htb (.fieldLink R_WM 111 "WaterMen$Man" "state" "I") tw_160) (fun _ h9 => h9) rfl d_WM_menThatAre_25 ?_
    refine lv_iload_n hx hb d_WM_menThatAre_28 rfl (lv_at hl 4 rfl) ?_
    refine lv_icmp_ne (tgt := 35) hx hb d_WM_menThatAre_29 (by decide) (fun h => absurd c_5 h) (fun _ => ?_)
    refine lv_iinc (v := 3) (lv' := [(2, .int 3), (4, .ref q_166), (3, .int 2), (0, .ref (a 0)), (1, .int p_0)]) hx hb d_WM_menThatAre_32 hl (k := 2) rfl (by decide +kernel) (by decide) rfl (fun ls hl => ?_)
    refine lv_iinc (v := 3) (lv' := [(3, .int 3), (2, .int 3), (4, .ref q_166), (0, .ref (a 0)), (1, .int p_0)]) hx hb d_WM_menThatAre_35 hl (k := 2) rfl (by decide +kernel) (by decide) rfl (fun ls hl => ?_)
    refine lv_goto (tgt := 4) hx hb d_WM_menThatAre_38 (by decide) ?_
    refine lv_iload_n hx hb d_WM_menThatAre_4 rfl (lv_at hl 0 rfl) ?_
    refine lv_bipush (v := 40) hx hb d_WM_menThatAre_5 (by decide +kernel) ?_
    refine lv_icmp_ge (tgt := 41) hx hb d_WM_menThatAre_7 (by decide) (fun h => absurd h (by decide +kernel)) (fun _ => ?_)
    refine lv_aload_n hx hb d_WM_menThatAre_10 rfl (lv_at hl 3 rfl) ?_
    refine va_get (D := (dC, dI)) (ci := 0) (v := .ref (a 6)) (C := R_WM) (T := F_WM) (N := 13) hx hb htb i_WM hown hK hP 0 rfl rfl 1 (by decide) (htb (.fieldLink R_WM 18 "WaterMen" "men" "[LWaterMen$Man;") tw_70) (fun _ h9 => h9) rfl d_WM_menThatAre_11 ?_
    refine lv_iload_n hx hb d_WM_menThatAre_14 rfl (lv_at hl 0 rfl) ?_
    refine va_aldq hx hb hK hP 6 4 rfl rfl (by unfold vp_in; decide +kernel) d_WM_menThatAre_15 ?_
    obtain ⟨q_170, x_171, hq_172, hk_173⟩ := xw_man (a := a) (k := k) (i := 3) hL (by unfold vp_in; decide +kernel)
    refine hb_tv (.ref q_170) (by show va_rf (L[_]?) = _; rw [hq_172]; rfl) ?_
    refine lv_astore (lv' := [(4, .ref q_170), (3, .int 3), (2, .int 3), (0, .ref (a 0)), (1, .int p_0)]) hx hb d_WM_menThatAre_16 hl (by decide) rfl (fun ls hl => ?_)
    refine lv_aload hx hb d_WM_menThatAre_18 (lv_at hl 0 rfl) ?_
    refine lv_ifnull hx hb d_WM_menThatAre_20 ?_
    refine lv_aload hx hb d_WM_menThatAre_23 (lv_at hl 0 rfl) ?_
    refine va_get (D := (dC, dI)) (ci := 2) (v := .int 0) (C := R_Mn) (T := F_Mn) (N := 8) hx hb htb i_Mn hown hK hP x_171 hk_173 rfl 0 (by decide) (htb (.fieldLink R_WM 111 "WaterMen$Man" "state" "I") tw_160) (fun _ h9 => h9) rfl d_WM_menThatAre_25 ?_
    refine lv_iload_n hx hb d_WM_menThatAre_28 rfl (lv_at hl 4 rfl) ?_
    refine lv_icmp_ne (tgt := 35) hx hb d_WM_menThatAre_29 (by decide) (fun h => absurd c_5 h) (fun _ => ?_)
    refine lv_iinc (v := 4) (lv' := [(2, .int 4), (4, .ref q_170), (3, .int 3), (0, .ref (a 0)), (1, .int p_0)]) hx hb d_WM_menThatAre_32 hl (k := 2) rfl (by decide +kernel) (by decide) rfl (fun ls hl => ?_)
    refine lv_iinc (v := 4) (lv' := [(3, .int 4), (2, .int 4), (4, .ref q_170), (0, .ref (a 0)), (1, .int p_0)]) hx hb d_WM_menThatAre_35 hl (k := 2) rfl (by decide +kernel) (by decide) rfl (fun ls hl => ?_)
    refine lv_goto (tgt := 4) hx hb d_WM_menThatAre_38 (by decide) ?_
    refine lv_iload_n hx hb d_WM_menThatAre_4 rfl (lv_at hl 0 rfl) ?_
    refine lv_bipush (v := 40) hx hb d_WM_menThatAre_5 (by decide +kernel) ?_
    refine lv_icmp_ge (tgt := 41) hx hb d_WM_menThatAre_7 (by decide) (fun h => absurd h (by decide +kernel)) (fun _ => ?_)
    refine lv_aload_n hx hb d_WM_menThatAre_10 rfl (lv_at hl 3 rfl) ?_
    refine va_get (D := (dC, dI)) (ci := 0) (v := .ref (a 6)) (C := R_WM) (T := F_WM) (N := 13) hx hb htb i_WM hown hK hP 0 rfl rfl 1 (by decide) (htb (.fieldLink R_WM 18 "WaterMen" "men" "[LWaterMen$Man;") tw_70) (fun _ h9 => h9) rfl d_WM_menThatAre_11 ?_
    refine lv_iload_n hx hb d_WM_menThatAre_14 rfl (lv_at hl 0 rfl) ?_
    refine va_aldq hx hb hK hP 6 4 rfl rfl (by unfold vp_in; decide +kernel) d_WM_menThatAre_15 ?_
    obtain ⟨q_174, x_175, hq_176, hk_177⟩ := xw_man (a := a) (k := k) (i := 4) hL (by unfold vp_in; decide +kernel)
    refine hb_tv (.ref q_174) (by show va_rf (L[_]?) = _; rw [hq_176]; rfl) ?_
    refine lv_astore (lv' := [(4, .ref q_174), (3, .int 4), (2, .int 4), (0, .ref (a 0)), (1, .int p_0)]) hx hb d_WM_menThatAre_16 hl (by decide) rfl (fun ls hl => ?_)
    refine lv_aload hx hb d_WM_menThatAre_18 (lv_at hl 0 rfl) ?_
    refine lv_ifnull hx hb d_WM_menThatAre_20 ?_
    refine lv_aload hx hb d_WM_menThatAre_23 (lv_at hl 0 rfl) ?_
    refine va_get (D := (dC, dI)) (ci := 2) (v := .int 0) (C := R_Mn) (T := F_Mn) (N := 8) hx hb htb i_Mn hown hK hP x_175 hk_177 rfl 0 (by decide) (htb (.fieldLink R_WM 111 "WaterMen$Man" "state" "I") tw_160) (fun _ h9 => h9) rfl d_WM_menThatAre_25 ?_
    refine lv_iload_n hx hb d_WM_menThatAre_28 rfl (lv_at hl 4 rfl) ?_
    refine lv_icmp_ne (tgt := 35) hx hb d_WM_menThatAre_29 (by decide) (fun h => absurd c_5 h) (fun _ => ?_)
    refine lv_iinc (v := 5) (lv' := [(2, .int 5), (4, .ref q_174), (3, .int 4), (0, .ref (a 0)), (1, .int p_0)]) hx hb d_WM_menThatAre_32 hl (k := 2) rfl (by decide +kernel) (by decide) rfl (fun ls hl => ?_)
    refine lv_iinc (v := 5) (lv' := [(3, .int 5), (2, .int 5), (4, .ref q_174), (0, .ref (a 0)), (1, .int p_0)]) hx hb d_WM_menThatAre_35 hl (k := 2) rfl (by decide +kernel) (by decide) rfl (fun ls hl => ?_)
    refine lv_goto (tgt := 4) hx hb d_WM_menThatAre_38 (by decide) ?_
    refine lv_iload_n hx hb d_WM_menThatAre_4 rfl (lv_at hl 0 rfl) ?_
    refine lv_bipush (v := 40) hx hb d_WM_menThatAre_5 (by decide +kernel) ?_
    refine lv_icmp_ge (tgt := 41) hx hb d_WM_menThatAre_7 (by decide) (fun h => absurd h (by decide +kernel)) (fun _ => ?_)
    refine lv_aload_n hx hb d_WM_menThatAre_10 rfl (lv_at hl 3 rfl) ?_
    refine va_get (D := (dC, dI)) (ci := 0) (v := .ref (a 6)) (C := R_WM) (T := F_WM) (N := 13) hx hb htb i_WM hown hK hP 0 rfl rfl 1 (by decide) (htb (.fieldLink R_WM 18 "WaterMen" "men" "[LWaterMen$Man;") tw_70) (fun _ h9 => h9) rfl d_WM_menThatAre_11 ?_
    refine lv_iload_n hx hb d_WM_menThatAre_14 rfl (lv_at hl 0 rfl) ?_
    refine va_aldq hx hb hK hP 6 4 rfl rfl (by unfold vp_in; decide +kernel) d_WM_menThatAre_15 ?_
    obtain ⟨q_178, x_179, hq_180, hk_181⟩ := xw_man (a := a) (k := k) (i := 5) hL (by unfold vp_in; decide +kernel)
    refine hb_tv (.ref q_178) (by show va_rf (L[_]?) = _; rw [hq_180]; rfl) ?_
    refine lv_astore (lv' := [(4, .ref q_178), (3, .int 5), (2, .int 5), (0, .ref (a 0)), (1, .int p_0)]) hx hb d_WM_menThatAre_16 hl (by decide) rfl (fun ls hl => ?_)
    refine lv_aload hx hb d_WM_menThatAre_18 (lv_at hl 0 rfl) ?_
    refine lv_ifnull hx hb d_WM_menThatAre_20 ?_
    refine lv_aload hx hb d_WM_menThatAre_23 (lv_at hl 0 rfl) ?_
    refine va_get (D := (dC, dI)) (ci := 2) (v := .int 0) (C := R_Mn) (T := F_Mn) (N := 8) hx hb htb i_Mn hown hK hP x_179 hk_181 rfl 0 (by decide) (htb (.fieldLink R_WM 111 "WaterMen$Man" "state" "I") tw_160) (fun _ h9 => h9) rfl d_WM_menThatAre_25 ?_
    refine lv_iload_n hx hb d_WM_menThatAre_28 rfl (lv_at hl 4 rfl) ?_
    refine lv_icmp_ne (tgt := 35) hx hb d_WM_menThatAre_29 (by decide) (fun h => absurd c_5 h) (fun _ => ?_)
    refine lv_iinc (v := 6) (lv' := [(2, .int 6), (4, .ref q_178), (3, .int 5), (0, .ref (a 0)), (1, .int p_0)]) hx hb d_WM_menThatAre_32 hl (k := 2) rfl (by decide +kernel) (by decide) rfl (fun ls hl => ?_)
    refine lv_iinc (v := 6) (lv' := [(3, .int 6), (2, .int 6), (4, .ref q_178), (0, .ref (a 0)), (1, .int p_0)]) hx hb d_WM_menThatAre_35 hl (k := 2) rfl (by decide +kernel) (by decide) rfl (fun ls hl => ?_)
    refine lv_goto (tgt := 4) hx hb d_WM_menThatAre_38 (by decide) ?_
    refine lv_iload_n hx hb d_WM_menThatAre_4 rfl (lv_at hl 0 rfl) ?_
    refine lv_bipush (v := 40) hx hb d_WM_menThatAre_5 (by decide +kernel) ?_
    refine lv_icmp_ge (tgt := 41) hx hb d_WM_menThatAre_7 (by decide) (fun h => absurd h (by decide +kernel)) (fun _ => ?_)
    refine lv_aload_n hx hb d_WM_menThatAre_10 rfl (lv_at hl 3 rfl) ?_
    refine va_get (D := (dC, dI)) (ci := 0) (v := .ref (a 6)) (C := R_WM) (T := F_WM) (N := 13) hx hb htb i_WM hown hK hP 0 rfl rfl 1 (by decide) (htb (.fieldLink R_WM 18 "WaterMen" "men" "[LWaterMen$Man;") tw_70) (fun _ h9 => h9) rfl d_WM_menThatAre_11 ?_
    refine lv_iload_n hx hb d_WM_menThatAre_14 rfl (lv_at hl 0 rfl) ?_
    refine va_aldq hx hb hK hP 6 4 rfl rfl (by unfold vp_in; decide +kernel) d_WM_menThatAre_15 ?_
    obtain ⟨q_182, x_183, hq_184, hk_185⟩ := xw_man (a := a) (k := k) (i := 6) hL (by unfold vp_in; decide +kernel)
    refine hb_tv (.ref q_182) (by show va_rf (L[_]?) = _; rw [hq_184]; rfl) ?_
    refine lv_astore (lv' := [(4, .ref q_182), (3, .int 6), (2, .int 6), (0, .ref (a 0)), (1, .int p_0)]) hx hb d_WM_menThatAre_16 hl (by decide) rfl (fun ls hl => ?_)
    refine lv_aload hx hb d_WM_menThatAre_18 (lv_at hl 0 rfl) ?_
    refine lv_ifnull hx hb d_WM_menThatAre_20 ?_
    refine lv_aload hx hb d_WM_menThatAre_23 (lv_at hl 0 rfl) ?_
    refine va_get (D := (dC, dI)) (ci := 2) (v := .int 0) (C := R_Mn) (T := F_Mn) (N := 8) hx hb htb i_Mn hown hK hP x_183 hk_185 rfl 0 (by decide) (htb (.fieldLink R_WM 111 "WaterMen$Man" "state" "I") tw_160) (fun _ h9 => h9) rfl d_WM_menThatAre_25 ?_
    refine lv_iload_n hx hb d_WM_menThatAre_28 rfl (lv_at hl 4 rfl) ?_
    refine lv_icmp_ne (tgt := 35) hx hb d_WM_menThatAre_29 (by decide) (fun h => absurd c_5 h) (fun _ => ?_)
    refine lv_iinc (v := 7) (lv' := [(2, .int 7), (4, .ref q_182), (3, .int 6), (0, .ref (a 0)), (1, .int p_0)]) hx hb d_WM_menThatAre_32 hl (k := 2) rfl (by decide +kernel) (by decide) rfl (fun ls hl => ?_)
    refine lv_iinc (v := 7) (lv' := [(3, .int 7), (2, .int 7), (4, .ref q_182), (0, .ref (a 0)), (1, .int p_0)]) hx hb d_WM_menThatAre_35 hl (k := 2) rfl (by decide +kernel) (by decide) rfl (fun ls hl => ?_)
    refine lv_goto (tgt := 4) hx hb d_WM_menThatAre_38 (by decide) ?_
    refine lv_iload_n hx hb d_WM_menThatAre_4 rfl (lv_at hl 0 rfl) ?_
    refine lv_bipush (v := 40) hx hb d_WM_menThatAre_5 (by decide +kernel) ?_
    refine lv_icmp_ge (tgt := 41) hx hb d_WM_menThatAre_7 (by decide) (fun h => absurd h (by decide +kernel)) (fun _ => ?_)
    refine lv_aload_n hx hb d_WM_menThatAre_10 rfl (lv_at hl 3 rfl) ?_
    refine va_get (D := (dC, dI)) (ci := 0) (v := .ref (a 6)) (C := R_WM) (T := F_WM) (N := 13) hx hb htb i_WM hown hK hP 0 rfl rfl 1 (by decide) (htb (.fieldLink R_WM 18 "WaterMen" "men" "[LWaterMen$Man;") tw_70) (fun _ h9 => h9) rfl d_WM_menThatAre_11 ?_
    refine lv_iload_n hx hb d_WM_menThatAre_14 rfl (lv_at hl 0 rfl) ?_
    refine va_aldq hx hb hK hP 6 4 rfl rfl (by unfold vp_in; decide +kernel) d_WM_menThatAre_15 ?_
    obtain ⟨q_186, x_187, hq_188, hk_189⟩ := xw_man (a := a) (k := k) (i := 7) hL (by unfold vp_in; decide +kernel)
    refine hb_tv (.ref q_186) (by show va_rf (L[_]?) = _; rw [hq_188]; rfl) ?_
    refine lv_astore (lv' := [(4, .ref q_186), (3, .int 7), (2, .int 7), (0, .ref (a 0)), (1, .int p_0)]) hx hb d_WM_menThatAre_16 hl (by decide) rfl (fun ls hl => ?_)
    refine lv_aload hx hb d_WM_menThatAre_18 (lv_at hl 0 rfl) ?_
    refine lv_ifnull hx hb d_WM_menThatAre_20 ?_
    refine lv_aload hx hb d_WM_menThatAre_23 (lv_at hl 0 rfl) ?_
    refine va_get (D := (dC, dI)) (ci := 2) (v := .int 0) (C := R_Mn) (T := F_Mn) (N := 8) hx hb htb i_Mn hown hK hP x_187 hk_189 rfl 0 (by decide) (htb (.fieldLink R_WM 111 "WaterMen$Man" "state" "I") tw_160) (fun _ h9 => h9) rfl d_WM_menThatAre_25 ?_
    refine lv_iload_n hx hb d_WM_menThatAre_28 rfl (lv_at hl 4 rfl) ?_
    refine lv_icmp_ne (tgt := 35) hx hb d_WM_menThatAre_29 (by decide) (fun h => absurd c_5 h) (fun _ => ?_)
    refine lv_iinc (v := 8) (lv' := [(2, .int 8), (4, .ref q_186), (3, .int 7), (0, .ref (a 0)), (1, .int p_0)]) hx hb d_WM_menThatAre_32 hl (k := 2) rfl (by decide +kernel) (by decide) rfl (fun ls hl => ?_)
    refine lv_iinc (v := 8) (lv' := [(3, .int 8), (2, .int 8), (4, .ref q_186), (0, .ref (a 0)), (1, .int p_0)]) hx hb d_WM_menThatAre_35 hl (k := 2) rfl (by decide +kernel) (by decide) rfl (fun ls hl => ?_)
    refine lv_goto (tgt := 4) hx hb d_WM_menThatAre_38 (by decide) ?_
    refine lv_iload_n hx hb d_WM_menThatAre_4 rfl (lv_at hl 0 rfl) ?_
    refine lv_bipush (v := 40) hx hb d_WM_menThatAre_5 (by decide +kernel) ?_
    refine lv_icmp_ge (tgt := 41) hx hb d_WM_menThatAre_7 (by decide) (fun h => absurd h (by decide +kernel)) (fun _ => ?_)
    refine lv_aload_n hx hb d_WM_menThatAre_10 rfl (lv_at hl 3 rfl) ?_
    refine va_get (D := (dC, dI)) (ci := 0) (v := .ref (a 6)) (C := R_WM) (T := F_WM) (N := 13) hx hb htb i_WM hown hK hP 0 rfl rfl 1 (by decide) (htb (.fieldLink R_WM 18 "WaterMen" "men" "[LWaterMen$Man;") tw_70) (fun _ h9 => h9) rfl d_WM_menThatAre_11 ?_
    refine lv_iload_n hx hb d_WM_menThatAre_14 rfl (lv_at hl 0 rfl) ?_
    refine va_aldq hx hb hK hP 6 4 rfl rfl (by unfold vp_in; decide +kernel) d_WM_menThatAre_15 ?_
    obtain ⟨q_190, x_191, hq_192, hk_193⟩ := xw_man (a := a) (k := k) (i := 8) hL (by unfold vp_in; decide +kernel)
    refine hb_tv (.ref q_190) (by show va_rf (L[_]?) = _; rw [hq_192]; rfl) ?_
    refine lv_astore (lv' := [(4, .ref q_190), (3, .int 8), (2, .int 8), (0, .ref (a 0)), (1, .int p_0)]) hx hb d_WM_menThatAre_16 hl (by decide) rfl (fun ls hl => ?_)
    refine lv_aload hx hb d_WM_menThatAre_18 (lv_at hl 0 rfl) ?_
    refine lv_ifnull hx hb d_WM_menThatAre_20 ?_
    refine lv_aload hx hb d_WM_menThatAre_23 (lv_at hl 0 rfl) ?_
    refine va_get (D := (dC, dI)) (ci := 2) (v := .int 0) (C := R_Mn) (T := F_Mn) (N := 8) hx hb htb i_Mn hown hK hP x_191 hk_193 rfl 0 (by decide) (htb (.fieldLink R_WM 111 "WaterMen$Man" "state" "I") tw_160) (fun _ h9 => h9) rfl d_WM_menThatAre_25 ?_
    refine lv_iload_n hx hb d_WM_menThatAre_28 rfl (lv_at hl 4 rfl) ?_
    refine lv_icmp_ne (tgt := 35) hx hb d_WM_menThatAre_29 (by decide) (fun h => absurd c_5 h) (fun _ => ?_)
    refine lv_iinc (v := 9) (lv' := [(2, .int 9), (4, .ref q_190), (3, .int 8), (0, .ref (a 0)), (1, .int p_0)]) hx hb d_WM_menThatAre_32 hl (k := 2) rfl (by decide +kernel) (by decide) rfl (fun ls hl => ?_)
    refine lv_iinc (v := 9) (lv' := [(3, .int 9), (2, .int 9), (4, .ref q_190), (0, .ref (a 0)), (1, .int p_0)]) hx hb d_WM_menThatAre_35 hl (k := 2) rfl (by decide +kernel) (by decide) rfl (fun ls hl => ?_)
    refine lv_goto (tgt := 4) hx hb d_WM_menThatAre_38 (by decide) ?_
    refine lv_iload_n hx hb d_WM_menThatAre_4 rfl (lv_at hl 0 rfl) ?_
    refine lv_bipush (v := 40) hx hb d_WM_menThatAre_5 (by decide +kernel) ?_
    refine lv_icmp_ge (tgt := 41) hx hb d_WM_menThatAre_7 (by decide) (fun h => absurd h (by decide +kernel)) (fun _ => ?_)
    refine lv_aload_n hx hb d_WM_menThatAre_10 rfl (lv_at hl 3 rfl) ?_
    refine va_get (D := (dC, dI)) (ci := 0) (v := .ref (a 6)) (C := R_WM) (T := F_WM) (N := 13) hx hb htb i_WM hown hK hP 0 rfl rfl 1 (by decide) (htb (.fieldLink R_WM 18 "WaterMen" "men" "[LWaterMen$Man;") tw_70) (fun _ h9 => h9) rfl d_WM_menThatAre_11 ?_
    refine lv_iload_n hx hb d_WM_menThatAre_14 rfl (lv_at hl 0 rfl) ?_
    refine va_aldq hx hb hK hP 6 4 rfl rfl (by unfold vp_in; decide +kernel) d_WM_menThatAre_15 ?_
    obtain ⟨q_194, x_195, hq_196, hk_197⟩ := xw_man (a := a) (k := k) (i := 9) hL (by unfold vp_in; decide +kernel)
    refine hb_tv (.ref q_194) (by show va_rf (L[_]?) = _; rw [hq_196]; rfl) ?_
    refine lv_astore (lv' := [(4, .ref q_194), (3, .int 9), (2, .int 9), (0, .ref (a 0)), (1, .int p_0)]) hx hb d_WM_menThatAre_16 hl (by decide) rfl (fun ls hl => ?_)
    refine lv_aload hx hb d_WM_menThatAre_18 (lv_at hl 0 rfl) ?_
    refine lv_ifnull hx hb d_WM_menThatAre_20 ?_
    refine lv_aload hx hb d_WM_menThatAre_23 (lv_at hl 0 rfl) ?_
    refine va_get (D := (dC, dI)) (ci := 2) (v := .int 0) (C := R_Mn) (T := F_Mn) (N := 8) hx hb htb i_Mn hown hK hP x_195 hk_197 rfl 0 (by decide) (htb (.fieldLink R_WM 111 "WaterMen$Man" "state" "I") tw_160) (fun _ h9 => h9) rfl d_WM_menThatAre_25 ?_
    refine lv_iload_n hx hb d_WM_menThatAre_28 rfl (lv_at hl 4 rfl) ?_
    refine lv_icmp_ne (tgt := 35) hx hb d_WM_menThatAre_29 (by decide) (fun h => absurd c_5 h) (fun _ => ?_)
    refine lv_iinc (v := 10) (lv' := [(2, .int 10), (4, .ref q_194), (3, .int 9), (0, .ref (a 0)), (1, .int p_0)]) hx hb d_WM_menThatAre_32 hl (k := 2) rfl (by decide +kernel) (by decide) rfl (fun ls hl => ?_)
    refine lv_iinc (v := 10) (lv' := [(3, .int 10), (2, .int 10), (4, .ref q_194), (0, .ref (a 0)), (1, .int p_0)]) hx hb d_WM_menThatAre_35 hl (k := 2) rfl (by decide +kernel) (by decide) rfl (fun ls hl => ?_)
    refine lv_goto (tgt := 4) hx hb d_WM_menThatAre_38 (by decide) ?_
    refine lv_iload_n hx hb d_WM_menThatAre_4 rfl (lv_at hl 0 rfl) ?_
    refine lv_bipush (v := 40) hx hb d_WM_menThatAre_5 (by decide +kernel) ?_
    refine lv_icmp_ge (tgt := 41) hx hb d_WM_menThatAre_7 (by decide) (fun h => absurd h (by decide +kernel)) (fun _ => ?_)
    refine lv_aload_n hx hb d_WM_menThatAre_10 rfl (lv_at hl 3 rfl) ?_
    refine va_get (D := (dC, dI)) (ci := 0) (v := .ref (a 6)) (C := R_WM) (T := F_WM) (N := 13) hx hb htb i_WM hown hK hP 0 rfl rfl 1 (by decide) (htb (.fieldLink R_WM 18 "WaterMen" "men" "[LWaterMen$Man;") tw_70) (fun _ h9 => h9) rfl d_WM_menThatAre_11 ?_
    refine lv_iload_n hx hb d_WM_menThatAre_14 rfl (lv_at hl 0 rfl) ?_
    refine va_aldq hx hb hK hP 6 4 rfl rfl (by unfold vp_in; decide +kernel) d_WM_menThatAre_15 ?_
    obtain ⟨q_198, x_199, hq_200, hk_201⟩ := xw_man (a := a) (k := k) (i := 10) hL (by unfold vp_in; decide +kernel)
    refine hb_tv (.ref q_198) (by show va_rf (L[_]?) = _; rw [hq_200]; rfl) ?_
    refine lv_astore (lv' := [(4, .ref q_198), (3, .int 10), (2, .int 10), (0, .ref (a 0)), (1, .int p_0)]) hx hb d_WM_menThatAre_16 hl (by decide) rfl (fun ls hl => ?_)
    refine lv_aload hx hb d_WM_menThatAre_18 (lv_at hl 0 rfl) ?_
    refine lv_ifnull hx hb d_WM_menThatAre_20 ?_
    refine lv_aload hx hb d_WM_menThatAre_23 (lv_at hl 0 rfl) ?_
    refine va_get (D := (dC, dI)) (ci := 2) (v := .int 0) (C := R_Mn) (T := F_Mn) (N := 8) hx hb htb i_Mn hown hK hP x_199 hk_201 rfl 0 (by decide) (htb (.fieldLink R_WM 111 "WaterMen$Man" "state" "I") tw_160) (fun _ h9 => h9) rfl d_WM_menThatAre_25 ?_
    refine lv_iload_n hx hb d_WM_menThatAre_28 rfl (lv_at hl 4 rfl) ?_
    refine lv_icmp_ne (tgt := 35) hx hb d_WM_menThatAre_29 (by decide) (fun h => absurd c_5 h) (fun _ => ?_)
    refine lv_iinc (v := 11) (lv' := [(2, .int 11), (4, .ref q_198), (3, .int 10), (0, .ref (a 0)), (1, .int p_0)]) hx hb d_WM_menThatAre_32 hl (k := 2) rfl (by decide +kernel) (by decide) rfl (fun ls hl => ?_)
    refine lv_iinc (v := 11) (lv' := [(3, .int 11), (2, .int 11), (4, .ref q_198), (0, .ref (a 0)), (1, .int p_0)]) hx hb d_WM_menThatAre_35 hl (k := 2) rfl (by decide +kernel) (by decide) rfl (fun ls hl => ?_)
    refine lv_goto (tgt := 4) hx hb d_WM_menThatAre_38 (by decide) ?_
    refine lv_iload_n hx hb d_WM_menThatAre_4 rfl (lv_at hl 0 rfl) ?_
    refine lv_bipush (v := 40) hx hb d_WM_menThatAre_5 (by decide +kernel) ?_
    refine lv_icmp_ge (tgt := 41) hx hb d_WM_menThatAre_7 (by decide) (fun h => absurd h (by decide +kernel)) (fun _ => ?_)
    refine lv_aload_n hx hb d_WM_menThatAre_10 rfl (lv_at hl 3 rfl) ?_
    refine va_get (D := (dC, dI)) (ci := 0) (v := .ref (a 6)) (C := R_WM) (T := F_WM) (N := 13) hx hb htb i_WM hown hK hP 0 rfl rfl 1 (by decide) (htb (.fieldLink R_WM 18 "WaterMen" "men" "[LWaterMen$Man;") tw_70) (fun _ h9 => h9) rfl d_WM_menThatAre_11 ?_
    refine lv_iload_n hx hb d_WM_menThatAre_14 rfl (lv_at hl 0 rfl) ?_
    refine va_aldq hx hb hK hP 6 4 rfl rfl (by unfold vp_in; decide +kernel) d_WM_menThatAre_15 ?_
    obtain ⟨q_202, x_203, hq_204, hk_205⟩ := xw_man (a := a) (k := k) (i := 11) hL (by unfold vp_in; decide +kernel)
    refine hb_tv (.ref q_202) (by show va_rf (L[_]?) = _; rw [hq_204]; rfl) ?_
    refine lv_astore (lv' := [(4, .ref q_202), (3, .int 11), (2, .int 11), (0, .ref (a 0)), (1, .int p_0)]) hx hb d_WM_menThatAre_16 hl (by decide) rfl (fun ls hl => ?_)
    refine lv_aload hx hb d_WM_menThatAre_18 (lv_at hl 0 rfl) ?_
    refine lv_ifnull hx hb d_WM_menThatAre_20 ?_
    refine lv_aload hx hb d_WM_menThatAre_23 (lv_at hl 0 rfl) ?_
    refine va_get (D := (dC, dI)) (ci := 2) (v := .int 0) (C := R_Mn) (T := F_Mn) (N := 8) hx hb htb i_Mn hown hK hP x_203 hk_205 rfl 0 (by decide) (htb (.fieldLink R_WM 111 "WaterMen$Man" "state" "I") tw_160) (fun _ h9 => h9) rfl d_WM_menThatAre_25 ?_
    refine lv_iload_n hx hb d_WM_menThatAre_28 rfl (lv_at hl 4 rfl) ?_
    refine lv_icmp_ne (tgt := 35) hx hb d_WM_menThatAre_29 (by decide) (fun h => absurd c_5 h) (fun _ => ?_)
    refine lv_iinc (v := 12) (lv' := [(2, .int 12), (4, .ref q_202), (3, .int 11), (0, .ref (a 0)), (1, .int p_0)]) hx hb d_WM_menThatAre_32 hl (k := 2) rfl (by decide +kernel) (by decide) rfl (fun ls hl => ?_)
    refine lv_iinc (v := 12) (lv' := [(3, .int 12), (2, .int 12), (4, .ref q_202), (0, .ref (a 0)), (1, .int p_0)]) hx hb d_WM_menThatAre_35 hl (k := 2) rfl (by decide +kernel) (by decide) rfl (fun ls hl => ?_)
    refine lv_goto (tgt := 4) hx hb d_WM_menThatAre_38 (by decide) ?_
    refine lv_iload_n hx hb d_WM_menThatAre_4 rfl (lv_at hl 0 rfl) ?_
    refine lv_bipush (v := 40) hx hb d_WM_menThatAre_5 (by decide +kernel) ?_
    refine lv_icmp_ge (tgt := 41) hx hb d_WM_menThatAre_7 (by decide) (fun h => absurd h (by decide +kernel)) (fun _ => ?_)
    refine lv_aload_n hx hb d_WM_menThatAre_10 rfl (lv_at hl 3 rfl) ?_
    refine va_get (D := (dC, dI)) (ci := 0) (v := .ref (a 6)) (C := R_WM) (T := F_WM) (N := 13) hx hb htb i_WM hown hK hP 0 rfl rfl 1 (by decide) (htb (.fieldLink R_WM 18 "WaterMen" "men" "[LWaterMen$Man;") tw_70) (fun _ h9 => h9) rfl d_WM_menThatAre_11 ?_
    refine lv_iload_n hx hb d_WM_menThatAre_14 rfl (lv_at hl 0 rfl) ?_
    refine va_aldq hx hb hK hP 6 4 rfl rfl (by unfold vp_in; decide +kernel) d_WM_menThatAre_15 ?_
    obtain ⟨q_206, x_207, hq_208, hk_209⟩ := xw_man (a := a) (k := k) (i := 12) hL (by unfold vp_in; decide +kernel)
    refine hb_tv (.ref q_206) (by show va_rf (L[_]?) = _; rw [hq_208]; rfl) ?_
    refine lv_astore (lv' := [(4, .ref q_206), (3, .int 12), (2, .int 12), (0, .ref (a 0)), (1, .int p_0)]) hx hb d_WM_menThatAre_16 hl (by decide) rfl (fun ls hl => ?_)
    refine lv_aload hx hb d_WM_menThatAre_18 (lv_at hl 0 rfl) ?_
    refine lv_ifnull hx hb d_WM_menThatAre_20 ?_
    refine lv_aload hx hb d_WM_menThatAre_23 (lv_at hl 0 rfl) ?_
    refine va_get (D := (dC, dI)) (ci := 2) (v := .int 0) (C := R_Mn) (T := F_Mn) (N := 8) hx hb htb i_Mn hown hK hP x_207 hk_209 rfl 0 (by decide) (htb (.fieldLink R_WM 111 "WaterMen$Man" "state" "I") tw_160) (fun _ h9 => h9) rfl d_WM_menThatAre_25 ?_
    refine lv_iload_n hx hb d_WM_menThatAre_28 rfl (lv_at hl 4 rfl) ?_
    refine lv_icmp_ne (tgt := 35) hx hb d_WM_menThatAre_29 (by decide) (fun h => absurd c_5 h) (fun _ => ?_)
    refine lv_iinc (v := 13) (lv' := [(2, .int 13), (4, .ref q_206), (3, .int 12), (0, .ref (a 0)), (1, .int p_0)]) hx hb d_WM_menThatAre_32 hl (k := 2) rfl (by decide +kernel) (by decide) rfl (fun ls hl => ?_)
    refine lv_iinc (v := 13) (lv' := [(3, .int 13), (2, .int 13), (4, .ref q_206), (0, .ref (a 0)), (1, .int p_0)]) hx hb d_WM_menThatAre_35 hl (k := 2) rfl (by decide +kernel) (by decide) rfl (fun ls hl => ?_)
    refine lv_goto (tgt := 4) hx hb d_WM_menThatAre_38 (by decide) ?_
    refine lv_iload_n hx hb d_WM_menThatAre_4 rfl (lv_at hl 0 rfl) ?_
    refine lv_bipush (v := 40) hx hb d_WM_menThatAre_5 (by decide +kernel) ?_
    refine lv_icmp_ge (tgt := 41) hx hb d_WM_menThatAre_7 (by decide) (fun h => absurd h (by decide +kernel)) (fun _ => ?_)
    refine lv_aload_n hx hb d_WM_menThatAre_10 rfl (lv_at hl 3 rfl) ?_
    refine va_get (D := (dC, dI)) (ci := 0) (v := .ref (a 6)) (C := R_WM) (T := F_WM) (N := 13) hx hb htb i_WM hown hK hP 0 rfl rfl 1 (by decide) (htb (.fieldLink R_WM 18 "WaterMen" "men" "[LWaterMen$Man;") tw_70) (fun _ h9 => h9) rfl d_WM_menThatAre_11 ?_
    refine lv_iload_n hx hb d_WM_menThatAre_14 rfl (lv_at hl 0 rfl) ?_
    refine va_aldq hx hb hK hP 6 4 rfl rfl (by unfold vp_in; decide +kernel) d_WM_menThatAre_15 ?_
    obtain ⟨q_210, x_211, hq_212, hk_213⟩ := xw_man (a := a) (k := k) (i := 13) hL (by unfold vp_in; decide +kernel)
    refine hb_tv (.ref q_210) (by show va_rf (L[_]?) = _; rw [hq_212]; rfl) ?_
    refine lv_astore (lv' := [(4, .ref q_210), (3, .int 13), (2, .int 13), (0, .ref (a 0)), (1, .int p_0)]) hx hb d_WM_menThatAre_16 hl (by decide) rfl (fun ls hl => ?_)
    refine lv_aload hx hb d_WM_menThatAre_18 (lv_at hl 0 rfl) ?_
    refine lv_ifnull hx hb d_WM_menThatAre_20 ?_
    refine lv_aload hx hb d_WM_menThatAre_23 (lv_at hl 0 rfl) ?_
    refine va_get (D := (dC, dI)) (ci := 2) (v := .int 0) (C := R_Mn) (T := F_Mn) (N := 8) hx hb htb i_Mn hown hK hP x_211 hk_213 rfl 0 (by decide) (htb (.fieldLink R_WM 111 "WaterMen$Man" "state" "I") tw_160) (fun _ h9 => h9) rfl d_WM_menThatAre_25 ?_
    refine lv_iload_n hx hb d_WM_menThatAre_28 rfl (lv_at hl 4 rfl) ?_
    refine lv_icmp_ne (tgt := 35) hx hb d_WM_menThatAre_29 (by decide) (fun h => absurd c_5 h) (fun _ => ?_)
    refine lv_iinc (v := 14) (lv' := [(2, .int 14), (4, .ref q_210), (3, .int 13), (0, .ref (a 0)), (1, .int p_0)]) hx hb d_WM_menThatAre_32 hl (k := 2) rfl (by decide +kernel) (by decide) rfl (fun ls hl => ?_)
    refine lv_iinc (v := 14) (lv' := [(3, .int 14), (2, .int 14), (4, .ref q_210), (0, .ref (a 0)), (1, .int p_0)]) hx hb d_WM_menThatAre_35 hl (k := 2) rfl (by decide +kernel) (by decide) rfl (fun ls hl => ?_)
    refine lv_goto (tgt := 4) hx hb d_WM_menThatAre_38 (by decide) ?_
    refine lv_iload_n hx hb d_WM_menThatAre_4 rfl (lv_at hl 0 rfl) ?_
    refine lv_bipush (v := 40) hx hb d_WM_menThatAre_5 (by decide +kernel) ?_
    refine lv_icmp_ge (tgt := 41) hx hb d_WM_menThatAre_7 (by decide) (fun h => absurd h (by decide +kernel)) (fun _ => ?_)
    refine lv_aload_n hx hb d_WM_menThatAre_10 rfl (lv_at hl 3 rfl) ?_
    refine va_get (D := (dC, dI)) (ci := 0) (v := .ref (a 6)) (C := R_WM) (T := F_WM) (N := 13) hx hb htb i_WM hown hK hP 0 rfl rfl 1 (by decide) (htb (.fieldLink R_WM 18 "WaterMen" "men" "[LWaterMen$Man;") tw_70) (fun _ h9 => h9) rfl d_WM_menThatAre_11 ?_
    refine lv_iload_n hx hb d_WM_menThatAre_14 rfl (lv_at hl 0 rfl) ?_
    refine va_aldq hx hb hK hP 6 4 rfl rfl (by unfold vp_in; decide +kernel) d_WM_menThatAre_15 ?_
    obtain ⟨q_214, x_215, hq_216, hk_217⟩ := xw_man (a := a) (k := k) (i := 14) hL (by unfold vp_in; decide +kernel)
    refine hb_tv (.ref q_214) (by show va_rf (L[_]?) = _; rw [hq_216]; rfl) ?_
    refine lv_astore (lv' := [(4, .ref q_214), (3, .int 14), (2, .int 14), (0, .ref (a 0)), (1, .int p_0)]) hx hb d_WM_menThatAre_16 hl (by decide) rfl (fun ls hl => ?_)
    refine lv_aload hx hb d_WM_menThatAre_18 (lv_at hl 0 rfl) ?_
    refine lv_ifnull hx hb d_WM_menThatAre_20 ?_
    refine lv_aload hx hb d_WM_menThatAre_23 (lv_at hl 0 rfl) ?_
    refine va_get (D := (dC, dI)) (ci := 2) (v := .int 0) (C := R_Mn) (T := F_Mn) (N := 8) hx hb htb i_Mn hown hK hP x_215 hk_217 rfl 0 (by decide) (htb (.fieldLink R_WM 111 "WaterMen$Man" "state" "I") tw_160) (fun _ h9 => h9) rfl d_WM_menThatAre_25 ?_
    refine lv_iload_n hx hb d_WM_menThatAre_28 rfl (lv_at hl 4 rfl) ?_
    refine lv_icmp_ne (tgt := 35) hx hb d_WM_menThatAre_29 (by decide) (fun h => absurd c_5 h) (fun _ => ?_)
    refine lv_iinc (v := 15) (lv' := [(2, .int 15), (4, .ref q_214), (3, .int 14), (0, .ref (a 0)), (1, .int p_0)]) hx hb d_WM_menThatAre_32 hl (k := 2) rfl (by decide +kernel) (by decide) rfl (fun ls hl => ?_)
    refine lv_iinc (v := 15) (lv' := [(3, .int 15), (2, .int 15), (4, .ref q_214), (0, .ref (a 0)), (1, .int p_0)]) hx hb d_WM_menThatAre_35 hl (k := 2) rfl (by decide +kernel) (by decide) rfl (fun ls hl => ?_)
    refine lv_goto (tgt := 4) hx hb d_WM_menThatAre_38 (by decide) ?_
    refine lv_iload_n hx hb d_WM_menThatAre_4 rfl (lv_at hl 0 rfl) ?_
    refine lv_bipush (v := 40) hx hb d_WM_menThatAre_5 (by decide +kernel) ?_
    refine lv_icmp_ge (tgt := 41) hx hb d_WM_menThatAre_7 (by decide) (fun h => absurd h (by decide +kernel)) (fun _ => ?_)
    refine lv_aload_n hx hb d_WM_menThatAre_10 rfl (lv_at hl 3 rfl) ?_
    refine va_get (D := (dC, dI)) (ci := 0) (v := .ref (a 6)) (C := R_WM) (T := F_WM) (N := 13) hx hb htb i_WM hown hK hP 0 rfl rfl 1 (by decide) (htb (.fieldLink R_WM 18 "WaterMen" "men" "[LWaterMen$Man;") tw_70) (fun _ h9 => h9) rfl d_WM_menThatAre_11 ?_
    refine lv_iload_n hx hb d_WM_menThatAre_14 rfl (lv_at hl 0 rfl) ?_
    refine va_aldq hx hb hK hP 6 4 rfl rfl (by unfold vp_in; decide +kernel) d_WM_menThatAre_15 ?_
    obtain ⟨q_218, x_219, hq_220, hk_221⟩ := xw_man (a := a) (k := k) (i := 15) hL (by unfold vp_in; decide +kernel)
    refine hb_tv (.ref q_218) (by show va_rf (L[_]?) = _; rw [hq_220]; rfl) ?_
    refine lv_astore (lv' := [(4, .ref q_218), (3, .int 15), (2, .int 15), (0, .ref (a 0)), (1, .int p_0)]) hx hb d_WM_menThatAre_16 hl (by decide) rfl (fun ls hl => ?_)
    refine lv_aload hx hb d_WM_menThatAre_18 (lv_at hl 0 rfl) ?_
    refine lv_ifnull hx hb d_WM_menThatAre_20 ?_
    refine lv_aload hx hb d_WM_menThatAre_23 (lv_at hl 0 rfl) ?_
    refine va_get (D := (dC, dI)) (ci := 2) (v := .int 0) (C := R_Mn) (T := F_Mn) (N := 8) hx hb htb i_Mn hown hK hP x_219 hk_221 rfl 0 (by decide) (htb (.fieldLink R_WM 111 "WaterMen$Man" "state" "I") tw_160) (fun _ h9 => h9) rfl d_WM_menThatAre_25 ?_
    refine lv_iload_n hx hb d_WM_menThatAre_28 rfl (lv_at hl 4 rfl) ?_
    refine lv_icmp_ne (tgt := 35) hx hb d_WM_menThatAre_29 (by decide) (fun h => absurd c_5 h) (fun _ => ?_)
    refine lv_iinc (v := 16) (lv' := [(2, .int 16), (4, .ref q_218), (3, .int 15), (0, .ref (a 0)), (1, .int p_0)]) hx hb d_WM_menThatAre_32 hl (k := 2) rfl (by decide +kernel) (by decide) rfl (fun ls hl => ?_)
    refine lv_iinc (v := 16) (lv' := [(3, .int 16), (2, .int 16), (4, .ref q_218), (0, .ref (a 0)), (1, .int p_0)]) hx hb d_WM_menThatAre_35 hl (k := 2) rfl (by decide +kernel) (by decide) rfl (fun ls hl => ?_)
    refine lv_goto (tgt := 4) hx hb d_WM_menThatAre_38 (by decide) ?_
    refine lv_iload_n hx hb d_WM_menThatAre_4 rfl (lv_at hl 0 rfl) ?_
    refine lv_bipush (v := 40) hx hb d_WM_menThatAre_5 (by decide +kernel) ?_
    refine lv_icmp_ge (tgt := 41) hx hb d_WM_menThatAre_7 (by decide) (fun h => absurd h (by decide +kernel)) (fun _ => ?_)
    refine lv_aload_n hx hb d_WM_menThatAre_10 rfl (lv_at hl 3 rfl) ?_
    refine va_get (D := (dC, dI)) (ci := 0) (v := .ref (a 6)) (C := R_WM) (T := F_WM) (N := 13) hx hb htb i_WM hown hK hP 0 rfl rfl 1 (by decide) (htb (.fieldLink R_WM 18 "WaterMen" "men" "[LWaterMen$Man;") tw_70) (fun _ h9 => h9) rfl d_WM_menThatAre_11 ?_
    refine lv_iload_n hx hb d_WM_menThatAre_14 rfl (lv_at hl 0 rfl) ?_
    refine va_aldq hx hb hK hP 6 4 rfl rfl (by unfold vp_in; decide +kernel) d_WM_menThatAre_15 ?_
    obtain ⟨q_222, x_223, hq_224, hk_225⟩ := xw_man (a := a) (k := k) (i := 16) hL (by unfold vp_in; decide +kernel)
    refine hb_tv (.ref q_222) (by show va_rf (L[_]?) = _; rw [hq_224]; rfl) ?_
    refine lv_astore (lv' := [(4, .ref q_222), (3, .int 16), (2, .int 16), (0, .ref (a 0)), (1, .int p_0)]) hx hb d_WM_menThatAre_16 hl (by decide) rfl (fun ls hl => ?_)
    refine lv_aload hx hb d_WM_menThatAre_18 (lv_at hl 0 rfl) ?_
    refine lv_ifnull hx hb d_WM_menThatAre_20 ?_
    refine lv_aload hx hb d_WM_menThatAre_23 (lv_at hl 0 rfl) ?_
    refine va_get (D := (dC, dI)) (ci := 2) (v := .int 0) (C := R_Mn) (T := F_Mn) (N := 8) hx hb htb i_Mn hown hK hP x_223 hk_225 rfl 0 (by decide) (htb (.fieldLink R_WM 111 "WaterMen$Man" "state" "I") tw_160) (fun _ h9 => h9) rfl d_WM_menThatAre_25 ?_
    refine lv_iload_n hx hb d_WM_menThatAre_28 rfl (lv_at hl 4 rfl) ?_
    refine lv_icmp_ne (tgt := 35) hx hb d_WM_menThatAre_29 (by decide) (fun h => absurd c_5 h) (fun _ => ?_)
    refine lv_iinc (v := 17) (lv' := [(2, .int 17), (4, .ref q_222), (3, .int 16), (0, .ref (a 0)), (1, .int p_0)]) hx hb d_WM_menThatAre_32 hl (k := 2) rfl (by decide +kernel) (by decide) rfl (fun ls hl => ?_)
    refine lv_iinc (v := 17) (lv' := [(3, .int 17), (2, .int 17), (4, .ref q_222), (0, .ref (a 0)), (1, .int p_0)]) hx hb d_WM_menThatAre_35 hl (k := 2) rfl (by decide +kernel) (by decide) rfl (fun ls hl => ?_)
    refine lv_goto (tgt := 4) hx hb d_WM_menThatAre_38 (by decide) ?_
    refine lv_iload_n hx hb d_WM_menThatAre_4 rfl (lv_at hl 0 rfl) ?_
    refine lv_bipush (v := 40) hx hb d_WM_menThatAre_5 (by decide +kernel) ?_
    refine lv_icmp_ge (tgt := 41) hx hb d_WM_menThatAre_7 (by decide) (fun h => absurd h (by decide +kernel)) (fun _ => ?_)
    refine lv_aload_n hx hb d_WM_menThatAre_10 rfl (lv_at hl 3 rfl) ?_
    refine va_get (D := (dC, dI)) (ci := 0) (v := .ref (a 6)) (C := R_WM) (T := F_WM) (N := 13) hx hb htb i_WM hown hK hP 0 rfl rfl 1 (by decide) (htb (.fieldLink R_WM 18 "WaterMen" "men" "[LWaterMen$Man;") tw_70) (fun _ h9 => h9) rfl d_WM_menThatAre_11 ?_
    refine lv_iload_n hx hb d_WM_menThatAre_14 rfl (lv_at hl 0 rfl) ?_
    refine va_aldq hx hb hK hP 6 4 rfl rfl (by unfold vp_in; decide +kernel) d_WM_menThatAre_15 ?_
    obtain ⟨q_226, x_227, hq_228, hk_229⟩ := xw_man (a := a) (k := k) (i := 17) hL (by unfold vp_in; decide +kernel)
    refine hb_tv (.ref q_226) (by show va_rf (L[_]?) = _; rw [hq_228]; rfl) ?_
    refine lv_astore (lv' := [(4, .ref q_226), (3, .int 17), (2, .int 17), (0, .ref (a 0)), (1, .int p_0)]) hx hb d_WM_menThatAre_16 hl (by decide) rfl (fun ls hl => ?_)
    refine lv_aload hx hb d_WM_menThatAre_18 (lv_at hl 0 rfl) ?_
    refine lv_ifnull hx hb d_WM_menThatAre_20 ?_
    refine lv_aload hx hb d_WM_menThatAre_23 (lv_at hl 0 rfl) ?_
    refine va_get (D := (dC, dI)) (ci := 2) (v := .int 0) (C := R_Mn) (T := F_Mn) (N := 8) hx hb htb i_Mn hown hK hP x_227 hk_229 rfl 0 (by decide) (htb (.fieldLink R_WM 111 "WaterMen$Man" "state" "I") tw_160) (fun _ h9 => h9) rfl d_WM_menThatAre_25 ?_
    refine lv_iload_n hx hb d_WM_menThatAre_28 rfl (lv_at hl 4 rfl) ?_
    refine lv_icmp_ne (tgt := 35) hx hb d_WM_menThatAre_29 (by decide) (fun h => absurd c_5 h) (fun _ => ?_)
    refine lv_iinc (v := 18) (lv' := [(2, .int 18), (4, .ref q_226), (3, .int 17), (0, .ref (a 0)), (1, .int p_0)]) hx hb d_WM_menThatAre_32 hl (k := 2) rfl (by decide +kernel) (by decide) rfl (fun ls hl => ?_)
    refine lv_iinc (v := 18) (lv' := [(3, .int 18), (2, .int 18), (4, .ref q_226), (0, .ref (a 0)), (1, .int p_0)]) hx hb d_WM_menThatAre_35 hl (k := 2) rfl (by decide +kernel) (by decide) rfl (fun ls hl => ?_)
    refine lv_goto (tgt := 4) hx hb d_WM_menThatAre_38 (by decide) ?_
    refine lv_iload_n hx hb d_WM_menThatAre_4 rfl (lv_at hl 0 rfl) ?_
    refine lv_bipush (v := 40) hx hb d_WM_menThatAre_5 (by decide +kernel) ?_
    refine lv_icmp_ge (tgt := 41) hx hb d_WM_menThatAre_7 (by decide) (fun h => absurd h (by decide +kernel)) (fun _ => ?_)
    refine lv_aload_n hx hb d_WM_menThatAre_10 rfl (lv_at hl 3 rfl) ?_
    refine va_get (D := (dC, dI)) (ci := 0) (v := .ref (a 6)) (C := R_WM) (T := F_WM) (N := 13) hx hb htb i_WM hown hK hP 0 rfl rfl 1 (by decide) (htb (.fieldLink R_WM 18 "WaterMen" "men" "[LWaterMen$Man;") tw_70) (fun _ h9 => h9) rfl d_WM_menThatAre_11 ?_
    refine lv_iload_n hx hb d_WM_menThatAre_14 rfl (lv_at hl 0 rfl) ?_
    refine va_aldq hx hb hK hP 6 4 rfl rfl (by unfold vp_in; decide +kernel) d_WM_menThatAre_15 ?_
    obtain ⟨q_230, x_231, hq_232, hk_233⟩ := xw_man (a := a) (k := k) (i := 18) hL (by unfold vp_in; decide +kernel)
    refine hb_tv (.ref q_230) (by show va_rf (L[_]?) = _; rw [hq_232]; rfl) ?_
    refine lv_astore (lv' := [(4, .ref q_230), (3, .int 18), (2, .int 18), (0, .ref (a 0)), (1, .int p_0)]) hx hb d_WM_menThatAre_16 hl (by decide) rfl (fun ls hl => ?_)
    refine lv_aload hx hb d_WM_menThatAre_18 (lv_at hl 0 rfl) ?_
    refine lv_ifnull hx hb d_WM_menThatAre_20 ?_
    refine lv_aload hx hb d_WM_menThatAre_23 (lv_at hl 0 rfl) ?_
    refine va_get (D := (dC, dI)) (ci := 2) (v := .int 0) (C := R_Mn) (T := F_Mn) (N := 8) hx hb htb i_Mn hown hK hP x_231 hk_233 rfl 0 (by decide) (htb (.fieldLink R_WM 111 "WaterMen$Man" "state" "I") tw_160) (fun _ h9 => h9) rfl d_WM_menThatAre_25 ?_
    refine lv_iload_n hx hb d_WM_menThatAre_28 rfl (lv_at hl 4 rfl) ?_
    refine lv_icmp_ne (tgt := 35) hx hb d_WM_menThatAre_29 (by decide) (fun h => absurd c_5 h) (fun _ => ?_)
    refine lv_iinc (v := 19) (lv' := [(2, .int 19), (4, .ref q_230), (3, .int 18), (0, .ref (a 0)), (1, .int p_0)]) hx hb d_WM_menThatAre_32 hl (k := 2) rfl (by decide +kernel) (by decide) rfl (fun ls hl => ?_)
    refine lv_iinc (v := 19) (lv' := [(3, .int 19), (2, .int 19), (4, .ref q_230), (0, .ref (a 0)), (1, .int p_0)]) hx hb d_WM_menThatAre_35 hl (k := 2) rfl (by decide +kernel) (by decide) rfl (fun ls hl => ?_)
    refine lv_goto (tgt := 4) hx hb d_WM_menThatAre_38 (by decide) ?_
    refine lv_iload_n hx hb d_WM_menThatAre_4 rfl (lv_at hl 0 rfl) ?_
    refine lv_bipush (v := 40) hx hb d_WM_menThatAre_5 (by decide +kernel) ?_
    refine lv_icmp_ge (tgt := 41) hx hb d_WM_menThatAre_7 (by decide) (fun h => absurd h (by decide +kernel)) (fun _ => ?_)
    refine lv_aload_n hx hb d_WM_menThatAre_10 rfl (lv_at hl 3 rfl) ?_
    refine va_get (D := (dC, dI)) (ci := 0) (v := .ref (a 6)) (C := R_WM) (T := F_WM) (N := 13) hx hb htb i_WM hown hK hP 0 rfl rfl 1 (by decide) (htb (.fieldLink R_WM 18 "WaterMen" "men" "[LWaterMen$Man;") tw_70) (fun _ h9 => h9) rfl d_WM_menThatAre_11 ?_
    refine lv_iload_n hx hb d_WM_menThatAre_14 rfl (lv_at hl 0 rfl) ?_
    refine va_aldq hx hb hK hP 6 4 rfl rfl (by unfold vp_in; decide +kernel) d_WM_menThatAre_15 ?_
    obtain ⟨q_234, x_235, hq_236, hk_237⟩ := xw_man (a := a) (k := k) (i := 19) hL (by unfold vp_in; decide +kernel)
    refine hb_tv (.ref q_234) (by show va_rf (L[_]?) = _; rw [hq_236]; rfl) ?_
    refine lv_astore (lv' := [(4, .ref q_234), (3, .int 19), (2, .int 19), (0, .ref (a 0)), (1, .int p_0)]) hx hb d_WM_menThatAre_16 hl (by decide) rfl (fun ls hl => ?_)
    refine lv_aload hx hb d_WM_menThatAre_18 (lv_at hl 0 rfl) ?_
    refine lv_ifnull hx hb d_WM_menThatAre_20 ?_
    refine lv_aload hx hb d_WM_menThatAre_23 (lv_at hl 0 rfl) ?_
    refine va_get (D := (dC, dI)) (ci := 2) (v := .int 0) (C := R_Mn) (T := F_Mn) (N := 8) hx hb htb i_Mn hown hK hP x_235 hk_237 rfl 0 (by decide) (htb (.fieldLink R_WM 111 "WaterMen$Man" "state" "I") tw_160) (fun _ h9 => h9) rfl d_WM_menThatAre_25 ?_
    refine lv_iload_n hx hb d_WM_menThatAre_28 rfl (lv_at hl 4 rfl) ?_
    refine lv_icmp_ne (tgt := 35) hx hb d_WM_menThatAre_29 (by decide) (fun h => absurd c_5 h) (fun _ => ?_)
    refine lv_iinc (v := 20) (lv' := [(2, .int 20), (4, .ref q_234), (3, .int 19), (0, .ref (a 0)), (1, .int p_0)]) hx hb d_WM_menThatAre_32 hl (k := 2) rfl (by decide +kernel) (by decide) rfl (fun ls hl => ?_)
    refine lv_iinc (v := 20) (lv' := [(3, .int 20), (2, .int 20), (4, .ref q_234), (0, .ref (a 0)), (1, .int p_0)]) hx hb d_WM_menThatAre_35 hl (k := 2) rfl (by decide +kernel) (by decide) rfl (fun ls hl => ?_)
    refine lv_goto (tgt := 4) hx hb d_WM_menThatAre_38 (by decide) ?_
    refine lv_iload_n hx hb d_WM_menThatAre_4 rfl (lv_at hl 0 rfl) ?_
    refine lv_bipush (v := 40) hx hb d_WM_menThatAre_5 (by decide +kernel) ?_
    refine lv_icmp_ge (tgt := 41) hx hb d_WM_menThatAre_7 (by decide) (fun h => absurd h (by decide +kernel)) (fun _ => ?_)
    refine lv_aload_n hx hb d_WM_menThatAre_10 rfl (lv_at hl 3 rfl) ?_
    refine va_get (D := (dC, dI)) (ci := 0) (v := .ref (a 6)) (C := R_WM) (T := F_WM) (N := 13) hx hb htb i_WM hown hK hP 0 rfl rfl 1 (by decide) (htb (.fieldLink R_WM 18 "WaterMen" "men" "[LWaterMen$Man;") tw_70) (fun _ h9 => h9) rfl d_WM_menThatAre_11 ?_
    refine lv_iload_n hx hb d_WM_menThatAre_14 rfl (lv_at hl 0 rfl) ?_
    refine va_aldq hx hb hK hP 6 4 rfl rfl (by unfold vp_in; decide +kernel) d_WM_menThatAre_15 ?_
    obtain ⟨q_238, x_239, hq_240, hk_241⟩ := xw_man (a := a) (k := k) (i := 20) hL (by unfold vp_in; decide +kernel)
    refine hb_tv (.ref q_238) (by show va_rf (L[_]?) = _; rw [hq_240]; rfl) ?_
    refine lv_astore (lv' := [(4, .ref q_238), (3, .int 20), (2, .int 20), (0, .ref (a 0)), (1, .int p_0)]) hx hb d_WM_menThatAre_16 hl (by decide) rfl (fun ls hl => ?_)
    refine lv_aload hx hb d_WM_menThatAre_18 (lv_at hl 0 rfl) ?_
    refine lv_ifnull hx hb d_WM_menThatAre_20 ?_
    refine lv_aload hx hb d_WM_menThatAre_23 (lv_at hl 0 rfl) ?_
    refine va_get (D := (dC, dI)) (ci := 2) (v := .int 0) (C := R_Mn) (T := F_Mn) (N := 8) hx hb htb i_Mn hown hK hP x_239 hk_241 rfl 0 (by decide) (htb (.fieldLink R_WM 111 "WaterMen$Man" "state" "I") tw_160) (fun _ h9 => h9) rfl d_WM_menThatAre_25 ?_
    refine lv_iload_n hx hb d_WM_menThatAre_28 rfl (lv_at hl 4 rfl) ?_
    refine lv_icmp_ne (tgt := 35) hx hb d_WM_menThatAre_29 (by decide) (fun h => absurd c_5 h) (fun _ => ?_)
    refine lv_iinc (v := 21) (lv' := [(2, .int 21), (4, .ref q_238), (3, .int 20), (0, .ref (a 0)), (1, .int p_0)]) hx hb d_WM_menThatAre_32 hl (k := 2) rfl (by decide +kernel) (by decide) rfl (fun ls hl => ?_)
    refine lv_iinc (v := 21) (lv' := [(3, .int 21), (2, .int 21), (4, .ref q_238), (0, .ref (a 0)), (1, .int p_0)]) hx hb d_WM_menThatAre_35 hl (k := 2) rfl (by decide +kernel) (by decide) rfl (fun ls hl => ?_)
    refine lv_goto (tgt := 4) hx hb d_WM_menThatAre_38 (by decide) ?_
    refine lv_iload_n hx hb d_WM_menThatAre_4 rfl (lv_at hl 0 rfl) ?_
    refine lv_bipush (v := 40) hx hb d_WM_menThatAre_5 (by decide +kernel) ?_
    refine lv_icmp_ge (tgt := 41) hx hb d_WM_menThatAre_7 (by decide) (fun h => absurd h (by decide +kernel)) (fun _ => ?_)
    refine lv_aload_n hx hb d_WM_menThatAre_10 rfl (lv_at hl 3 rfl) ?_
    refine va_get (D := (dC, dI)) (ci := 0) (v := .ref (a 6)) (C := R_WM) (T := F_WM) (N := 13) hx hb htb i_WM hown hK hP 0 rfl rfl 1 (by decide) (htb (.fieldLink R_WM 18 "WaterMen" "men" "[LWaterMen$Man;") tw_70) (fun _ h9 => h9) rfl d_WM_menThatAre_11 ?_
    refine lv_iload_n hx hb d_WM_menThatAre_14 rfl (lv_at hl 0 rfl) ?_
    refine va_aldq hx hb hK hP 6 4 rfl rfl (by unfold vp_in; decide +kernel) d_WM_menThatAre_15 ?_
    obtain ⟨q_242, x_243, hq_244, hk_245⟩ := xw_man (a := a) (k := k) (i := 21) hL (by unfold vp_in; decide +kernel)
    refine hb_tv (.ref q_242) (by show va_rf (L[_]?) = _; rw [hq_244]; rfl) ?_
    refine lv_astore (lv' := [(4, .ref q_242), (3, .int 21), (2, .int 21), (0, .ref (a 0)), (1, .int p_0)]) hx hb d_WM_menThatAre_16 hl (by decide) rfl (fun ls hl => ?_)
    refine lv_aload hx hb d_WM_menThatAre_18 (lv_at hl 0 rfl) ?_
    refine lv_ifnull hx hb d_WM_menThatAre_20 ?_
    refine lv_aload hx hb d_WM_menThatAre_23 (lv_at hl 0 rfl) ?_
    refine va_get (D := (dC, dI)) (ci := 2) (v := .int 0) (C := R_Mn) (T := F_Mn) (N := 8) hx hb htb i_Mn hown hK hP x_243 hk_245 rfl 0 (by decide) (htb (.fieldLink R_WM 111 "WaterMen$Man" "state" "I") tw_160) (fun _ h9 => h9) rfl d_WM_menThatAre_25 ?_
    refine lv_iload_n hx hb d_WM_menThatAre_28 rfl (lv_at hl 4 rfl) ?_
    refine lv_icmp_ne (tgt := 35) hx hb d_WM_menThatAre_29 (by decide) (fun h => absurd c_5 h) (fun _ => ?_)
    refine lv_iinc (v := 22) (lv' := [(2, .int 22), (4, .ref q_242), (3, .int 21), (0, .ref (a 0)), (1, .int p_0)]) hx hb d_WM_menThatAre_32 hl (k := 2) rfl (by decide +kernel) (by decide) rfl (fun ls hl => ?_)
    refine lv_iinc (v := 22) (lv' := [(3, .int 22), (2, .int 22), (4, .ref q_242), (0, .ref (a 0)), (1, .int p_0)]) hx hb d_WM_menThatAre_35 hl (k := 2) rfl (by decide +kernel) (by decide) rfl (fun ls hl => ?_)
    refine lv_goto (tgt := 4) hx hb d_WM_menThatAre_38 (by decide) ?_
    refine lv_iload_n hx hb d_WM_menThatAre_4 rfl (lv_at hl 0 rfl) ?_
    refine lv_bipush (v := 40) hx hb d_WM_menThatAre_5 (by decide +kernel) ?_
    refine lv_icmp_ge (tgt := 41) hx hb d_WM_menThatAre_7 (by decide) (fun h => absurd h (by decide +kernel)) (fun _ => ?_)
    refine lv_aload_n hx hb d_WM_menThatAre_10 rfl (lv_at hl 3 rfl) ?_
    refine va_get (D := (dC, dI)) (ci := 0) (v := .ref (a 6)) (C := R_WM) (T := F_WM) (N := 13) hx hb htb i_WM hown hK hP 0 rfl rfl 1 (by decide) (htb (.fieldLink R_WM 18 "WaterMen" "men" "[LWaterMen$Man;") tw_70) (fun _ h9 => h9) rfl d_WM_menThatAre_11 ?_
    refine lv_iload_n hx hb d_WM_menThatAre_14 rfl (lv_at hl 0 rfl) ?_
    refine va_aldq hx hb hK hP 6 4 rfl rfl (by unfold vp_in; decide +kernel) d_WM_menThatAre_15 ?_
    obtain ⟨q_246, x_247, hq_248, hk_249⟩ := xw_man (a := a) (k := k) (i := 22) hL (by unfold vp_in; decide +kernel)
    refine hb_tv (.ref q_246) (by show va_rf (L[_]?) = _; rw [hq_248]; rfl) ?_
    refine lv_astore (lv' := [(4, .ref q_246), (3, .int 22), (2, .int 22), (0, .ref (a 0)), (1, .int p_0)]) hx hb d_WM_menThatAre_16 hl (by decide) rfl (fun ls hl => ?_)
    refine lv_aload hx hb d_WM_menThatAre_18 (lv_at hl 0 rfl) ?_
    refine lv_ifnull hx hb d_WM_menThatAre_20 ?_
    refine lv_aload hx hb d_WM_menThatAre_23 (lv_at hl 0 rfl) ?_
    refine va_get (D := (dC, dI)) (ci := 2) (v := .int 0) (C := R_Mn) (T := F_Mn) (N := 8) hx hb htb i_Mn hown hK hP x_247 hk_249 rfl 0 (by decide) (htb (.fieldLink R_WM 111 "WaterMen$Man" "state" "I") tw_160) (fun _ h9 => h9) rfl d_WM_menThatAre_25 ?_
    refine lv_iload_n hx hb d_WM_menThatAre_28 rfl (lv_at hl 4 rfl) ?_
    refine lv_icmp_ne (tgt := 35) hx hb d_WM_menThatAre_29 (by decide) (fun h => absurd c_5 h) (fun _ => ?_)
    refine lv_iinc (v := 23) (lv' := [(2, .int 23), (4, .ref q_246), (3, .int 22), (0, .ref (a 0)), (1, .int p_0)]) hx hb d_WM_menThatAre_32 hl (k := 2) rfl (by decide +kernel) (by decide) rfl (fun ls hl => ?_)
    refine lv_iinc (v := 23) (lv' := [(3, .int 23), (2, .int 23), (4, .ref q_246), (0, .ref (a 0)), (1, .int p_0)]) hx hb d_WM_menThatAre_35 hl (k := 2) rfl (by decide +kernel) (by decide) rfl (fun ls hl => ?_)
    refine lv_goto (tgt := 4) hx hb d_WM_menThatAre_38 (by decide) ?_
    refine lv_iload_n hx hb d_WM_menThatAre_4 rfl (lv_at hl 0 rfl) ?_
    refine lv_bipush (v := 40) hx hb d_WM_menThatAre_5 (by decide +kernel) ?_
    refine lv_icmp_ge (tgt := 41) hx hb d_WM_menThatAre_7 (by decide) (fun h => absurd h (by decide +kernel)) (fun _ => ?_)
    refine lv_aload_n hx hb d_WM_menThatAre_10 rfl (lv_at hl 3 rfl) ?_
    refine va_get (D := (dC, dI)) (ci := 0) (v := .ref (a 6)) (C := R_WM) (T := F_WM) (N := 13) hx hb htb i_WM hown hK hP 0 rfl rfl 1 (by decide) (htb (.fieldLink R_WM 18 "WaterMen" "men" "[LWaterMen$Man;") tw_70) (fun _ h9 => h9) rfl d_WM_menThatAre_11 ?_
    refine lv_iload_n hx hb d_WM_menThatAre_14 rfl (lv_at hl 0 rfl) ?_
    refine va_aldq hx hb hK hP 6 4 rfl rfl (by unfold vp_in; decide +kernel) d_WM_menThatAre_15 ?_
    obtain ⟨q_250, x_251, hq_252, hk_253⟩ := xw_man (a := a) (k := k) (i := 23) hL (by unfold vp_in; decide +kernel)
    refine hb_tv (.ref q_250) (by show va_rf (L[_]?) = _; rw [hq_252]; rfl) ?_
    refine lv_astore (lv' := [(4, .ref q_250), (3, .int 23), (2, .int 23), (0, .ref (a 0)), (1, .int p_0)]) hx hb d_WM_menThatAre_16 hl (by decide) rfl (fun ls hl => ?_)
    refine lv_aload hx hb d_WM_menThatAre_18 (lv_at hl 0 rfl) ?_
    refine lv_ifnull hx hb d_WM_menThatAre_20 ?_
    refine lv_aload hx hb d_WM_menThatAre_23 (lv_at hl 0 rfl) ?_
    refine va_get (D := (dC, dI)) (ci := 2) (v := .int 0) (C := R_Mn) (T := F_Mn) (N := 8) hx hb htb i_Mn hown hK hP x_251 hk_253 rfl 0 (by decide) (htb (.fieldLink R_WM 111 "WaterMen$Man" "state" "I") tw_160) (fun _ h9 => h9) rfl d_WM_menThatAre_25 ?_
    refine lv_iload_n hx hb d_WM_menThatAre_28 rfl (lv_at hl 4 rfl) ?_
    refine lv_icmp_ne (tgt := 35) hx hb d_WM_menThatAre_29 (by decide) (fun h => absurd c_5 h) (fun _ => ?_)
    refine lv_iinc (v := 24) (lv' := [(2, .int 24), (4, .ref q_250), (3, .int 23), (0, .ref (a 0)), (1, .int p_0)]) hx hb d_WM_menThatAre_32 hl (k := 2) rfl (by decide +kernel) (by decide) rfl (fun ls hl => ?_)
    refine lv_iinc (v := 24) (lv' := [(3, .int 24), (2, .int 24), (4, .ref q_250), (0, .ref (a 0)), (1, .int p_0)]) hx hb d_WM_menThatAre_35 hl (k := 2) rfl (by decide +kernel) (by decide) rfl (fun ls hl => ?_)
    refine lv_goto (tgt := 4) hx hb d_WM_menThatAre_38 (by decide) ?_
    refine lv_iload_n hx hb d_WM_menThatAre_4 rfl (lv_at hl 0 rfl) ?_
    refine lv_bipush (v := 40) hx hb d_WM_menThatAre_5 (by decide +kernel) ?_
    refine lv_icmp_ge (tgt := 41) hx hb d_WM_menThatAre_7 (by decide) (fun h => absurd h (by decide +kernel)) (fun _ => ?_)
    refine lv_aload_n hx hb d_WM_menThatAre_10 rfl (lv_at hl 3 rfl) ?_
    refine va_get (D := (dC, dI)) (ci := 0) (v := .ref (a 6)) (C := R_WM) (T := F_WM) (N := 13) hx hb htb i_WM hown hK hP 0 rfl rfl 1 (by decide) (htb (.fieldLink R_WM 18 "WaterMen" "men" "[LWaterMen$Man;") tw_70) (fun _ h9 => h9) rfl d_WM_menThatAre_11 ?_
    refine lv_iload_n hx hb d_WM_menThatAre_14 rfl (lv_at hl 0 rfl) ?_
    refine va_aldq hx hb hK hP 6 4 rfl rfl (by unfold vp_in; decide +kernel) d_WM_menThatAre_15 ?_
    obtain ⟨q_254, x_255, hq_256, hk_257⟩ := xw_man (a := a) (k := k) (i := 24) hL (by unfold vp_in; decide +kernel)
    refine hb_tv (.ref q_254) (by show va_rf (L[_]?) = _; rw [hq_256]; rfl) ?_
    refine lv_astore (lv' := [(4, .ref q_254), (3, .int 24), (2, .int 24), (0, .ref (a 0)), (1, .int p_0)]) hx hb d_WM_menThatAre_16 hl (by decide) rfl (fun ls hl => ?_)
    refine lv_aload hx hb d_WM_menThatAre_18 (lv_at hl 0 rfl) ?_
    refine lv_ifnull hx hb d_WM_menThatAre_20 ?_
    refine lv_aload hx hb d_WM_menThatAre_23 (lv_at hl 0 rfl) ?_
    refine va_get (D := (dC, dI)) (ci := 2) (v := .int 0) (C := R_Mn) (T := F_Mn) (N := 8) hx hb htb i_Mn hown hK hP x_255 hk_257 rfl 0 (by decide) (htb (.fieldLink R_WM 111 "WaterMen$Man" "state" "I") tw_160) (fun _ h9 => h9) rfl d_WM_menThatAre_25 ?_
    refine lv_iload_n hx hb d_WM_menThatAre_28 rfl (lv_at hl 4 rfl) ?_
    refine lv_icmp_ne (tgt := 35) hx hb d_WM_menThatAre_29 (by decide) (fun h => absurd c_5 h) (fun _ => ?_)
    refine lv_iinc (v := 25) (lv' := [(2, .int 25), (4, .ref q_254), (3, .int 24), (0, .ref (a 0)), (1, .int p_0)]) hx hb d_WM_menThatAre_32 hl (k := 2) rfl (by decide +kernel) (by decide) rfl (fun ls hl => ?_)
    refine lv_iinc (v := 25) (lv' := [(3, .int 25), (2, .int 25), (4, .ref q_254), (0, .ref (a 0)), (1, .int p_0)]) hx hb d_WM_menThatAre_35 hl (k := 2) rfl (by decide +kernel) (by decide) rfl (fun ls hl => ?_)
    refine lv_goto (tgt := 4) hx hb d_WM_menThatAre_38 (by decide) ?_
    refine lv_iload_n hx hb d_WM_menThatAre_4 rfl (lv_at hl 0 rfl) ?_
    refine lv_bipush (v := 40) hx hb d_WM_menThatAre_5 (by decide +kernel) ?_
    refine lv_icmp_ge (tgt := 41) hx hb d_WM_menThatAre_7 (by decide) (fun h => absurd h (by decide +kernel)) (fun _ => ?_)
    refine lv_aload_n hx hb d_WM_menThatAre_10 rfl (lv_at hl 3 rfl) ?_
    refine va_get (D := (dC, dI)) (ci := 0) (v := .ref (a 6)) (C := R_WM) (T := F_WM) (N := 13) hx hb htb i_WM hown hK hP 0 rfl rfl 1 (by decide) (htb (.fieldLink R_WM 18 "WaterMen" "men" "[LWaterMen$Man;") tw_70) (fun _ h9 => h9) rfl d_WM_menThatAre_11 ?_
    refine lv_iload_n hx hb d_WM_menThatAre_14 rfl (lv_at hl 0 rfl) ?_
    refine va_aldq hx hb hK hP 6 4 rfl rfl (by unfold vp_in; decide +kernel) d_WM_menThatAre_15 ?_
    obtain ⟨q_258, x_259, hq_260, hk_261⟩ := xw_man (a := a) (k := k) (i := 25) hL (by unfold vp_in; decide +kernel)
    refine hb_tv (.ref q_258) (by show va_rf (L[_]?) = _; rw [hq_260]; rfl) ?_
    refine lv_astore (lv' := [(4, .ref q_258), (3, .int 25), (2, .int 25), (0, .ref (a 0)), (1, .int p_0)]) hx hb d_WM_menThatAre_16 hl (by decide) rfl (fun ls hl => ?_)
    refine lv_aload hx hb d_WM_menThatAre_18 (lv_at hl 0 rfl) ?_
    refine lv_ifnull hx hb d_WM_menThatAre_20 ?_
    refine lv_aload hx hb d_WM_menThatAre_23 (lv_at hl 0 rfl) ?_
    refine va_get (D := (dC, dI)) (ci := 2) (v := .int 0) (C := R_Mn) (T := F_Mn) (N := 8) hx hb htb i_Mn hown hK hP x_259 hk_261 rfl 0 (by decide) (htb (.fieldLink R_WM 111 "WaterMen$Man" "state" "I") tw_160) (fun _ h9 => h9) rfl d_WM_menThatAre_25 ?_
    refine lv_iload_n hx hb d_WM_menThatAre_28 rfl (lv_at hl 4 rfl) ?_
    refine lv_icmp_ne (tgt := 35) hx hb d_WM_menThatAre_29 (by decide) (fun h => absurd c_5 h) (fun _ => ?_)
    refine lv_iinc (v := 26) (lv' := [(2, .int 26), (4, .ref q_258), (3, .int 25), (0, .ref (a 0)), (1, .int p_0)]) hx hb d_WM_menThatAre_32 hl (k := 2) rfl (by decide +kernel) (by decide) rfl (fun ls hl => ?_)
    refine lv_iinc (v := 26) (lv' := [(3, .int 26), (2, .int 26), (4, .ref q_258), (0, .ref (a 0)), (1, .int p_0)]) hx hb d_WM_menThatAre_35 hl (k := 2) rfl (by decide +kernel) (by decide) rfl (fun ls hl => ?_)
    refine lv_goto (tgt := 4) hx hb d_WM_menThatAre_38 (by decide) ?_
    refine lv_iload_n hx hb d_WM_menThatAre_4 rfl (lv_at hl 0 rfl) ?_
    refine lv_bipush (v := 40) hx hb d_WM_menThatAre_5 (by decide +kernel) ?_
    refine lv_icmp_ge (tgt := 41) hx hb d_WM_menThatAre_7 (by decide) (fun h => absurd h (by decide +kernel)) (fun _ => ?_)
    refine lv_aload_n hx hb d_WM_menThatAre_10 rfl (lv_at hl 3 rfl) ?_
    refine va_get (D := (dC, dI)) (ci := 0) (v := .ref (a 6)) (C := R_WM) (T := F_WM) (N := 13) hx hb htb i_WM hown hK hP 0 rfl rfl 1 (by decide) (htb (.fieldLink R_WM 18 "WaterMen" "men" "[LWaterMen$Man;") tw_70) (fun _ h9 => h9) rfl d_WM_menThatAre_11 ?_
    refine lv_iload_n hx hb d_WM_menThatAre_14 rfl (lv_at hl 0 rfl) ?_
    refine va_aldq hx hb hK hP 6 4 rfl rfl (by unfold vp_in; decide +kernel) d_WM_menThatAre_15 ?_
    obtain ⟨q_262, x_263, hq_264, hk_265⟩ := xw_man (a := a) (k := k) (i := 26) hL (by unfold vp_in; decide +kernel)
    refine hb_tv (.ref q_262) (by show va_rf (L[_]?) = _; rw [hq_264]; rfl) ?_
    refine lv_astore (lv' := [(4, .ref q_262), (3, .int 26), (2, .int 26), (0, .ref (a 0)), (1, .int p_0)]) hx hb d_WM_menThatAre_16 hl (by decide) rfl (fun ls hl => ?_)
    refine lv_aload hx hb d_WM_menThatAre_18 (lv_at hl 0 rfl) ?_
    refine lv_ifnull hx hb d_WM_menThatAre_20 ?_
    refine lv_aload hx hb d_WM_menThatAre_23 (lv_at hl 0 rfl) ?_
    refine va_get (D := (dC, dI)) (ci := 2) (v := .int 0) (C := R_Mn) (T := F_Mn) (N := 8) hx hb htb i_Mn hown hK hP x_263 hk_265 rfl 0 (by decide) (htb (.fieldLink R_WM 111 "WaterMen$Man" "state" "I") tw_160) (fun _ h9 => h9) rfl d_WM_menThatAre_25 ?_
    refine lv_iload_n hx hb d_WM_menThatAre_28 rfl (lv_at hl 4 rfl) ?_
    refine lv_icmp_ne (tgt := 35) hx hb d_WM_menThatAre_29 (by decide) (fun h => absurd c_5 h) (fun _ => ?_)
    refine lv_iinc (v := 27) (lv' := [(2, .int 27), (4, .ref q_262), (3, .int 26), (0, .ref (a 0)), (1, .int p_0)]) hx hb d_WM_menThatAre_32 hl (k := 2) rfl (by decide +kernel) (by decide) rfl (fun ls hl => ?_)
    refine lv_iinc (v := 27) (lv' := [(3, .int 27), (2, .int 27), (4, .ref q_262), (0, .ref (a 0)), (1, .int p_0)]) hx hb d_WM_menThatAre_35 hl (k := 2) rfl (by decide +kernel) (by decide) rfl (fun ls hl => ?_)
    refine lv_goto (tgt := 4) hx hb d_WM_menThatAre_38 (by decide) ?_
    refine lv_iload_n hx hb d_WM_menThatAre_4 rfl (lv_at hl 0 rfl) ?_
    refine lv_bipush (v := 40) hx hb d_WM_menThatAre_5 (by decide +kernel) ?_
    refine lv_icmp_ge (tgt := 41) hx hb d_WM_menThatAre_7 (by decide) (fun h => absurd h (by decide +kernel)) (fun _ => ?_)
    refine lv_aload_n hx hb d_WM_menThatAre_10 rfl (lv_at hl 3 rfl) ?_
    refine va_get (D := (dC, dI)) (ci := 0) (v := .ref (a 6)) (C := R_WM) (T := F_WM) (N := 13) hx hb htb i_WM hown hK hP 0 rfl rfl 1 (by decide) (htb (.fieldLink R_WM 18 "WaterMen" "men" "[LWaterMen$Man;") tw_70) (fun _ h9 => h9) rfl d_WM_menThatAre_11 ?_
    refine lv_iload_n hx hb d_WM_menThatAre_14 rfl (lv_at hl 0 rfl) ?_
    refine va_aldq hx hb hK hP 6 4 rfl rfl (by unfold vp_in; decide +kernel) d_WM_menThatAre_15 ?_
    obtain ⟨q_266, x_267, hq_268, hk_269⟩ := xw_man (a := a) (k := k) (i := 27) hL (by unfold vp_in; decide +kernel)
    refine hb_tv (.ref q_266) (by show va_rf (L[_]?) = _; rw [hq_268]; rfl) ?_
    refine lv_astore (lv' := [(4, .ref q_266), (3, .int 27), (2, .int 27), (0, .ref (a 0)), (1, .int p_0)]) hx hb d_WM_menThatAre_16 hl (by decide) rfl (fun ls hl => ?_)
    refine lv_aload hx hb d_WM_menThatAre_18 (lv_at hl 0 rfl) ?_
    refine lv_ifnull hx hb d_WM_menThatAre_20 ?_
    refine lv_aload hx hb d_WM_menThatAre_23 (lv_at hl 0 rfl) ?_
    refine va_get (D := (dC, dI)) (ci := 2) (v := .int 0) (C := R_Mn) (T := F_Mn) (N := 8) hx hb htb i_Mn hown hK hP x_267 hk_269 rfl 0 (by decide) (htb (.fieldLink R_WM 111 "WaterMen$Man" "state" "I") tw_160) (fun _ h9 => h9) rfl d_WM_menThatAre_25 ?_
    refine lv_iload_n hx hb d_WM_menThatAre_28 rfl (lv_at hl 4 rfl) ?_
    refine lv_icmp_ne (tgt := 35) hx hb d_WM_menThatAre_29 (by decide) (fun h => absurd c_5 h) (fun _ => ?_)
    refine lv_iinc (v := 28) (lv' := [(2, .int 28), (4, .ref q_266), (3, .int 27), (0, .ref (a 0)), (1, .int p_0)]) hx hb d_WM_menThatAre_32 hl (k := 2) rfl (by decide +kernel) (by decide) rfl (fun ls hl => ?_)
    refine lv_iinc (v := 28) (lv' := [(3, .int 28), (2, .int 28), (4, .ref q_266), (0, .ref (a 0)), (1, .int p_0)]) hx hb d_WM_menThatAre_35 hl (k := 2) rfl (by decide +kernel) (by decide) rfl (fun ls hl => ?_)
    refine lv_goto (tgt := 4) hx hb d_WM_menThatAre_38 (by decide) ?_
    refine lv_iload_n hx hb d_WM_menThatAre_4 rfl (lv_at hl 0 rfl) ?_
    refine lv_bipush (v := 40) hx hb d_WM_menThatAre_5 (by decide +kernel) ?_
    refine lv_icmp_ge (tgt := 41) hx hb d_WM_menThatAre_7 (by decide) (fun h => absurd h (by decide +kernel)) (fun _ => ?_)
    refine lv_aload_n hx hb d_WM_menThatAre_10 rfl (lv_at hl 3 rfl) ?_
    refine va_get (D := (dC, dI)) (ci := 0) (v := .ref (a 6)) (C := R_WM) (T := F_WM) (N := 13) hx hb htb i_WM hown hK hP 0 rfl rfl 1 (by decide) (htb (.fieldLink R_WM 18 "WaterMen" "men" "[LWaterMen$Man;") tw_70) (fun _ h9 => h9) rfl d_WM_menThatAre_11 ?_
    refine lv_iload_n hx hb d_WM_menThatAre_14 rfl (lv_at hl 0 rfl) ?_
    refine va_aldq hx hb hK hP 6 4 rfl rfl (by unfold vp_in; decide +kernel) d_WM_menThatAre_15 ?_
    obtain ⟨q_270, x_271, hq_272, hk_273⟩ := xw_man (a := a) (k := k) (i := 28) hL (by unfold vp_in; decide +kernel)
    refine hb_tv (.ref q_270) (by show va_rf (L[_]?) = _; rw [hq_272]; rfl) ?_
    refine lv_astore (lv' := [(4, .ref q_270), (3, .int 28), (2, .int 28), (0, .ref (a 0)), (1, .int p_0)]) hx hb d_WM_menThatAre_16 hl (by decide) rfl (fun ls hl => ?_)
    refine lv_aload hx hb d_WM_menThatAre_18 (lv_at hl 0 rfl) ?_
    refine lv_ifnull hx hb d_WM_menThatAre_20 ?_
    refine lv_aload hx hb d_WM_menThatAre_23 (lv_at hl 0 rfl) ?_
    refine va_get (D := (dC, dI)) (ci := 2) (v := .int 0) (C := R_Mn) (T := F_Mn) (N := 8) hx hb htb i_Mn hown hK hP x_271 hk_273 rfl 0 (by decide) (htb (.fieldLink R_WM 111 "WaterMen$Man" "state" "I") tw_160) (fun _ h9 => h9) rfl d_WM_menThatAre_25 ?_
    refine lv_iload_n hx hb d_WM_menThatAre_28 rfl (lv_at hl 4 rfl) ?_
    refine lv_icmp_ne (tgt := 35) hx hb d_WM_menThatAre_29 (by decide) (fun h => absurd c_5 h) (fun _ => ?_)
    refine lv_iinc (v := 29) (lv' := [(2, .int 29), (4, .ref q_270), (3, .int 28), (0, .ref (a 0)), (1, .int p_0)]) hx hb d_WM_menThatAre_32 hl (k := 2) rfl (by decide +kernel) (by decide) rfl (fun ls hl => ?_)
    refine lv_iinc (v := 29) (lv' := [(3, .int 29), (2, .int 29), (4, .ref q_270), (0, .ref (a 0)), (1, .int p_0)]) hx hb d_WM_menThatAre_35 hl (k := 2) rfl (by decide +kernel) (by decide) rfl (fun ls hl => ?_)
    refine lv_goto (tgt := 4) hx hb d_WM_menThatAre_38 (by decide) ?_
    refine lv_iload_n hx hb d_WM_menThatAre_4 rfl (lv_at hl 0 rfl) ?_
    refine lv_bipush (v := 40) hx hb d_WM_menThatAre_5 (by decide +kernel) ?_
    refine lv_icmp_ge (tgt := 41) hx hb d_WM_menThatAre_7 (by decide) (fun h => absurd h (by decide +kernel)) (fun _ => ?_)
    refine lv_aload_n hx hb d_WM_menThatAre_10 rfl (lv_at hl 3 rfl) ?_
    refine va_get (D := (dC, dI)) (ci := 0) (v := .ref (a 6)) (C := R_WM) (T := F_WM) (N := 13) hx hb htb i_WM hown hK hP 0 rfl rfl 1 (by decide) (htb (.fieldLink R_WM 18 "WaterMen" "men" "[LWaterMen$Man;") tw_70) (fun _ h9 => h9) rfl d_WM_menThatAre_11 ?_
    refine lv_iload_n hx hb d_WM_menThatAre_14 rfl (lv_at hl 0 rfl) ?_
    refine va_aldq hx hb hK hP 6 4 rfl rfl (by unfold vp_in; decide +kernel) d_WM_menThatAre_15 ?_
    obtain ⟨q_274, x_275, hq_276, hk_277⟩ := xw_man (a := a) (k := k) (i := 29) hL (by unfold vp_in; decide +kernel)
    refine hb_tv (.ref q_274) (by show va_rf (L[_]?) = _; rw [hq_276]; rfl) ?_
    refine lv_astore (lv' := [(4, .ref q_274), (3, .int 29), (2, .int 29), (0, .ref (a 0)), (1, .int p_0)]) hx hb d_WM_menThatAre_16 hl (by decide) rfl (fun ls hl => ?_)
    refine lv_aload hx hb d_WM_menThatAre_18 (lv_at hl 0 rfl) ?_
    refine lv_ifnull hx hb d_WM_menThatAre_20 ?_
    refine lv_aload hx hb d_WM_menThatAre_23 (lv_at hl 0 rfl) ?_
    refine va_get (D := (dC, dI)) (ci := 2) (v := .int 0) (C := R_Mn) (T := F_Mn) (N := 8) hx hb htb i_Mn hown hK hP x_275 hk_277 rfl 0 (by decide) (htb (.fieldLink R_WM 111 "WaterMen$Man" "state" "I") tw_160) (fun _ h9 => h9) rfl d_WM_menThatAre_25 ?_
    refine lv_iload_n hx hb d_WM_menThatAre_28 rfl (lv_at hl 4 rfl) ?_
    refine lv_icmp_ne (tgt := 35) hx hb d_WM_menThatAre_29 (by decide) (fun h => absurd c_5 h) (fun _ => ?_)
    refine lv_iinc (v := 30) (lv' := [(2, .int 30), (4, .ref q_274), (3, .int 29), (0, .ref (a 0)), (1, .int p_0)]) hx hb d_WM_menThatAre_32 hl (k := 2) rfl (by decide +kernel) (by decide) rfl (fun ls hl => ?_)
    refine lv_iinc (v := 30) (lv' := [(3, .int 30), (2, .int 30), (4, .ref q_274), (0, .ref (a 0)), (1, .int p_0)]) hx hb d_WM_menThatAre_35 hl (k := 2) rfl (by decide +kernel) (by decide) rfl (fun ls hl => ?_)
    refine lv_goto (tgt := 4) hx hb d_WM_menThatAre_38 (by decide) ?_
    refine lv_iload_n hx hb d_WM_menThatAre_4 rfl (lv_at hl 0 rfl) ?_
    refine lv_bipush (v := 40) hx hb d_WM_menThatAre_5 (by decide +kernel) ?_
    refine lv_icmp_ge (tgt := 41) hx hb d_WM_menThatAre_7 (by decide) (fun h => absurd h (by decide +kernel)) (fun _ => ?_)
    refine lv_aload_n hx hb d_WM_menThatAre_10 rfl (lv_at hl 3 rfl) ?_
    refine va_get (D := (dC, dI)) (ci := 0) (v := .ref (a 6)) (C := R_WM) (T := F_WM) (N := 13) hx hb htb i_WM hown hK hP 0 rfl rfl 1 (by decide) (htb (.fieldLink R_WM 18 "WaterMen" "men" "[LWaterMen$Man;") tw_70) (fun _ h9 => h9) rfl d_WM_menThatAre_11 ?_
    refine lv_iload_n hx hb d_WM_menThatAre_14 rfl (lv_at hl 0 rfl) ?_
    refine va_aldq hx hb hK hP 6 4 rfl rfl (by unfold vp_in; decide +kernel) d_WM_menThatAre_15 ?_
    obtain ⟨q_278, x_279, hq_280, hk_281⟩ := xw_man (a := a) (k := k) (i := 30) hL (by unfold vp_in; decide +kernel)
    refine hb_tv (.ref q_278) (by show va_rf (L[_]?) = _; rw [hq_280]; rfl) ?_
    refine lv_astore (lv' := [(4, .ref q_278), (3, .int 30), (2, .int 30), (0, .ref (a 0)), (1, .int p_0)]) hx hb d_WM_menThatAre_16 hl (by decide) rfl (fun ls hl => ?_)
    refine lv_aload hx hb d_WM_menThatAre_18 (lv_at hl 0 rfl) ?_
    refine lv_ifnull hx hb d_WM_menThatAre_20 ?_
    refine lv_aload hx hb d_WM_menThatAre_23 (lv_at hl 0 rfl) ?_
    refine va_get (D := (dC, dI)) (ci := 2) (v := .int 0) (C := R_Mn) (T := F_Mn) (N := 8) hx hb htb i_Mn hown hK hP x_279 hk_281 rfl 0 (by decide) (htb (.fieldLink R_WM 111 "WaterMen$Man" "state" "I") tw_160) (fun _ h9 => h9) rfl d_WM_menThatAre_25 ?_
    refine lv_iload_n hx hb d_WM_menThatAre_28 rfl (lv_at hl 4 rfl) ?_
    refine lv_icmp_ne (tgt := 35) hx hb d_WM_menThatAre_29 (by decide) (fun h => absurd c_5 h) (fun _ => ?_)
    refine lv_iinc (v := 31) (lv' := [(2, .int 31), (4, .ref q_278), (3, .int 30), (0, .ref (a 0)), (1, .int p_0)]) hx hb d_WM_menThatAre_32 hl (k := 2) rfl (by decide +kernel) (by decide) rfl (fun ls hl => ?_)
    refine lv_iinc (v := 31) (lv' := [(3, .int 31), (2, .int 31), (4, .ref q_278), (0, .ref (a 0)), (1, .int p_0)]) hx hb d_WM_menThatAre_35 hl (k := 2) rfl (by decide +kernel) (by decide) rfl (fun ls hl => ?_)
    refine lv_goto (tgt := 4) hx hb d_WM_menThatAre_38 (by decide) ?_
    refine lv_iload_n hx hb d_WM_menThatAre_4 rfl (lv_at hl 0 rfl) ?_
    refine lv_bipush (v := 40) hx hb d_WM_menThatAre_5 (by decide +kernel) ?_
    refine lv_icmp_ge (tgt := 41) hx hb d_WM_menThatAre_7 (by decide) (fun h => absurd h (by decide +kernel)) (fun _ => ?_)
    refine lv_aload_n hx hb d_WM_menThatAre_10 rfl (lv_at hl 3 rfl) ?_
    refine va_get (D := (dC, dI)) (ci := 0) (v := .ref (a 6)) (C := R_WM) (T := F_WM) (N := 13) hx hb htb i_WM hown hK hP 0 rfl rfl 1 (by decide) (htb (.fieldLink R_WM 18 "WaterMen" "men" "[LWaterMen$Man;") tw_70) (fun _ h9 => h9) rfl d_WM_menThatAre_11 ?_
    refine lv_iload_n hx hb d_WM_menThatAre_14 rfl (lv_at hl 0 rfl) ?_
    refine va_aldq hx hb hK hP 6 4 rfl rfl (by unfold vp_in; decide +kernel) d_WM_menThatAre_15 ?_
    obtain ⟨q_282, x_283, hq_284, hk_285⟩ := xw_man (a := a) (k := k) (i := 31) hL (by unfold vp_in; decide +kernel)
    refine hb_tv (.ref q_282) (by show va_rf (L[_]?) = _; rw [hq_284]; rfl) ?_
    refine lv_astore (lv' := [(4, .ref q_282), (3, .int 31), (2, .int 31), (0, .ref (a 0)), (1, .int p_0)]) hx hb d_WM_menThatAre_16 hl (by decide) rfl (fun ls hl => ?_)
    refine lv_aload hx hb d_WM_menThatAre_18 (lv_at hl 0 rfl) ?_
    refine lv_ifnull hx hb d_WM_menThatAre_20 ?_
    refine lv_aload hx hb d_WM_menThatAre_23 (lv_at hl 0 rfl) ?_
    refine va_get (D := (dC, dI)) (ci := 2) (v := .int 0) (C := R_Mn) (T := F_Mn) (N := 8) hx hb htb i_Mn hown hK hP x_283 hk_285 rfl 0 (by decide) (htb (.fieldLink R_WM 111 "WaterMen$Man" "state" "I") tw_160) (fun _ h9 => h9) rfl d_WM_menThatAre_25 ?_
    refine lv_iload_n hx hb d_WM_menThatAre_28 rfl (lv_at hl 4 rfl) ?_
    refine lv_icmp_ne (tgt := 35) hx hb d_WM_menThatAre_29 (by decide) (fun h => absurd c_5 h) (fun _ => ?_)
    refine lv_iinc (v := 32) (lv' := [(2, .int 32), (4, .ref q_282), (3, .int 31), (0, .ref (a 0)), (1, .int p_0)]) hx hb d_WM_menThatAre_32 hl (k := 2) rfl (by decide +kernel) (by decide) rfl (fun ls hl => ?_)
    refine lv_iinc (v := 32) (lv' := [(3, .int 32), (2, .int 32), (4, .ref q_282), (0, .ref (a 0)), (1, .int p_0)]) hx hb d_WM_menThatAre_35 hl (k := 2) rfl (by decide +kernel) (by decide) rfl (fun ls hl => ?_)
    refine lv_goto (tgt := 4) hx hb d_WM_menThatAre_38 (by decide) ?_
    refine lv_iload_n hx hb d_WM_menThatAre_4 rfl (lv_at hl 0 rfl) ?_
    refine lv_bipush (v := 40) hx hb d_WM_menThatAre_5 (by decide +kernel) ?_
    refine lv_icmp_ge (tgt := 41) hx hb d_WM_menThatAre_7 (by decide) (fun h => absurd h (by decide +kernel)) (fun _ => ?_)
    refine lv_aload_n hx hb d_WM_menThatAre_10 rfl (lv_at hl 3 rfl) ?_
    refine va_get (D := (dC, dI)) (ci := 0) (v := .ref (a 6)) (C := R_WM) (T := F_WM) (N := 13) hx hb htb i_WM hown hK hP 0 rfl rfl 1 (by decide) (htb (.fieldLink R_WM 18 "WaterMen" "men" "[LWaterMen$Man;") tw_70) (fun _ h9 => h9) rfl d_WM_menThatAre_11 ?_
    refine lv_iload_n hx hb d_WM_menThatAre_14 rfl (lv_at hl 0 rfl) ?_
    refine va_aldq hx hb hK hP 6 4 rfl rfl (by unfold vp_in; decide +kernel) d_WM_menThatAre_15 ?_
    obtain ⟨q_286, x_287, hq_288, hk_289⟩ := xw_man (a := a) (k := k) (i := 32) hL (by unfold vp_in; decide +kernel)
    refine hb_tv (.ref q_286) (by show va_rf (L[_]?) = _; rw [hq_288]; rfl) ?_
    refine lv_astore (lv' := [(4, .ref q_286), (3, .int 32), (2, .int 32), (0, .ref (a 0)), (1, .int p_0)]) hx hb d_WM_menThatAre_16 hl (by decide) rfl (fun ls hl => ?_)
    refine lv_aload hx hb d_WM_menThatAre_18 (lv_at hl 0 rfl) ?_
    refine lv_ifnull hx hb d_WM_menThatAre_20 ?_
    refine lv_aload hx hb d_WM_menThatAre_23 (lv_at hl 0 rfl) ?_
    refine va_get (D := (dC, dI)) (ci := 2) (v := .int 0) (C := R_Mn) (T := F_Mn) (N := 8) hx hb htb i_Mn hown hK hP x_287 hk_289 rfl 0 (by decide) (htb (.fieldLink R_WM 111 "WaterMen$Man" "state" "I") tw_160) (fun _ h9 => h9) rfl d_WM_menThatAre_25 ?_
    refine lv_iload_n hx hb d_WM_menThatAre_28 rfl (lv_at hl 4 rfl) ?_
    refine lv_icmp_ne (tgt := 35) hx hb d_WM_menThatAre_29 (by decide) (fun h => absurd c_5 h) (fun _ => ?_)
    refine lv_iinc (v := 33) (lv' := [(2, .int 33), (4, .ref q_286), (3, .int 32), (0, .ref (a 0)), (1, .int p_0)]) hx hb d_WM_menThatAre_32 hl (k := 2) rfl (by decide +kernel) (by decide) rfl (fun ls hl => ?_)
    refine lv_iinc (v := 33) (lv' := [(3, .int 33), (2, .int 33), (4, .ref q_286), (0, .ref (a 0)), (1, .int p_0)]) hx hb d_WM_menThatAre_35 hl (k := 2) rfl (by decide +kernel) (by decide) rfl (fun ls hl => ?_)
    refine lv_goto (tgt := 4) hx hb d_WM_menThatAre_38 (by decide) ?_
    refine lv_iload_n hx hb d_WM_menThatAre_4 rfl (lv_at hl 0 rfl) ?_
    refine lv_bipush (v := 40) hx hb d_WM_menThatAre_5 (by decide +kernel) ?_
    refine lv_icmp_ge (tgt := 41) hx hb d_WM_menThatAre_7 (by decide) (fun h => absurd h (by decide +kernel)) (fun _ => ?_)
    refine lv_aload_n hx hb d_WM_menThatAre_10 rfl (lv_at hl 3 rfl) ?_
    refine va_get (D := (dC, dI)) (ci := 0) (v := .ref (a 6)) (C := R_WM) (T := F_WM) (N := 13) hx hb htb i_WM hown hK hP 0 rfl rfl 1 (by decide) (htb (.fieldLink R_WM 18 "WaterMen" "men" "[LWaterMen$Man;") tw_70) (fun _ h9 => h9) rfl d_WM_menThatAre_11 ?_
    refine lv_iload_n hx hb d_WM_menThatAre_14 rfl (lv_at hl 0 rfl) ?_
    refine va_aldq hx hb hK hP 6 4 rfl rfl (by unfold vp_in; decide +kernel) d_WM_menThatAre_15 ?_
    obtain ⟨q_290, x_291, hq_292, hk_293⟩ := xw_man (a := a) (k := k) (i := 33) hL (by unfold vp_in; decide +kernel)
    refine hb_tv (.ref q_290) (by show va_rf (L[_]?) = _; rw [hq_292]; rfl) ?_
    refine lv_astore (lv' := [(4, .ref q_290), (3, .int 33), (2, .int 33), (0, .ref (a 0)), (1, .int p_0)]) hx hb d_WM_menThatAre_16 hl (by decide) rfl (fun ls hl => ?_)
    refine lv_aload hx hb d_WM_menThatAre_18 (lv_at hl 0 rfl) ?_
    refine lv_ifnull hx hb d_WM_menThatAre_20 ?_
    refine lv_aload hx hb d_WM_menThatAre_23 (lv_at hl 0 rfl) ?_
    refine va_get (D := (dC, dI)) (ci := 2) (v := .int 0) (C := R_Mn) (T := F_Mn) (N := 8) hx hb htb i_Mn hown hK hP x_291 hk_293 rfl 0 (by decide) (htb (.fieldLink R_WM 111 "WaterMen$Man" "state" "I") tw_160) (fun _ h9 => h9) rfl d_WM_menThatAre_25 ?_
    refine lv_iload_n hx hb d_WM_menThatAre_28 rfl (lv_at hl 4 rfl) ?_
    refine lv_icmp_ne (tgt := 35) hx hb d_WM_menThatAre_29 (by decide) (fun h => absurd c_5 h) (fun _ => ?_)
    refine lv_iinc (v := 34) (lv' := [(2, .int 34), (4, .ref q_290), (3, .int 33), (0, .ref (a 0)), (1, .int p_0)]) hx hb d_WM_menThatAre_32 hl (k := 2) rfl (by decide +kernel) (by decide) rfl (fun ls hl => ?_)
    refine lv_iinc (v := 34) (lv' := [(3, .int 34), (2, .int 34), (4, .ref q_290), (0, .ref (a 0)), (1, .int p_0)]) hx hb d_WM_menThatAre_35 hl (k := 2) rfl (by decide +kernel) (by decide) rfl (fun ls hl => ?_)
    refine lv_goto (tgt := 4) hx hb d_WM_menThatAre_38 (by decide) ?_
    refine lv_iload_n hx hb d_WM_menThatAre_4 rfl (lv_at hl 0 rfl) ?_
    refine lv_bipush (v := 40) hx hb d_WM_menThatAre_5 (by decide +kernel) ?_
    refine lv_icmp_ge (tgt := 41) hx hb d_WM_menThatAre_7 (by decide) (fun h => absurd h (by decide +kernel)) (fun _ => ?_)
    refine lv_aload_n hx hb d_WM_menThatAre_10 rfl (lv_at hl 3 rfl) ?_
    refine va_get (D := (dC, dI)) (ci := 0) (v := .ref (a 6)) (C := R_WM) (T := F_WM) (N := 13) hx hb htb i_WM hown hK hP 0 rfl rfl 1 (by decide) (htb (.fieldLink R_WM 18 "WaterMen" "men" "[LWaterMen$Man;") tw_70) (fun _ h9 => h9) rfl d_WM_menThatAre_11 ?_
    refine lv_iload_n hx hb d_WM_menThatAre_14 rfl (lv_at hl 0 rfl) ?_
    refine va_aldq hx hb hK hP 6 4 rfl rfl (by unfold vp_in; decide +kernel) d_WM_menThatAre_15 ?_
    obtain ⟨q_294, x_295, hq_296, hk_297⟩ := xw_man (a := a) (k := k) (i := 34) hL (by unfold vp_in; decide +kernel)
    refine hb_tv (.ref q_294) (by show va_rf (L[_]?) = _; rw [hq_296]; rfl) ?_
    refine lv_astore (lv' := [(4, .ref q_294), (3, .int 34), (2, .int 34), (0, .ref (a 0)), (1, .int p_0)]) hx hb d_WM_menThatAre_16 hl (by decide) rfl (fun ls hl => ?_)
    refine lv_aload hx hb d_WM_menThatAre_18 (lv_at hl 0 rfl) ?_
    refine lv_ifnull hx hb d_WM_menThatAre_20 ?_
    refine lv_aload hx hb d_WM_menThatAre_23 (lv_at hl 0 rfl) ?_
    refine va_get (D := (dC, dI)) (ci := 2) (v := .int 0) (C := R_Mn) (T := F_Mn) (N := 8) hx hb htb i_Mn hown hK hP x_295 hk_297 rfl 0 (by decide) (htb (.fieldLink R_WM 111 "WaterMen$Man" "state" "I") tw_160) (fun _ h9 => h9) rfl d_WM_menThatAre_25 ?_
    refine lv_iload_n hx hb d_WM_menThatAre_28 rfl (lv_at hl 4 rfl) ?_
    refine lv_icmp_ne (tgt := 35) hx hb d_WM_menThatAre_29 (by decide) (fun h => absurd c_5 h) (fun _ => ?_)
    refine lv_iinc (v := 35) (lv' := [(2, .int 35), (4, .ref q_294), (3, .int 34), (0, .ref (a 0)), (1, .int p_0)]) hx hb d_WM_menThatAre_32 hl (k := 2) rfl (by decide +kernel) (by decide) rfl (fun ls hl => ?_)
    refine lv_iinc (v := 35) (lv' := [(3, .int 35), (2, .int 35), (4, .ref q_294), (0, .ref (a 0)), (1, .int p_0)]) hx hb d_WM_menThatAre_35 hl (k := 2) rfl (by decide +kernel) (by decide) rfl (fun ls hl => ?_)
    refine lv_goto (tgt := 4) hx hb d_WM_menThatAre_38 (by decide) ?_
    refine lv_iload_n hx hb d_WM_menThatAre_4 rfl (lv_at hl 0 rfl) ?_
    refine lv_bipush (v := 40) hx hb d_WM_menThatAre_5 (by decide +kernel) ?_
    refine lv_icmp_ge (tgt := 41) hx hb d_WM_menThatAre_7 (by decide) (fun h => absurd h (by decide +kernel)) (fun _ => ?_)
    refine lv_aload_n hx hb d_WM_menThatAre_10 rfl (lv_at hl 3 rfl) ?_
    refine va_get (D := (dC, dI)) (ci := 0) (v := .ref (a 6)) (C := R_WM) (T := F_WM) (N := 13) hx hb htb i_WM hown hK hP 0 rfl rfl 1 (by decide) (htb (.fieldLink R_WM 18 "WaterMen" "men" "[LWaterMen$Man;") tw_70) (fun _ h9 => h9) rfl d_WM_menThatAre_11 ?_
    refine lv_iload_n hx hb d_WM_menThatAre_14 rfl (lv_at hl 0 rfl) ?_
    refine va_aldq hx hb hK hP 6 4 rfl rfl (by unfold vp_in; decide +kernel) d_WM_menThatAre_15 ?_
    obtain ⟨q_298, x_299, hq_300, hk_301⟩ := xw_man (a := a) (k := k) (i := 35) hL (by unfold vp_in; decide +kernel)
    refine hb_tv (.ref q_298) (by show va_rf (L[_]?) = _; rw [hq_300]; rfl) ?_
    refine lv_astore (lv' := [(4, .ref q_298), (3, .int 35), (2, .int 35), (0, .ref (a 0)), (1, .int p_0)]) hx hb d_WM_menThatAre_16 hl (by decide) rfl (fun ls hl => ?_)
    refine lv_aload hx hb d_WM_menThatAre_18 (lv_at hl 0 rfl) ?_
    refine lv_ifnull hx hb d_WM_menThatAre_20 ?_
    refine lv_aload hx hb d_WM_menThatAre_23 (lv_at hl 0 rfl) ?_
    refine va_get (D := (dC, dI)) (ci := 2) (v := .int 0) (C := R_Mn) (T := F_Mn) (N := 8) hx hb htb i_Mn hown hK hP x_299 hk_301 rfl 0 (by decide) (htb (.fieldLink R_WM 111 "WaterMen$Man" "state" "I") tw_160) (fun _ h9 => h9) rfl d_WM_menThatAre_25 ?_
    refine lv_iload_n hx hb d_WM_menThatAre_28 rfl (lv_at hl 4 rfl) ?_
    refine lv_icmp_ne (tgt := 35) hx hb d_WM_menThatAre_29 (by decide) (fun h => absurd c_5 h) (fun _ => ?_)
    refine lv_iinc (v := 36) (lv' := [(2, .int 36), (4, .ref q_298), (3, .int 35), (0, .ref (a 0)), (1, .int p_0)]) hx hb d_WM_menThatAre_32 hl (k := 2) rfl (by decide +kernel) (by decide) rfl (fun ls hl => ?_)
    refine lv_iinc (v := 36) (lv' := [(3, .int 36), (2, .int 36), (4, .ref q_298), (0, .ref (a 0)), (1, .int p_0)]) hx hb d_WM_menThatAre_35 hl (k := 2) rfl (by decide +kernel) (by decide) rfl (fun ls hl => ?_)
    refine lv_goto (tgt := 4) hx hb d_WM_menThatAre_38 (by decide) ?_
    refine lv_iload_n hx hb d_WM_menThatAre_4 rfl (lv_at hl 0 rfl) ?_
    refine lv_bipush (v := 40) hx hb d_WM_menThatAre_5 (by decide +kernel) ?_
    refine lv_icmp_ge (tgt := 41) hx hb d_WM_menThatAre_7 (by decide) (fun h => absurd h (by decide +kernel)) (fun _ => ?_)
    refine lv_aload_n hx hb d_WM_menThatAre_10 rfl (lv_at hl 3 rfl) ?_
    refine va_get (D := (dC, dI)) (ci := 0) (v := .ref (a 6)) (C := R_WM) (T := F_WM) (N := 13) hx hb htb i_WM hown hK hP 0 rfl rfl 1 (by decide) (htb (.fieldLink R_WM 18 "WaterMen" "men" "[LWaterMen$Man;") tw_70) (fun _ h9 => h9) rfl d_WM_menThatAre_11 ?_
    refine lv_iload_n hx hb d_WM_menThatAre_14 rfl (lv_at hl 0 rfl) ?_
    refine va_aldq hx hb hK hP 6 4 rfl rfl (by unfold vp_in; decide +kernel) d_WM_menThatAre_15 ?_
    obtain ⟨q_302, x_303, hq_304, hk_305⟩ := xw_man (a := a) (k := k) (i := 36) hL (by unfold vp_in; decide +kernel)
    refine hb_tv (.ref q_302) (by show va_rf (L[_]?) = _; rw [hq_304]; rfl) ?_
    refine lv_astore (lv' := [(4, .ref q_302), (3, .int 36), (2, .int 36), (0, .ref (a 0)), (1, .int p_0)]) hx hb d_WM_menThatAre_16 hl (by decide) rfl (fun ls hl => ?_)
    refine lv_aload hx hb d_WM_menThatAre_18 (lv_at hl 0 rfl) ?_
    refine lv_ifnull hx hb d_WM_menThatAre_20 ?_
    refine lv_aload hx hb d_WM_menThatAre_23 (lv_at hl 0 rfl) ?_
    refine va_get (D := (dC, dI)) (ci := 2) (v := .int 0) (C := R_Mn) (T := F_Mn) (N := 8) hx hb htb i_Mn hown hK hP x_303 hk_305 rfl 0 (by decide) (htb (.fieldLink R_WM 111 "WaterMen$Man" "state" "I") tw_160) (fun _ h9 => h9) rfl d_WM_menThatAre_25 ?_
    refine lv_iload_n hx hb d_WM_menThatAre_28 rfl (lv_at hl 4 rfl) ?_
    refine lv_icmp_ne (tgt := 35) hx hb d_WM_menThatAre_29 (by decide) (fun h => absurd c_5 h) (fun _ => ?_)
    refine lv_iinc (v := 37) (lv' := [(2, .int 37), (4, .ref q_302), (3, .int 36), (0, .ref (a 0)), (1, .int p_0)]) hx hb d_WM_menThatAre_32 hl (k := 2) rfl (by decide +kernel) (by decide) rfl (fun ls hl => ?_)
    refine lv_iinc (v := 37) (lv' := [(3, .int 37), (2, .int 37), (4, .ref q_302), (0, .ref (a 0)), (1, .int p_0)]) hx hb d_WM_menThatAre_35 hl (k := 2) rfl (by decide +kernel) (by decide) rfl (fun ls hl => ?_)
    refine lv_goto (tgt := 4) hx hb d_WM_menThatAre_38 (by decide) ?_
    refine lv_iload_n hx hb d_WM_menThatAre_4 rfl (lv_at hl 0 rfl) ?_
    refine lv_bipush (v := 40) hx hb d_WM_menThatAre_5 (by decide +kernel) ?_
    refine lv_icmp_ge (tgt := 41) hx hb d_WM_menThatAre_7 (by decide) (fun h => absurd h (by decide +kernel)) (fun _ => ?_)
    refine lv_aload_n hx hb d_WM_menThatAre_10 rfl (lv_at hl 3 rfl) ?_
    refine va_get (D := (dC, dI)) (ci := 0) (v := .ref (a 6)) (C := R_WM) (T := F_WM) (N := 13) hx hb htb i_WM hown hK hP 0 rfl rfl 1 (by decide) (htb (.fieldLink R_WM 18 "WaterMen" "men" "[LWaterMen$Man;") tw_70) (fun _ h9 => h9) rfl d_WM_menThatAre_11 ?_
    refine lv_iload_n hx hb d_WM_menThatAre_14 rfl (lv_at hl 0 rfl) ?_
    refine va_aldq hx hb hK hP 6 4 rfl rfl (by unfold vp_in; decide +kernel) d_WM_menThatAre_15 ?_
    obtain ⟨q_306, x_307, hq_308, hk_309⟩ := xw_man (a := a) (k := k) (i := 37) hL (by unfold vp_in; decide +kernel)
    refine hb_tv (.ref q_306) (by show va_rf (L[_]?) = _; rw [hq_308]; rfl) ?_
    refine lv_astore (lv' := [(4, .ref q_306), (3, .int 37), (2, .int 37), (0, .ref (a 0)), (1, .int p_0)]) hx hb d_WM_menThatAre_16 hl (by decide) rfl (fun ls hl => ?_)
    refine lv_aload hx hb d_WM_menThatAre_18 (lv_at hl 0 rfl) ?_
    refine lv_ifnull hx hb d_WM_menThatAre_20 ?_
    refine lv_aload hx hb d_WM_menThatAre_23 (lv_at hl 0 rfl) ?_
    refine va_get (D := (dC, dI)) (ci := 2) (v := .int 0) (C := R_Mn) (T := F_Mn) (N := 8) hx hb htb i_Mn hown hK hP x_307 hk_309 rfl 0 (by decide) (htb (.fieldLink R_WM 111 "WaterMen$Man" "state" "I") tw_160) (fun _ h9 => h9) rfl d_WM_menThatAre_25 ?_
    refine lv_iload_n hx hb d_WM_menThatAre_28 rfl (lv_at hl 4 rfl) ?_
    refine lv_icmp_ne (tgt := 35) hx hb d_WM_menThatAre_29 (by decide) (fun h => absurd c_5 h) (fun _ => ?_)
    refine lv_iinc (v := 38) (lv' := [(2, .int 38), (4, .ref q_306), (3, .int 37), (0, .ref (a 0)), (1, .int p_0)]) hx hb d_WM_menThatAre_32 hl (k := 2) rfl (by decide +kernel) (by decide) rfl (fun ls hl => ?_)
    refine lv_iinc (v := 38) (lv' := [(3, .int 38), (2, .int 38), (4, .ref q_306), (0, .ref (a 0)), (1, .int p_0)]) hx hb d_WM_menThatAre_35 hl (k := 2) rfl (by decide +kernel) (by decide) rfl (fun ls hl => ?_)
    refine lv_goto (tgt := 4) hx hb d_WM_menThatAre_38 (by decide) ?_
    refine lv_iload_n hx hb d_WM_menThatAre_4 rfl (lv_at hl 0 rfl) ?_
    refine lv_bipush (v := 40) hx hb d_WM_menThatAre_5 (by decide +kernel) ?_
    refine lv_icmp_ge (tgt := 41) hx hb d_WM_menThatAre_7 (by decide) (fun h => absurd h (by decide +kernel)) (fun _ => ?_)
    refine lv_aload_n hx hb d_WM_menThatAre_10 rfl (lv_at hl 3 rfl) ?_
    refine va_get (D := (dC, dI)) (ci := 0) (v := .ref (a 6)) (C := R_WM) (T := F_WM) (N := 13) hx hb htb i_WM hown hK hP 0 rfl rfl 1 (by decide) (htb (.fieldLink R_WM 18 "WaterMen" "men" "[LWaterMen$Man;") tw_70) (fun _ h9 => h9) rfl d_WM_menThatAre_11 ?_
    refine lv_iload_n hx hb d_WM_menThatAre_14 rfl (lv_at hl 0 rfl) ?_
    refine va_aldq hx hb hK hP 6 4 rfl rfl (by unfold vp_in; decide +kernel) d_WM_menThatAre_15 ?_
    obtain ⟨q_310, x_311, hq_312, hk_313⟩ := xw_man (a := a) (k := k) (i := 38) hL (by unfold vp_in; decide +kernel)
    refine hb_tv (.ref q_310) (by show va_rf (L[_]?) = _; rw [hq_312]; rfl) ?_
    refine lv_astore (lv' := [(4, .ref q_310), (3, .int 38), (2, .int 38), (0, .ref (a 0)), (1, .int p_0)]) hx hb d_WM_menThatAre_16 hl (by decide) rfl (fun ls hl => ?_)
    refine lv_aload hx hb d_WM_menThatAre_18 (lv_at hl 0 rfl) ?_
    refine lv_ifnull hx hb d_WM_menThatAre_20 ?_
    refine lv_aload hx hb d_WM_menThatAre_23 (lv_at hl 0 rfl) ?_
    refine va_get (D := (dC, dI)) (ci := 2) (v := .int 0) (C := R_Mn) (T := F_Mn) (N := 8) hx hb htb i_Mn hown hK hP x_311 hk_313 rfl 0 (by decide) (htb (.fieldLink R_WM 111 "WaterMen$Man" "state" "I") tw_160) (fun _ h9 => h9) rfl d_WM_menThatAre_25 ?_
    refine lv_iload_n hx hb d_WM_menThatAre_28 rfl (lv_at hl 4 rfl) ?_
    refine lv_icmp_ne (tgt := 35) hx hb d_WM_menThatAre_29 (by decide) (fun h => absurd c_5 h) (fun _ => ?_)
    refine lv_iinc (v := 39) (lv' := [(2, .int 39), (4, .ref q_310), (3, .int 38), (0, .ref (a 0)), (1, .int p_0)]) hx hb d_WM_menThatAre_32 hl (k := 2) rfl (by decide +kernel) (by decide) rfl (fun ls hl => ?_)
    refine lv_iinc (v := 39) (lv' := [(3, .int 39), (2, .int 39), (4, .ref q_310), (0, .ref (a 0)), (1, .int p_0)]) hx hb d_WM_menThatAre_35 hl (k := 2) rfl (by decide +kernel) (by decide) rfl (fun ls hl => ?_)
    refine lv_goto (tgt := 4) hx hb d_WM_menThatAre_38 (by decide) ?_
    refine lv_iload_n hx hb d_WM_menThatAre_4 rfl (lv_at hl 0 rfl) ?_
    refine lv_bipush (v := 40) hx hb d_WM_menThatAre_5 (by decide +kernel) ?_
    refine lv_icmp_ge (tgt := 41) hx hb d_WM_menThatAre_7 (by decide) (fun h => absurd h (by decide +kernel)) (fun _ => ?_)
    refine lv_aload_n hx hb d_WM_menThatAre_10 rfl (lv_at hl 3 rfl) ?_
    refine va_get (D := (dC, dI)) (ci := 0) (v := .ref (a 6)) (C := R_WM) (T := F_WM) (N := 13) hx hb htb i_WM hown hK hP 0 rfl rfl 1 (by decide) (htb (.fieldLink R_WM 18 "WaterMen" "men" "[LWaterMen$Man;") tw_70) (fun _ h9 => h9) rfl d_WM_menThatAre_11 ?_
    refine lv_iload_n hx hb d_WM_menThatAre_14 rfl (lv_at hl 0 rfl) ?_
    refine va_aldq hx hb hK hP 6 4 rfl rfl (by unfold vp_in; decide +kernel) d_WM_menThatAre_15 ?_
    obtain ⟨q_314, x_315, hq_316, hk_317⟩ := xw_man (a := a) (k := k) (i := 39) hL (by unfold vp_in; decide +kernel)
    refine hb_tv (.ref q_314) (by show va_rf (L[_]?) = _; rw [hq_316]; rfl) ?_
    refine lv_astore (lv' := [(4, .ref q_314), (3, .int 39), (2, .int 39), (0, .ref (a 0)), (1, .int p_0)]) hx hb d_WM_menThatAre_16 hl (by decide) rfl (fun ls hl => ?_)
    refine lv_aload hx hb d_WM_menThatAre_18 (lv_at hl 0 rfl) ?_
    refine lv_ifnull hx hb d_WM_menThatAre_20 ?_
    refine lv_aload hx hb d_WM_menThatAre_23 (lv_at hl 0 rfl) ?_
    refine va_get (D := (dC, dI)) (ci := 2) (v := .int 0) (C := R_Mn) (T := F_Mn) (N := 8) hx hb htb i_Mn hown hK hP x_315 hk_317 rfl 0 (by decide) (htb (.fieldLink R_WM 111 "WaterMen$Man" "state" "I") tw_160) (fun _ h9 => h9) rfl d_WM_menThatAre_25 ?_
    refine lv_iload_n hx hb d_WM_menThatAre_28 rfl (lv_at hl 4 rfl) ?_
    refine lv_icmp_ne (tgt := 35) hx hb d_WM_menThatAre_29 (by decide) (fun h => absurd c_5 h) (fun _ => ?_)
    refine lv_iinc (v := 40) (lv' := [(2, .int 40), (4, .ref q_314), (3, .int 39), (0, .ref (a 0)), (1, .int p_0)]) hx hb d_WM_menThatAre_32 hl (k := 2) rfl (by decide +kernel) (by decide) rfl (fun ls hl => ?_)
    refine lv_iinc (v := 40) (lv' := [(3, .int 40), (2, .int 40), (4, .ref q_314), (0, .ref (a 0)), (1, .int p_0)]) hx hb d_WM_menThatAre_35 hl (k := 2) rfl (by decide +kernel) (by decide) rfl (fun ls hl => ?_)
    refine lv_goto (tgt := 4) hx hb d_WM_menThatAre_38 (by decide) ?_
    refine lv_iload_n hx hb d_WM_menThatAre_4 rfl (lv_at hl 0 rfl) ?_
    refine lv_bipush (v := 40) hx hb d_WM_menThatAre_5 (by decide +kernel) ?_
    refine lv_icmp_ge (tgt := 41) hx hb d_WM_menThatAre_7 (by decide) (fun _ => ?_) (fun h => absurd (by decide +kernel) h)
    refine lv_iload_n hx hb d_WM_menThatAre_41 rfl (lv_at hl 1 rfl) ?_
    exact W.iret (v := 40) hx hb hr (fun t ht hW => ⟨40, rfl, (by unfold f_WM_menThatAre; rw [if_pos c_5]), ht⟩) t_nil d_WM_menThatAre_42
