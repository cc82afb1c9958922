set_option maxHeartbeats 4000000 in
set_option maxRecDepth 100000 in
theorem c_Rv_init_c0 (l : Launch) (dC : Nat → ClassId) (dI : Nat → Nat → Nat) (h_0 : Nat) (sz : Nat)   : Met l y_Rv_init (.code y_Rv_init b_Rv_init 1 none :: TB) ({ frames := 1, cells := 4, slots := 1024, locals := 12 }) (va_Pc [.ref h_0] (PC dC dI [(h_0, .inr (1, [.null, .null, .null, .null, .int 0, .int 0]))] [] sz)) (va_Qv (fun (_ : Unit) => True) (fun (_ : Unit) t => ∃ (q_1 q_3 q_5 q_7 : Nat) (k_2 k_4 k_6 k_8 : ClassId) , va_P (dC, dI) vwCl [(h_0, .inr (1, [.ref q_1, .ref q_3, .ref q_5, .ref q_7, .int 0, .int (-1)])), (q_1, .inl (k_2, 12, .inl (fun _ => 0))), (q_3, .inl (k_4, 12, .inl (fun _ => 0))), (q_5, .inl (k_6, 500, .inr (.inr (.inr (.inr (fun _ => none)))))), (q_7, .inl (k_8, 500, .inl (fun _ => 0)))] t.heap ∧ va_K (dC, dI) vwCl [(k_2, .int), (k_4, .int), (k_6, .array .int), (k_8, .boolean)] t ∧ va_D (va_A [(h_0, .inr (1, [.null, .null, .null, .null, .int 0, .int 0]))] sz) [(h_0, .inr (1, [.ref q_1, .ref q_3, .ref q_5, .ref q_7, .int 0, .int (-1)])), (q_1, .inl (k_2, 12, .inl (fun _ => 0))), (q_3, .inl (k_4, 12, .inl (fun _ => 0))), (q_5, .inl (k_6, 500, .inr (.inr (.inr (.inr (fun _ => none)))))), (q_7, .inl (k_8, 500, .inl (fun _ => 0)))]) (va_A [(h_0, .inr (1, [.null, .null, .null, .null, .int 0, .int 0]))] sz)) 4 1024 (va_A [(h_0, .inr (1, [.null, .null, .null, .null, .int 0, .int 0]))] sz) := by
  refine Met.ofW (cc := b_Rv_init) (maxL := 1) (ret := none) (by decide) rfl ?_
  intro p e s m args below meth c s₁ B hml hv
  obtain ⟨rfl, hsz, hP, hK, hD0, hN⟩ := hv
  have hx := B.exec
  have hb := B.bytes
  have hr := B.returns
  have hts := atoms_spec (ws := (.code y_Rv_init b_Rv_init 1 none :: TB)) B.pre
  have htb := fun w (h : w ∈ TB) => hts w (List.mem_cons_of_mem _ h)
  have hown : s.vm.findClass R_Rv = some m.cls := findClass_of_methodNamed B.named
  have hlocks := B.notSynchronized
  have hin : meth.name = "<init>" := (name_of_methodNamed B.named B.method).1
  have hl := lv_entry ([.ref h_0]) (n := 1) (Nat.le_of_ble_eq_true rfl)
  rw [lg_entry_eq]
  generalize (lg_sl ([.ref h_0]) ++ List.replicate (1 - (lg_sl ([.ref h_0])).length) Slot.unset).toArray = ls at hl ⊢
  have hl : lv_has ls 1 [(0, .ref h_0)] := hl
  subst hsz
  have hD := hD0.self (sz := s.heap.size)
  obtain ⟨A, hAe⟩ : ∃ A, va_A [(h_0, .inr (1, [.null, .null, .null, .null, .int 0, .int 0]))] s.heap.size = A := ⟨_, rfl⟩
  rw [hAe] at hD
  have hA : ∀ q : Nat, s.heap.size ≤ q → A q := fun q h => by rw [← hAe]; exact Or.inr h
  have hS : va_S A s.heap s.heap [] := va_S.rf
  have hP := hP
  refine lv_aload_n hx hb d_Rv_init_0 rfl (lv_at hl 0 rfl) ?_
  refine W.objInit hx hb hown (htb (.methodLink R_Rv 3 objectInit) tw_59) (htb (.instanceMethod objectInit) tw_1) (htb (.code objectInit ⟨#[0xb1]⟩ 1 none) tw_2) rfl (by rw [hml]; exact hl.1) rfl d_Rv_init_1 (Nat.le_of_ble_eq_true rfl) (Nat.le_of_ble_eq_true rfl) ?_
  refine W.eq (g2 := F0 m 4 ls []) rfl ?_
  refine lv_aload_n hx hb d_Rv_init_4 rfl (lv_at hl 0 rfl) ?_
  refine lv_bipush (v := 12) hx hb d_Rv_init_5 (by decide +kernel) ?_
  refine va_newa (atype := .int) (ty := .int) (N' := 12) (a0 := (12, .inl (fun _ => 0))) hx hb (htb (.arrayClass .int) tw_3) rfl hK hP hD hS hA (fun _ => rfl) (by decide +kernel) (by decide +kernel) (by decide +kernel) (Nat.le_of_ble_eq_true rfl) (Nat.le_of_ble_eq_true rfl) d_Rv_init_7 (fun q_1 k_2 H hK hP hD hS => ?_)
  have hP : va_P (dC, dI) vwCl [(h_0, .inr (1, [.null, .null, .null, .null, .int 0, .int 0])), (q_1, .inl (k_2, 12, .inl (fun _ => 0)))] H := hP
  have hD : va_D A [(h_0, .inr (1, [.null, .null, .null, .null, .int 0, .int 0])), (q_1, .inl (k_2, 12, .inl (fun _ => 0)))] := hD
  refine va_putF (D := (dC, dI)) (ci := 1) (v := .ref q_1) (ty := .array (.int)) (C := R_Rv) (T := F_Rv) (N := 6) hx hb htb i_Rv t_Rv t_Rv_ok n_Rv hown hK hP hD hS 0 rfl rfl 0 (by decide) (htb (.fieldLink R_Rv 9 "WaterMen$River" "milesUp" "[I") tw_60) (fun _ h9 => h9) rfl hin rfl (by decide +kernel) rfl rfl (Nat.le_of_ble_eq_true rfl) d_Rv_init_9 (fun H locs hP hD hS => ?_)
  have hP : va_P (dC, dI) vwCl [(h_0, .inr (1, [.ref q_1, .null, .null, .null, .int 0, .int 0])), (q_1, .inl (k_2, 12, .inl (fun _ => 0)))] H := hP
  have hD : va_D A [(h_0, .inr (1, [.ref q_1, .null, .null, .null, .int 0, .int 0])), (q_1, .inl (k_2, 12, .inl (fun _ => 0)))] := hD
  refine lv_aload_n hx hb d_Rv_init_12 rfl (lv_at hl 0 rfl) ?_
  refine lv_bipush (v := 12) hx hb d_Rv_init_13 (by decide +kernel) ?_
  refine va_newa (atype := .int) (ty := .int) (N' := 12) (a0 := (12, .inl (fun _ => 0))) hx hb (htb (.arrayClass .int) tw_3) rfl hK hP hD hS hA (fun _ => rfl) (by decide +kernel) (by decide +kernel) (by decide +kernel) (Nat.le_of_ble_eq_true rfl) (Nat.le_of_ble_eq_true rfl) d_Rv_init_15 (fun q_3 k_4 H hK hP hD hS => ?_)
  have hP : va_P (dC, dI) vwCl [(h_0, .inr (1, [.ref q_1, .null, .null, .null, .int 0, .int 0])), (q_1, .inl (k_2, 12, .inl (fun _ => 0))), (q_3, .inl (k_4, 12, .inl (fun _ => 0)))] H := hP
  have hD : va_D A [(h_0, .inr (1, [.ref q_1, .null, .null, .null, .int 0, .int 0])), (q_1, .inl (k_2, 12, .inl (fun _ => 0))), (q_3, .inl (k_4, 12, .inl (fun _ => 0)))] := hD
  refine va_putF (D := (dC, dI)) (ci := 1) (v := .ref q_3) (ty := .array (.int)) (C := R_Rv) (T := F_Rv) (N := 6) hx hb htb i_Rv t_Rv t_Rv_ok n_Rv hown hK hP hD hS 0 rfl rfl 1 (by decide) (htb (.fieldLink R_Rv 15 "WaterMen$River" "table" "[I") tw_61) (fun _ h9 => h9) rfl hin rfl (by decide +kernel) rfl rfl (Nat.le_of_ble_eq_true rfl) d_Rv_init_17 (fun H locs hP hD hS => ?_)
  have hP : va_P (dC, dI) vwCl [(h_0, .inr (1, [.ref q_1, .ref q_3, .null, .null, .int 0, .int 0])), (q_1, .inl (k_2, 12, .inl (fun _ => 0))), (q_3, .inl (k_4, 12, .inl (fun _ => 0)))] H := hP
  have hD : va_D A [(h_0, .inr (1, [.ref q_1, .ref q_3, .null, .null, .int 0, .int 0])), (q_1, .inl (k_2, 12, .inl (fun _ => 0))), (q_3, .inl (k_4, 12, .inl (fun _ => 0)))] := hD
  refine lv_aload_n hx hb d_Rv_init_20 rfl (lv_at hl 0 rfl) ?_
  refine lv_sipush (v := 500) hx hb d_Rv_init_21 (by decide +kernel) ?_
  refine va_newA (t := .int) (N' := 500) hx hb hown (htb (.classLink R_Rv 18 "[I") tw_62) (over_moved (Vm.Alike.refl s.vm) hN.2.2) hK hP hD hS hA (by decide +kernel) (by decide +kernel) (by decide +kernel) (Nat.le_of_ble_eq_true rfl) (Nat.le_of_ble_eq_true rfl) d_Rv_init_24 (fun q_5 k_6 H hK hP hD hS => ?_)
  have hP : va_P (dC, dI) vwCl [(h_0, .inr (1, [.ref q_1, .ref q_3, .null, .null, .int 0, .int 0])), (q_1, .inl (k_2, 12, .inl (fun _ => 0))), (q_3, .inl (k_4, 12, .inl (fun _ => 0))), (q_5, .inl (k_6, 500, .inr (.inr (.inr (.inr (fun _ => none))))))] H := hP
  have hD : va_D A [(h_0, .inr (1, [.ref q_1, .ref q_3, .null, .null, .int 0, .int 0])), (q_1, .inl (k_2, 12, .inl (fun _ => 0))), (q_3, .inl (k_4, 12, .inl (fun _ => 0))), (q_5, .inl (k_6, 500, .inr (.inr (.inr (.inr (fun _ => none))))))] := hD
  refine va_putF (D := (dC, dI)) (ci := 1) (v := .ref q_5) (ty := .array (.array (.int))) (C := R_Rv) (T := F_Rv) (N := 6) hx hb htb i_Rv t_Rv t_Rv_ok n_Rv hown hK hP hD hS 0 rfl rfl 2 (by decide) (htb (.fieldLink R_Rv 19 "WaterMen$River" "rows" "[[I") tw_63) (fun _ h9 => h9) rfl hin rfl (by decide +kernel) rfl rfl (Nat.le_of_ble_eq_true rfl) d_Rv_init_27 (fun H locs hP hD hS => ?_)
  have hP : va_P (dC, dI) vwCl [(h_0, .inr (1, [.ref q_1, .ref q_3, .ref q_5, .null, .int 0, .int 0])), (q_1, .inl (k_2, 12, .inl (fun _ => 0))), (q_3, .inl (k_4, 12, .inl (fun _ => 0))), (q_5, .inl (k_6, 500, .inr (.inr (.inr (.inr (fun _ => none))))))] H := hP
  have hD : va_D A [(h_0, .inr (1, [.ref q_1, .ref q_3, .ref q_5, .null, .int 0, .int 0])), (q_1, .inl (k_2, 12, .inl (fun _ => 0))), (q_3, .inl (k_4, 12, .inl (fun _ => 0))), (q_5, .inl (k_6, 500, .inr (.inr (.inr (.inr (fun _ => none))))))] := hD
  refine lv_aload_n hx hb d_Rv_init_30 rfl (lv_at hl 0 rfl) ?_
  refine lv_sipush (v := 500) hx hb d_Rv_init_31 (by decide +kernel) ?_
  refine va_newa (atype := .boolean) (ty := .boolean) (N' := 500) (a0 := (500, .inl (fun _ => 0))) hx hb (htb (.arrayClass .boolean) tw_7) rfl hK hP hD hS hA (fun _ => rfl) (by decide +kernel) (by decide +kernel) (by decide +kernel) (Nat.le_of_ble_eq_true rfl) (Nat.le_of_ble_eq_true rfl) d_Rv_init_34 (fun q_7 k_8 H hK hP hD hS => ?_)
  have hP : va_P (dC, dI) vwCl [(h_0, .inr (1, [.ref q_1, .ref q_3, .ref q_5, .null, .int 0, .int 0])), (q_1, .inl (k_2, 12, .inl (fun _ => 0))), (q_3, .inl (k_4, 12, .inl (fun _ => 0))), (q_5, .inl (k_6, 500, .inr (.inr (.inr (.inr (fun _ => none)))))), (q_7, .inl (k_8, 500, .inl (fun _ => 0)))] H := hP
  have hD : va_D A [(h_0, .inr (1, [.ref q_1, .ref q_3, .ref q_5, .null, .int 0, .int 0])), (q_1, .inl (k_2, 12, .inl (fun _ => 0))), (q_3, .inl (k_4, 12, .inl (fun _ => 0))), (q_5, .inl (k_6, 500, .inr (.inr (.inr (.inr (fun _ => none)))))), (q_7, .inl (k_8, 500, .inl (fun _ => 0)))] := hD
  refine va_putF (D := (dC, dI)) (ci := 1) (v := .ref q_7) (ty := .array (.boolean)) (C := R_Rv) (T := F_Rv) (N := 6) hx hb htb i_Rv t_Rv t_Rv_ok n_Rv hown hK hP hD hS 0 rfl rfl 3 (by decide) (htb (.fieldLink R_Rv 23 "WaterMen$River" "frozen" "[Z") tw_64) (fun _ h9 => h9) rfl hin rfl (by decide +kernel) rfl rfl (Nat.le_of_ble_eq_true rfl) d_Rv_init_36 (fun H locs hP hD hS => ?_)
  have hP : va_P (dC, dI) vwCl [(h_0, .inr (1, [.ref q_1, .ref q_3, .ref q_5, .ref q_7, .int 0, .int 0])), (q_1, .inl (k_2, 12, .inl (fun _ => 0))), (q_3, .inl (k_4, 12, .inl (fun _ => 0))), (q_5, .inl (k_6, 500, .inr (.inr (.inr (.inr (fun _ => none)))))), (q_7, .inl (k_8, 500, .inl (fun _ => 0)))] H := hP
  have hD : va_D A [(h_0, .inr (1, [.ref q_1, .ref q_3, .ref q_5, .ref q_7, .int 0, .int 0])), (q_1, .inl (k_2, 12, .inl (fun _ => 0))), (q_3, .inl (k_4, 12, .inl (fun _ => 0))), (q_5, .inl (k_6, 500, .inr (.inr (.inr (.inr (fun _ => none)))))), (q_7, .inl (k_8, 500, .inl (fun _ => 0)))] := hD
  refine lv_aload_n hx hb d_Rv_init_39 rfl (lv_at hl 0 rfl) ?_
  refine lv_iconst (v := (-1)) hx hb d_Rv_init_40 (by decide +kernel) ?_
  refine va_put (D := (dC, dI)) (ci := 1) (v := .int (-1)) (ty := .int) (C := R_Rv) (T := F_Rv) (N := 6) hx hb htb i_Rv t_Rv t_Rv_ok n_Rv hown hK hP hD hS 0 rfl rfl 5 (by decide) (htb (.fieldLink R_Rv 27 "WaterMen$River" "bridgeAbove" "I") tw_65) (fun _ h9 => h9) rfl (by decide +kernel) rfl rfl (Nat.le_of_ble_eq_true rfl) d_Rv_init_41 (fun H locs hP hD hS => ?_)
  have hP : va_P (dC, dI) vwCl [(h_0, .inr (1, [.ref q_1, .ref q_3, .ref q_5, .ref q_7, .int 0, .int (-1)])), (q_1, .inl (k_2, 12, .inl (fun _ => 0))), (q_3, .inl (k_4, 12, .inl (fun _ => 0))), (q_5, .inl (k_6, 500, .inr (.inr (.inr (.inr (fun _ => none)))))), (q_7, .inl (k_8, 500, .inl (fun _ => 0)))] H := hP
  have hD : va_D A [(h_0, .inr (1, [.ref q_1, .ref q_3, .ref q_5, .ref q_7, .int 0, .int (-1)])), (q_1, .inl (k_2, 12, .inl (fun _ => 0))), (q_3, .inl (k_4, 12, .inl (fun _ => 0))), (q_5, .inl (k_6, 500, .inr (.inr (.inr (.inr (fun _ => none)))))), (q_7, .inl (k_8, 500, .inl (fun _ => 0)))] := hD
  refine W.widen (k := 4) (n := 1024) (Nat.le_of_ble_eq_true rfl) (Nat.le_of_ble_eq_true rfl) ?_
  exact W.vret hx hb hr (fun t ht hW => ⟨⟨(), rfl, trivial, q_1, q_3, q_5, q_7, k_2, k_4, k_6, k_8, by rw [ht]; exact hP, va_K.moved hW.alike hK, by rw [hAe]; exact hD⟩, by rw [hAe]; exact hS.F ht⟩) (by rw [hAe]; exact hS.2.2) d_Rv_init_44
set_option maxHeartbeats 4000000 in
set_option maxRecDepth 100000 in
theorem c_Tp_init_c1 (l : Launch) (dC : Nat → ClassId) (dI : Nat → Nat → Nat) (h_0 : Nat) (sz : Nat)   : Met l y_Tp_init (.code y_Tp_init b_Tp_init 1 none :: TB) ({ frames := 1, cells := 1, slots := 400, locals := 12 }) (va_Pc [.ref h_0] (PC dC dI [(h_0, .inr (4, [.null, .int 0, .int 0, .int 0, .int 0, .int 0]))] [] sz)) (va_Qv (fun (_ : Unit) => True) (fun (_ : Unit) t => ∃ (q_1 : Nat) (k_2 : ClassId) , va_P (dC, dI) vwCl [(h_0, .inr (4, [.ref q_1, .int 0, .int 0, .int 0, .int 0, .int 0])), (q_1, .inl (k_2, 400, .inl (fun _ => 0)))] t.heap ∧ va_K (dC, dI) vwCl [(k_2, .byte)] t ∧ va_D (va_A [(h_0, .inr (4, [.null, .int 0, .int 0, .int 0, .int 0, .int 0]))] sz) [(h_0, .inr (4, [.ref q_1, .int 0, .int 0, .int 0, .int 0, .int 0])), (q_1, .inl (k_2, 400, .inl (fun _ => 0)))]) (va_A [(h_0, .inr (4, [.null, .int 0, .int 0, .int 0, .int 0, .int 0]))] sz)) 1 400 (va_A [(h_0, .inr (4, [.null, .int 0, .int 0, .int 0, .int 0, .int 0]))] sz) := by
  refine Met.ofW (cc := b_Tp_init) (maxL := 1) (ret := none) (by decide) rfl ?_
  intro p e s m args below meth c s₁ B hml hv
  obtain ⟨rfl, hsz, hP, hK, hD0, hN⟩ := hv
  have hx := B.exec
  have hb := B.bytes
  have hr := B.returns
  have hts := atoms_spec (ws := (.code y_Tp_init b_Tp_init 1 none :: TB)) B.pre
  have htb := fun w (h : w ∈ TB) => hts w (List.mem_cons_of_mem _ h)
  have hown : s.vm.findClass R_Tp = some m.cls := findClass_of_methodNamed B.named
  have hlocks := B.notSynchronized
  have hin : meth.name = "<init>" := (name_of_methodNamed B.named B.method).1
  have hl := lv_entry ([.ref h_0]) (n := 1) (Nat.le_of_ble_eq_true rfl)
  rw [lg_entry_eq]
  generalize (lg_sl ([.ref h_0]) ++ List.replicate (1 - (lg_sl ([.ref h_0])).length) Slot.unset).toArray = ls at hl ⊢
  have hl : lv_has ls 1 [(0, .ref h_0)] := hl
  subst hsz
  have hD := hD0.self (sz := s.heap.size)
  obtain ⟨A, hAe⟩ : ∃ A, va_A [(h_0, .inr (4, [.null, .int 0, .int 0, .int 0, .int 0, .int 0]))] s.heap.size = A := ⟨_, rfl⟩
  rw [hAe] at hD
  have hA : ∀ q : Nat, s.heap.size ≤ q → A q := fun q h => by rw [← hAe]; exact Or.inr h
  have hS : va_S A s.heap s.heap [] := va_S.rf
  have hP := hP
  refine lv_aload_n hx hb d_Tp_init_0 rfl (lv_at hl 0 rfl) ?_
  refine W.objInit hx hb hown (htb (.methodLink R_Tp 3 objectInit) tw_80) (htb (.instanceMethod objectInit) tw_1) (htb (.code objectInit ⟨#[0xb1]⟩ 1 none) tw_2) rfl (by rw [hml]; exact hl.1) rfl d_Tp_init_1 (Nat.le_of_ble_eq_true rfl) (Nat.le_of_ble_eq_true rfl) ?_
  refine W.eq (g2 := F0 m 4 ls []) rfl ?_
  refine lv_aload_n hx hb d_Tp_init_4 rfl (lv_at hl 0 rfl) ?_
  refine lv_sipush (v := 400) hx hb d_Tp_init_5 (by decide +kernel) ?_
  refine va_newa (atype := .byte) (ty := .byte) (N' := 400) (a0 := (400, .inl (fun _ => 0))) hx hb (htb (.arrayClass .byte) tw_28) rfl hK hP hD hS hA (fun _ => rfl) (by decide +kernel) (by decide +kernel) (by decide +kernel) (Nat.le_of_ble_eq_true rfl) (Nat.le_of_ble_eq_true rfl) d_Tp_init_8 (fun q_1 k_2 H hK hP hD hS => ?_)
  have hP : va_P (dC, dI) vwCl [(h_0, .inr (4, [.null, .int 0, .int 0, .int 0, .int 0, .int 0])), (q_1, .inl (k_2, 400, .inl (fun _ => 0)))] H := hP
  have hD : va_D A [(h_0, .inr (4, [.null, .int 0, .int 0, .int 0, .int 0, .int 0])), (q_1, .inl (k_2, 400, .inl (fun _ => 0)))] := hD
  refine va_putF (D := (dC, dI)) (ci := 4) (v := .ref q_1) (ty := .array (.byte)) (C := R_Tp) (T := F_Tp) (N := 6) hx hb htb i_Tp t_Tp t_Tp_ok n_Tp hown hK hP hD hS 0 rfl rfl 0 (by decide) (htb (.fieldLink R_Tp 9 "WaterMen$Tape" "bytes" "[B") tw_81) (fun _ h9 => h9) rfl hin rfl (by decide +kernel) rfl rfl (Nat.le_of_ble_eq_true rfl) d_Tp_init_10 (fun H locs hP hD hS => ?_)
  have hP : va_P (dC, dI) vwCl [(h_0, .inr (4, [.ref q_1, .int 0, .int 0, .int 0, .int 0, .int 0])), (q_1, .inl (k_2, 400, .inl (fun _ => 0)))] H := hP
  have hD : va_D A [(h_0, .inr (4, [.ref q_1, .int 0, .int 0, .int 0, .int 0, .int 0])), (q_1, .inl (k_2, 400, .inl (fun _ => 0)))] := hD
  refine W.widen (k := 1) (n := 400) (Nat.le_of_ble_eq_true rfl) (Nat.le_of_ble_eq_true rfl) ?_
  exact W.vret hx hb hr (fun t ht hW => ⟨⟨(), rfl, trivial, q_1, k_2, by rw [ht]; exact hP, va_K.moved hW.alike hK, by rw [hAe]; exact hD⟩, by rw [hAe]; exact hS.F ht⟩) (by rw [hAe]; exact hS.2.2) d_Tp_init_13
set_option maxHeartbeats 4000000 in
set_option maxRecDepth 100000 in
theorem c_Bx_init_c2 (l : Launch) (dC : Nat → ClassId) (dI : Nat → Nat → Nat) (h_0 : Nat) (sz : Nat)   : Met l y_Bx_init (.code y_Bx_init b_Bx_init 1 none :: TB) ({ frames := 1, cells := 2, slots := 530, locals := 12 }) (va_Pc [.ref h_0] (PC dC dI [(h_0, .inr (5, [.int 0, .int 0, .int 0, .int 0, .null, .null, .int 0]))] [] sz)) (va_Qv (fun (_ : Unit) => True) (fun (_ : Unit) t => ∃ (q_1 q_3 : Nat) (k_2 k_4 : ClassId) , va_P (dC, dI) vwCl [(h_0, .inr (5, [.int 0, .int 0, .int 0, .int 0, .ref q_1, .ref q_3, .int 0])), (q_1, .inl (k_2, 500, .inl (fun _ => 0))), (q_3, .inl (k_4, 30, .inr (.inr (.inr (.inr (fun _ => none))))))] t.heap ∧ va_K (dC, dI) vwCl [(k_2, .int), (k_4, .object R_Pn)] t ∧ va_D (va_A [(h_0, .inr (5, [.int 0, .int 0, .int 0, .int 0, .null, .null, .int 0]))] sz) [(h_0, .inr (5, [.int 0, .int 0, .int 0, .int 0, .ref q_1, .ref q_3, .int 0])), (q_1, .inl (k_2, 500, .inl (fun _ => 0))), (q_3, .inl (k_4, 30, .inr (.inr (.inr (.inr (fun _ => none))))))]) (va_A [(h_0, .inr (5, [.int 0, .int 0, .int 0, .int 0, .null, .null, .int 0]))] sz)) 2 530 (va_A [(h_0, .inr (5, [.int 0, .int 0, .int 0, .int 0, .null, .null, .int 0]))] sz) := by
  refine Met.ofW (cc := b_Bx_init) (maxL := 1) (ret := none) (by decide) rfl ?_
  intro p e s m args below meth c s₁ B hml hv
  obtain ⟨rfl, hsz, hP, hK, hD0, hN⟩ := hv
  have hx := B.exec
  have hb := B.bytes
  have hr := B.returns
  have hts := atoms_spec (ws := (.code y_Bx_init b_Bx_init 1 none :: TB)) B.pre
  have htb := fun w (h : w ∈ TB) => hts w (List.mem_cons_of_mem _ h)
  have hown : s.vm.findClass R_Bx = some m.cls := findClass_of_methodNamed B.named
  have hlocks := B.notSynchronized
  have hin : meth.name = "<init>" := (name_of_methodNamed B.named B.method).1
  have hl := lv_entry ([.ref h_0]) (n := 1) (Nat.le_of_ble_eq_true rfl)
  rw [lg_entry_eq]
  generalize (lg_sl ([.ref h_0]) ++ List.replicate (1 - (lg_sl ([.ref h_0])).length) Slot.unset).toArray = ls at hl ⊢
  have hl : lv_has ls 1 [(0, .ref h_0)] := hl
  subst hsz
  have hD := hD0.self (sz := s.heap.size)
  obtain ⟨A, hAe⟩ : ∃ A, va_A [(h_0, .inr (5, [.int 0, .int 0, .int 0, .int 0, .null, .null, .int 0]))] s.heap.size = A := ⟨_, rfl⟩
  rw [hAe] at hD
  have hA : ∀ q : Nat, s.heap.size ≤ q → A q := fun q h => by rw [← hAe]; exact Or.inr h
  have hS : va_S A s.heap s.heap [] := va_S.rf
  have hP := hP
  refine lv_aload_n hx hb d_Bx_init_0 rfl (lv_at hl 0 rfl) ?_
  refine W.objInit hx hb hown (htb (.methodLink R_Bx 3 objectInit) tw_88) (htb (.instanceMethod objectInit) tw_1) (htb (.code objectInit ⟨#[0xb1]⟩ 1 none) tw_2) rfl (by rw [hml]; exact hl.1) rfl d_Bx_init_1 (Nat.le_of_ble_eq_true rfl) (Nat.le_of_ble_eq_true rfl) ?_
  refine W.eq (g2 := F0 m 4 ls []) rfl ?_
  refine lv_aload_n hx hb d_Bx_init_4 rfl (lv_at hl 0 rfl) ?_
  refine lv_sipush (v := 500) hx hb d_Bx_init_5 (by decide +kernel) ?_
  refine va_newa (atype := .int) (ty := .int) (N' := 500) (a0 := (500, .inl (fun _ => 0))) hx hb (htb (.arrayClass .int) tw_3) rfl hK hP hD hS hA (fun _ => rfl) (by decide +kernel) (by decide +kernel) (by decide +kernel) (Nat.le_of_ble_eq_true rfl) (Nat.le_of_ble_eq_true rfl) d_Bx_init_8 (fun q_1 k_2 H hK hP hD hS => ?_)
  have hP : va_P (dC, dI) vwCl [(h_0, .inr (5, [.int 0, .int 0, .int 0, .int 0, .null, .null, .int 0])), (q_1, .inl (k_2, 500, .inl (fun _ => 0)))] H := hP
  have hD : va_D A [(h_0, .inr (5, [.int 0, .int 0, .int 0, .int 0, .null, .null, .int 0])), (q_1, .inl (k_2, 500, .inl (fun _ => 0)))] := hD
  refine va_putF (D := (dC, dI)) (ci := 5) (v := .ref q_1) (ty := .array (.int)) (C := R_Bx) (T := F_Bx) (N := 7) hx hb htb i_Bx t_Bx t_Bx_ok n_Bx hown hK hP hD hS 0 rfl rfl 4 (by decide) (htb (.fieldLink R_Bx 9 "WaterMen$Box" "income" "[I") tw_89) (fun _ h9 => h9) rfl hin rfl (by decide +kernel) rfl rfl (Nat.le_of_ble_eq_true rfl) d_Bx_init_10 (fun H locs hP hD hS => ?_)
  have hP : va_P (dC, dI) vwCl [(h_0, .inr (5, [.int 0, .int 0, .int 0, .int 0, .ref q_1, .null, .int 0])), (q_1, .inl (k_2, 500, .inl (fun _ => 0)))] H := hP
  have hD : va_D A [(h_0, .inr (5, [.int 0, .int 0, .int 0, .int 0, .ref q_1, .null, .int 0])), (q_1, .inl (k_2, 500, .inl (fun _ => 0)))] := hD
  refine lv_aload_n hx hb d_Bx_init_13 rfl (lv_at hl 0 rfl) ?_
  refine lv_bipush (v := 30) hx hb d_Bx_init_14 (by decide +kernel) ?_
  refine va_newq (C := R_Pn) (N' := 30) hx hb hown (htb (.classLink R_Bx 15 R_Pn) tw_90) (hN.2.1 _ ao_Pn) hK hP hD hS hA (by decide +kernel) (by decide +kernel) (by decide +kernel) (Nat.le_of_ble_eq_true rfl) (Nat.le_of_ble_eq_true rfl) d_Bx_init_16 (fun q_3 k_4 H hK hP hD hS => ?_)
  have hP : va_P (dC, dI) vwCl [(h_0, .inr (5, [.int 0, .int 0, .int 0, .int 0, .ref q_1, .null, .int 0])), (q_1, .inl (k_2, 500, .inl (fun _ => 0))), (q_3, .inl (k_4, 30, .inr (.inr (.inr (.inr (fun _ => none))))))] H := hP
  have hD : va_D A [(h_0, .inr (5, [.int 0, .int 0, .int 0, .int 0, .ref q_1, .null, .int 0])), (q_1, .inl (k_2, 500, .inl (fun _ => 0))), (q_3, .inl (k_4, 30, .inr (.inr (.inr (.inr (fun _ => none))))))] := hD
  refine va_putF (D := (dC, dI)) (ci := 5) (v := .ref q_3) (ty := .array (.object "WaterMen$Pensioner")) (C := R_Bx) (T := F_Bx) (N := 7) hx hb htb i_Bx t_Bx t_Bx_ok n_Bx hown hK hP hD hS 0 rfl rfl 5 (by decide) (htb (.fieldLink R_Bx 17 "WaterMen$Box" "pensioners" "[LWaterMen$Pensioner;") tw_91) (fun _ h9 => h9) rfl hin rfl (by decide +kernel) rfl rfl (Nat.le_of_ble_eq_true rfl) d_Bx_init_19 (fun H locs hP hD hS => ?_)
  have hP : va_P (dC, dI) vwCl [(h_0, .inr (5, [.int 0, .int 0, .int 0, .int 0, .ref q_1, .ref q_3, .int 0])), (q_1, .inl (k_2, 500, .inl (fun _ => 0))), (q_3, .inl (k_4, 30, .inr (.inr (.inr (.inr (fun _ => none))))))] H := hP
  have hD : va_D A [(h_0, .inr (5, [.int 0, .int 0, .int 0, .int 0, .ref q_1, .ref q_3, .int 0])), (q_1, .inl (k_2, 500, .inl (fun _ => 0))), (q_3, .inl (k_4, 30, .inr (.inr (.inr (.inr (fun _ => none))))))] := hD
  refine W.widen (k := 2) (n := 530) (Nat.le_of_ble_eq_true rfl) (Nat.le_of_ble_eq_true rfl) ?_
  exact W.vret hx hb hr (fun t ht hW => ⟨⟨(), rfl, trivial, q_1, q_3, k_2, k_4, by rw [ht]; exact hP, va_K.moved hW.alike hK, by rw [hAe]; exact hD⟩, by rw [hAe]; exact hS.F ht⟩) (by rw [hAe]; exact hS.2.2) d_Bx_init_22
set_option maxHeartbeats 4000000 in
set_option maxRecDepth 100000 in
theorem c_Or_init_c3 (l : Launch) (dC : Nat → ClassId) (dI : Nat → Nat → Nat) (h_0 : Nat) (sz : Nat)   : Met l y_Or_init (.code y_Or_init b_Or_init 1 none :: TB) ({ frames := 1, cells := 3, slots := 81, locals := 12 }) (va_Pc [.ref h_0] (PC dC dI [(h_0, .inr (3, [.int 0, .int 0, .null, .null, .null, .int 0, .int 0, .int 0, .int 0]))] [] sz)) (va_Qv (fun (_ : Unit) => True) (fun (_ : Unit) t => ∃ (q_1 q_3 q_5 : Nat) (k_2 k_4 k_6 : ClassId) , va_P (dC, dI) vwCl [(h_0, .inr (3, [.int 0, .int 0, .ref q_1, .ref q_3, .ref q_5, .int 0, .int 0, .int 0, .int 0])), (q_1, .inl (k_2, 36, .inl (fun _ => 0))), (q_3, .inl (k_4, 36, .inl (fun _ => 0))), (q_5, .inl (k_6, 9, .inl (fun _ => 0)))] t.heap ∧ va_K (dC, dI) vwCl [(k_2, .int), (k_4, .int), (k_6, .int)] t ∧ va_D (va_A [(h_0, .inr (3, [.int 0, .int 0, .null, .null, .null, .int 0, .int 0, .int 0, .int 0]))] sz) [(h_0, .inr (3, [.int 0, .int 0, .ref q_1, .ref q_3, .ref q_5, .int 0, .int 0, .int 0, .int 0])), (q_1, .inl (k_2, 36, .inl (fun _ => 0))), (q_3, .inl (k_4, 36, .inl (fun _ => 0))), (q_5, .inl (k_6, 9, .inl (fun _ => 0)))]) (va_A [(h_0, .inr (3, [.int 0, .int 0, .null, .null, .null, .int 0, .int 0, .int 0, .int 0]))] sz)) 3 81 (va_A [(h_0, .inr (3, [.int 0, .int 0, .null, .null, .null, .int 0, .int 0, .int 0, .int 0]))] sz) := by
  refine Met.ofW (cc := b_Or_init) (maxL := 1) (ret := none) (by decide) rfl ?_
  intro p e s m args below meth c s₁ B hml hv
  obtain ⟨rfl, hsz, hP, hK, hD0, hN⟩ := hv
  have hx := B.exec
  have hb := B.bytes
  have hr := B.returns
  have hts := atoms_spec (ws := (.code y_Or_init b_Or_init 1 none :: TB)) B.pre
  have htb := fun w (h : w ∈ TB) => hts w (List.mem_cons_of_mem _ h)
  have hown : s.vm.findClass R_Or = some m.cls := findClass_of_methodNamed B.named
  have hlocks := B.notSynchronized
  have hin : meth.name = "<init>" := (name_of_methodNamed B.named B.method).1
  have hl := lv_entry ([.ref h_0]) (n := 1) (Nat.le_of_ble_eq_true rfl)
  rw [lg_entry_eq]
  generalize (lg_sl ([.ref h_0]) ++ List.replicate (1 - (lg_sl ([.ref h_0])).length) Slot.unset).toArray = ls at hl ⊢
  have hl : lv_has ls 1 [(0, .ref h_0)] := hl
  subst hsz
  have hD := hD0.self (sz := s.heap.size)
  obtain ⟨A, hAe⟩ : ∃ A, va_A [(h_0, .inr (3, [.int 0, .int 0, .null, .null, .null, .int 0, .int 0, .int 0, .int 0]))] s.heap.size = A := ⟨_, rfl⟩
  rw [hAe] at hD
  have hA : ∀ q : Nat, s.heap.size ≤ q → A q := fun q h => by rw [← hAe]; exact Or.inr h
  have hS : va_S A s.heap s.heap [] := va_S.rf
  have hP := hP
  refine lv_aload_n hx hb d_Or_init_0 rfl (lv_at hl 0 rfl) ?_
  refine W.objInit hx hb hown (htb (.methodLink R_Or 3 objectInit) tw_97) (htb (.instanceMethod objectInit) tw_1) (htb (.code objectInit ⟨#[0xb1]⟩ 1 none) tw_2) rfl (by rw [hml]; exact hl.1) rfl d_Or_init_1 (Nat.le_of_ble_eq_true rfl) (Nat.le_of_ble_eq_true rfl) ?_
  refine W.eq (g2 := F0 m 4 ls []) rfl ?_
  refine lv_aload_n hx hb d_Or_init_4 rfl (lv_at hl 0 rfl) ?_
  refine lv_bipush (v := 36) hx hb d_Or_init_5 (by decide +kernel) ?_
  refine va_newa (atype := .int) (ty := .int) (N' := 36) (a0 := (36, .inl (fun _ => 0))) hx hb (htb (.arrayClass .int) tw_3) rfl hK hP hD hS hA (fun _ => rfl) (by decide +kernel) (by decide +kernel) (by decide +kernel) (Nat.le_of_ble_eq_true rfl) (Nat.le_of_ble_eq_true rfl) d_Or_init_7 (fun q_1 k_2 H hK hP hD hS => ?_)
  have hP : va_P (dC, dI) vwCl [(h_0, .inr (3, [.int 0, .int 0, .null, .null, .null, .int 0, .int 0, .int 0, .int 0])), (q_1, .inl (k_2, 36, .inl (fun _ => 0)))] H := hP
  have hD : va_D A [(h_0, .inr (3, [.int 0, .int 0, .null, .null, .null, .int 0, .int 0, .int 0, .int 0])), (q_1, .inl (k_2, 36, .inl (fun _ => 0)))] := hD
  refine va_putF (D := (dC, dI)) (ci := 3) (v := .ref q_1) (ty := .array (.int)) (C := R_Or) (T := F_Or) (N := 9) hx hb htb i_Or t_Or t_Or_ok n_Or hown hK hP hD hS 0 rfl rfl 2 (by decide) (htb (.fieldLink R_Or 9 "WaterMen$Order" "fares" "[I") tw_98) (fun _ h9 => h9) rfl hin rfl (by decide +kernel) rfl rfl (Nat.le_of_ble_eq_true rfl) d_Or_init_9 (fun H locs hP hD hS => ?_)
  have hP : va_P (dC, dI) vwCl [(h_0, .inr (3, [.int 0, .int 0, .ref q_1, .null, .null, .int 0, .int 0, .int 0, .int 0])), (q_1, .inl (k_2, 36, .inl (fun _ => 0)))] H := hP
  have hD : va_D A [(h_0, .inr (3, [.int 0, .int 0, .ref q_1, .null, .null, .int 0, .int 0, .int 0, .int 0])), (q_1, .inl (k_2, 36, .inl (fun _ => 0)))] := hD
  refine lv_aload_n hx hb d_Or_init_12 rfl (lv_at hl 0 rfl) ?_
  refine lv_bipush (v := 36) hx hb d_Or_init_13 (by decide +kernel) ?_
  refine va_newa (atype := .int) (ty := .int) (N' := 36) (a0 := (36, .inl (fun _ => 0))) hx hb (htb (.arrayClass .int) tw_3) rfl hK hP hD hS hA (fun _ => rfl) (by decide +kernel) (by decide +kernel) (by decide +kernel) (Nat.le_of_ble_eq_true rfl) (Nat.le_of_ble_eq_true rfl) d_Or_init_15 (fun q_3 k_4 H hK hP hD hS => ?_)
  have hP : va_P (dC, dI) vwCl [(h_0, .inr (3, [.int 0, .int 0, .ref q_1, .null, .null, .int 0, .int 0, .int 0, .int 0])), (q_1, .inl (k_2, 36, .inl (fun _ => 0))), (q_3, .inl (k_4, 36, .inl (fun _ => 0)))] H := hP
  have hD : va_D A [(h_0, .inr (3, [.int 0, .int 0, .ref q_1, .null, .null, .int 0, .int 0, .int 0, .int 0])), (q_1, .inl (k_2, 36, .inl (fun _ => 0))), (q_3, .inl (k_4, 36, .inl (fun _ => 0)))] := hD
  refine va_putF (D := (dC, dI)) (ci := 3) (v := .ref q_3) (ty := .array (.int)) (C := R_Or) (T := F_Or) (N := 9) hx hb htb i_Or t_Or t_Or_ok n_Or hown hK hP hD hS 0 rfl rfl 3 (by decide) (htb (.fieldLink R_Or 15 "WaterMen$Order" "hours" "[I") tw_99) (fun _ h9 => h9) rfl hin rfl (by decide +kernel) rfl rfl (Nat.le_of_ble_eq_true rfl) d_Or_init_17 (fun H locs hP hD hS => ?_)
  have hP : va_P (dC, dI) vwCl [(h_0, .inr (3, [.int 0, .int 0, .ref q_1, .ref q_3, .null, .int 0, .int 0, .int 0, .int 0])), (q_1, .inl (k_2, 36, .inl (fun _ => 0))), (q_3, .inl (k_4, 36, .inl (fun _ => 0)))] H := hP
  have hD : va_D A [(h_0, .inr (3, [.int 0, .int 0, .ref q_1, .ref q_3, .null, .int 0, .int 0, .int 0, .int 0])), (q_1, .inl (k_2, 36, .inl (fun _ => 0))), (q_3, .inl (k_4, 36, .inl (fun _ => 0)))] := hD
  refine lv_aload_n hx hb d_Or_init_20 rfl (lv_at hl 0 rfl) ?_
  refine lv_bipush (v := 9) hx hb d_Or_init_21 (by decide +kernel) ?_
  refine va_newa (atype := .int) (ty := .int) (N' := 9) (a0 := (9, .inl (fun _ => 0))) hx hb (htb (.arrayClass .int) tw_3) rfl hK hP hD hS hA (fun _ => rfl) (by decide +kernel) (by decide +kernel) (by decide +kernel) (Nat.le_of_ble_eq_true rfl) (Nat.le_of_ble_eq_true rfl) d_Or_init_23 (fun q_5 k_6 H hK hP hD hS => ?_)
  have hP : va_P (dC, dI) vwCl [(h_0, .inr (3, [.int 0, .int 0, .ref q_1, .ref q_3, .null, .int 0, .int 0, .int 0, .int 0])), (q_1, .inl (k_2, 36, .inl (fun _ => 0))), (q_3, .inl (k_4, 36, .inl (fun _ => 0))), (q_5, .inl (k_6, 9, .inl (fun _ => 0)))] H := hP
  have hD : va_D A [(h_0, .inr (3, [.int 0, .int 0, .ref q_1, .ref q_3, .null, .int 0, .int 0, .int 0, .int 0])), (q_1, .inl (k_2, 36, .inl (fun _ => 0))), (q_3, .inl (k_4, 36, .inl (fun _ => 0))), (q_5, .inl (k_6, 9, .inl (fun _ => 0)))] := hD
  refine va_putF (D := (dC, dI)) (ci := 3) (v := .ref q_5) (ty := .array (.int)) (C := R_Or) (T := F_Or) (N := 9) hx hb htb i_Or t_Or t_Or_ok n_Or hown hK hP hD hS 0 rfl rfl 4 (by decide) (htb (.fieldLink R_Or 20 "WaterMen$Order" "single" "[I") tw_100) (fun _ h9 => h9) rfl hin rfl (by decide +kernel) rfl rfl (Nat.le_of_ble_eq_true rfl) d_Or_init_25 (fun H locs hP hD hS => ?_)
  have hP : va_P (dC, dI) vwCl [(h_0, .inr (3, [.int 0, .int 0, .ref q_1, .ref q_3, .ref q_5, .int 0, .int 0, .int 0, .int 0])), (q_1, .inl (k_2, 36, .inl (fun _ => 0))), (q_3, .inl (k_4, 36, .inl (fun _ => 0))), (q_5, .inl (k_6, 9, .inl (fun _ => 0)))] H := hP
  have hD : va_D A [(h_0, .inr (3, [.int 0, .int 0, .ref q_1, .ref q_3, .ref q_5, .int 0, .int 0, .int 0, .int 0])), (q_1, .inl (k_2, 36, .inl (fun _ => 0))), (q_3, .inl (k_4, 36, .inl (fun _ => 0))), (q_5, .inl (k_6, 9, .inl (fun _ => 0)))] := hD
  refine W.widen (k := 3) (n := 81) (Nat.le_of_ble_eq_true rfl) (Nat.le_of_ble_eq_true rfl) ?_
  exact W.vret hx hb hr (fun t ht hW => ⟨⟨(), rfl, trivial, q_1, q_3, q_5, k_2, k_4, k_6, by rw [ht]; exact hP, va_K.moved hW.alike hK, by rw [hAe]; exact hD⟩, by rw [hAe]; exact hS.F ht⟩) (by rw [hAe]; exact hS.2.2) d_Or_init_28
set_option maxHeartbeats 4000000 in
set_option maxRecDepth 100000 in
theorem c_Mn_init_c4 (l : Launch) (dC : Nat → ClassId) (dI : Nat → Nat → Nat) (h_0 : Nat) (sz : Nat)   : Met l y_Mn_init (.code y_Mn_init b_Mn_init 1 none :: TB) ({ frames := 1, cells := 0, slots := 0, locals := 12 }) (va_Pc [.ref h_0] (PC dC dI [(h_0, .inr (2, [.int 0, .null, .int 0, .int 0, .int 0, .int 0, .int 0, .int 0]))] [] sz)) (va_Qv (fun (_ : Unit) => True) (fun (_ : Unit) t => va_P (dC, dI) vwCl [(h_0, .inr (2, [.int 0, .null, .int (-1), .int 0, .int 0, .int 0, .int 0, .int (-1)]))] t.heap ∧ va_K (dC, dI) vwCl [] t ∧ va_D (va_A [(h_0, .inr (2, [.int 0, .null, .int 0, .int 0, .int 0, .int 0, .int 0, .int 0]))] sz) [(h_0, .inr (2, [.int 0, .null, .int (-1), .int 0, .int 0, .int 0, .int 0, .int (-1)]))]) (va_A [(h_0, .inr (2, [.int 0, .null, .int 0, .int 0, .int 0, .int 0, .int 0, .int 0]))] sz)) 0 0 (va_A [(h_0, .inr (2, [.int 0, .null, .int 0, .int 0, .int 0, .int 0, .int 0, .int 0]))] sz) := by
  refine Met.ofW (cc := b_Mn_init) (maxL := 1) (ret := none) (by decide) rfl ?_
  intro p e s m args below meth c s₁ B hml hv
  obtain ⟨rfl, hsz, hP, hK, hD0, hN⟩ := hv
  have hx := B.exec
  have hb := B.bytes
  have hr := B.returns
  have hts := atoms_spec (ws := (.code y_Mn_init b_Mn_init 1 none :: TB)) B.pre
  have htb := fun w (h : w ∈ TB) => hts w (List.mem_cons_of_mem _ h)
  have hown : s.vm.findClass R_Mn = some m.cls := findClass_of_methodNamed B.named
  have hlocks := B.notSynchronized
  have hin : meth.name = "<init>" := (name_of_methodNamed B.named B.method).1
  have hl := lv_entry ([.ref h_0]) (n := 1) (Nat.le_of_ble_eq_true rfl)
  rw [lg_entry_eq]
  generalize (lg_sl ([.ref h_0]) ++ List.replicate (1 - (lg_sl ([.ref h_0])).length) Slot.unset).toArray = ls at hl ⊢
  have hl : lv_has ls 1 [(0, .ref h_0)] := hl
  subst hsz
  have hD := hD0.self (sz := s.heap.size)
  obtain ⟨A, hAe⟩ : ∃ A, va_A [(h_0, .inr (2, [.int 0, .null, .int 0, .int 0, .int 0, .int 0, .int 0, .int 0]))] s.heap.size = A := ⟨_, rfl⟩
  rw [hAe] at hD
  have hA : ∀ q : Nat, s.heap.size ≤ q → A q := fun q h => by rw [← hAe]; exact Or.inr h
  have hS : va_S A s.heap s.heap [] := va_S.rf
  have hP := hP
  refine lv_aload_n hx hb d_Mn_init_0 rfl (lv_at hl 0 rfl) ?_
  refine W.objInit hx hb hown (htb (.methodLink R_Mn 3 objectInit) tw_106) (htb (.instanceMethod objectInit) tw_1) (htb (.code objectInit ⟨#[0xb1]⟩ 1 none) tw_2) rfl (by rw [hml]; exact hl.1) rfl d_Mn_init_1 (Nat.le_of_ble_eq_true rfl) (Nat.le_of_ble_eq_true rfl) ?_
  refine W.eq (g2 := F0 m 4 ls []) rfl ?_
  refine lv_aload_n hx hb d_Mn_init_4 rfl (lv_at hl 0 rfl) ?_
  refine lv_iconst (v := 0) hx hb d_Mn_init_5 (by decide +kernel) ?_
  refine va_put (D := (dC, dI)) (ci := 2) (v := .int 0) (ty := .int) (C := R_Mn) (T := F_Mn) (N := 8) hx hb htb i_Mn t_Mn t_Mn_ok n_Mn hown hK hP hD hS 0 rfl rfl 0 (by decide) (htb (.fieldLink R_Mn 9 "WaterMen$Man" "state" "I") tw_107) (fun _ h9 => h9) rfl (by decide +kernel) rfl rfl (Nat.le_of_ble_eq_true rfl) d_Mn_init_6 (fun H locs hP hD hS => ?_)
  have hP : va_P (dC, dI) vwCl [(h_0, .inr (2, [.int 0, .null, .int 0, .int 0, .int 0, .int 0, .int 0, .int 0]))] H := hP
  have hD : va_D A [(h_0, .inr (2, [.int 0, .null, .int 0, .int 0, .int 0, .int 0, .int 0, .int 0]))] := hD
  refine lv_aload_n hx hb d_Mn_init_9 rfl (lv_at hl 0 rfl) ?_
  refine lv_iconst (v := (-1)) hx hb d_Mn_init_10 (by decide +kernel) ?_
  refine va_put (D := (dC, dI)) (ci := 2) (v := .int (-1)) (ty := .int) (C := R_Mn) (T := F_Mn) (N := 8) hx hb htb i_Mn t_Mn t_Mn_ok n_Mn hown hK hP hD hS 0 rfl rfl 2 (by decide) (htb (.fieldLink R_Mn 15 "WaterMen$Man" "turnStairs" "I") tw_108) (fun _ h9 => h9) rfl (by decide +kernel) rfl rfl (Nat.le_of_ble_eq_true rfl) d_Mn_init_11 (fun H locs hP hD hS => ?_)
  have hP : va_P (dC, dI) vwCl [(h_0, .inr (2, [.int 0, .null, .int (-1), .int 0, .int 0, .int 0, .int 0, .int 0]))] H := hP
  have hD : va_D A [(h_0, .inr (2, [.int 0, .null, .int (-1), .int 0, .int 0, .int 0, .int 0, .int 0]))] := hD
  refine lv_aload_n hx hb d_Mn_init_14 rfl (lv_at hl 0 rfl) ?_
  refine lv_iconst (v := (-1)) hx hb d_Mn_init_15 (by decide +kernel) ?_
  refine va_put (D := (dC, dI)) (ci := 2) (v := .int (-1)) (ty := .int) (C := R_Mn) (T := F_Mn) (N := 8) hx hb htb i_Mn t_Mn t_Mn_ok n_Mn hown hK hP hD hS 0 rfl rfl 7 (by decide) (htb (.fieldLink R_Mn 18 "WaterMen$Man" "lastSunday" "I") tw_109) (fun _ h9 => h9) rfl (by decide +kernel) rfl rfl (Nat.le_of_ble_eq_true rfl) d_Mn_init_16 (fun H locs hP hD hS => ?_)
  have hP : va_P (dC, dI) vwCl [(h_0, .inr (2, [.int 0, .null, .int (-1), .int 0, .int 0, .int 0, .int 0, .int (-1)]))] H := hP
  have hD : va_D A [(h_0, .inr (2, [.int 0, .null, .int (-1), .int 0, .int 0, .int 0, .int 0, .int (-1)]))] := hD
  refine W.widen (k := 0) (n := 0) (Nat.le_of_ble_eq_true rfl) (Nat.le_of_ble_eq_true rfl) ?_
  exact W.vret hx hb hr (fun t ht hW => ⟨⟨(), rfl, trivial, by rw [ht]; exact hP, va_K.moved hW.alike hK, by rw [hAe]; exact hD⟩, by rw [hAe]; exact hS.F ht⟩) (by rw [hAe]; exact hS.2.2) d_Mn_init_19
set_option maxHeartbeats 4000000 in
set_option maxRecDepth 100000 in
theorem c_WM_init (l : Launch) (dC : Nat → ClassId) (dI : Nat → Nat → Nat) (h_0 : Nat) (sz : Nat)   : Met l y_WM_init (.code y_WM_init b_WM_init 2 none :: TB) ({ frames := 2, cells := 58, slots := 3063, locals := 32 }) (va_Pc [.ref h_0] (PC dC dI [(h_0, .inr (0, [.null, .null, .null, .null, .null, .null, .null, .int 0, .int 0, .int 0, .int 0, .int 0, .null]))] [] sz)) (va_Qv (fun (_ : Unit) => True) (fun (_ : Unit) t => ∃ (a : Nat → Nat) (k : Nat → ClassId) (L : List Nat), a 0 = h_0 ∧ L.length = 40 ∧ va_P (dC, dI) vwCl (XW a k L) t.heap ∧ va_K (dC, dI) vwCl (XT k) t ∧ va_D (va_A [(h_0, .inr (0, [.null, .null, .null, .null, .null, .null, .null, .int 0, .int 0, .int 0, .int 0, .int 0, .null]))] sz) (XW a k L)) (va_A [(h_0, .inr (0, [.null, .null, .null, .null, .null, .null, .null, .int 0, .int 0, .int 0, .int 0, .int 0, .null]))] sz)) 58 3063 (va_A [(h_0, .inr (0, [.null, .null, .null, .null, .null, .null, .null, .int 0, .int 0, .int 0, .int 0, .int 0, .null]))] sz) := by
  refine Met.ofW (cc := b_WM_init) (maxL := 2) (ret := none) (by decide) rfl ?_
  intro p e s m args below meth c s₁ B hml hv
  obtain ⟨rfl, hsz, hP, hK, hD0, hN⟩ := hv
  have hx := B.exec
  have hb := B.bytes
  have hr := B.returns
  have hts := atoms_spec (ws := (.code y_WM_init b_WM_init 2 none :: TB)) B.pre
  have htb := fun w (h : w ∈ TB) => hts w (List.mem_cons_of_mem _ h)
  have hown : s.vm.findClass R_WM = some m.cls := findClass_of_methodNamed B.named
  have hlocks := B.notSynchronized
  have hin : meth.name = "<init>" := (name_of_methodNamed B.named B.method).1
  have hl := lv_entry ([.ref h_0]) (n := 2) (Nat.le_of_ble_eq_true rfl)
  rw [lg_entry_eq]
  generalize (lg_sl ([.ref h_0]) ++ List.replicate (2 - (lg_sl ([.ref h_0])).length) Slot.unset).toArray = ls at hl ⊢
  have hl : lv_has ls 2 [(0, .ref h_0)] := hl
  subst hsz
  have hD := hD0.self (sz := s.heap.size)
  obtain ⟨A, hAe⟩ : ∃ A, va_A [(h_0, .inr (0, [.null, .null, .null, .null, .null, .null, .null, .int 0, .int 0, .int 0, .int 0, .int 0, .null]))] s.heap.size = A := ⟨_, rfl⟩
  rw [hAe] at hD
  have hA : ∀ q : Nat, s.heap.size ≤ q → A q := fun q h => by rw [← hAe]; exact Or.inr h
  have hS : va_S A s.heap s.heap [] := va_S.rf
  have hP := hP
  refine lv_aload_n hx hb d_WM_init_0 rfl (lv_at hl 0 rfl) ?_
  refine W.objInit hx hb hown (htb (.methodLink R_WM 3 objectInit) tw_55) (htb (.instanceMethod objectInit) tw_1) (htb (.code objectInit ⟨#[0xb1]⟩ 1 none) tw_2) rfl (by rw [hml]; exact hl.1) rfl d_WM_init_1 (Nat.le_of_ble_eq_true rfl) (Nat.le_of_ble_eq_true rfl) ?_
  refine W.eq (g2 := F0 m 4 ls []) rfl ?_
  refine lv_aload_n hx hb d_WM_init_4 rfl (lv_at hl 0 rfl) ?_
  refine va_new (ci := 1) (fs := [.null, .null, .null, .null, .int 0, .int 0]) (C := R_Rv) (T := F_Rv) (N := 6) hx hb htb i_Rv t_Rv t_Rv_ok hown (htb (.classLink R_WM 9 R_Rv) tw_56) (htb (.instantiable R_Rv 6) tw_57) (htb (.initialized R_Rv) tw_58) hK hP hD hS hA rfl (df_Rv) (Nat.le_of_ble_eq_true rfl) (Nat.le_of_ble_eq_true rfl) d_WM_init_5 (fun q_1 H hP hD hS => ?_)
  have hP : va_P (dC, dI) vwCl [(h_0, .inr (0, [.null, .null, .null, .null, .null, .null, .null, .int 0, .int 0, .int 0, .int 0, .int 0, .null])), (q_1, .inr (1, [.null, .null, .null, .null, .int 0, .int 0]))] H := hP
  have hD : va_D A [(h_0, .inr (0, [.null, .null, .null, .null, .null, .null, .null, .int 0, .int 0, .int 0, .int 0, .int 0, .null])), (q_1, .inr (1, [.null, .null, .null, .null, .int 0, .int 0]))] := hD
  refine lv_dup hx hb d_WM_init_8 rfl ?_
  have hPc := hP.sub (ws' := [(q_1, .inr (1, [.null, .null, .null, .null, .int 0, .int 0]))]) [1] rfl
  have hDc := hD.sub (ws' := [(q_1, .inr (1, [.null, .null, .null, .null, .int 0, .int 0]))]) [1] (by decide) rfl
  have hKc := hK.sub (tys' := []) [] rfl
  have hFc := va_free (wc := [(q_1, .inr (1, [.null, .null, .null, .null, .int 0, .int 0]))]) hD hS hA [1] rfl
  refine va_callv (va_runIN (As := []) (rest := [.ref q_1, .ref h_0]) ⟨hx, hb, hml, hown, htb⟩ (c_Rv_init_c0 l dC dI q_1 _) ⟨va_cnB 0 htb (gd_I tw_66) rfl rfl rfl (hN.1 _ nw_0) (htb (.initialized R_Rv) tw_58) (by decide +kernel) ⟨Nat.le_of_ble_eq_true rfl, Nat.le_of_ble_eq_true rfl⟩, rfl, (htb (.instanceMethod y_Rv_init) tw_67)⟩ ⟨pc_blind, pc_pre hPc hKc hDc hN⟩ rfl rfl hl.1 rfl (lv_room (Nat.le_of_ble_eq_true rfl)) d_WM_init_9 ⟨Nat.le_of_ble_eq_true rfl, Nat.le_of_ble_eq_true rfl⟩) hS (fun q _ h => hFc q h) hFc (fun u t H1 locs ht hvm hw hB hz1 hk1 hS => ?_)
  obtain ⟨z_2, z_3, z_4, z_5, z_6, z_7, z_8, z_9, hP1, hK1, hD1⟩ := hB
  rw [ht] at hP1
  have hK1 := va_K.moved hvm.symm hK1
  obtain ⟨hP, hD⟩ := va_join (wr := [(h_0, .inr (0, [.null, .null, .null, .null, .null, .null, .null, .int 0, .int 0, .int 0, .int 0, .int 0, .null]))]) (w1 := [(q_1, .inr (1, [.ref z_2, .ref z_3, .ref z_4, .ref z_5, .int 0, .int (-1)])), (z_2, .inl (z_6, 12, .inl (fun _ => 0))), (z_3, .inl (z_7, 12, .inl (fun _ => 0))), (z_4, .inl (z_8, 500, .inr (.inr (.inr (.inr (fun _ => none)))))), (z_5, .inl (z_9, 500, .inl (fun _ => 0)))]) hP hD [1] [0] rfl rfl (by decide) (by decide) hk1 hFc hP1 hD1
  have hK := (hK.sub (tys' := []) [] rfl).app hK1
  generalize H1 = H at hP hS ⊢
  have hP : va_P (dC, dI) vwCl [(h_0, .inr (0, [.null, .null, .null, .null, .null, .null, .null, .int 0, .int 0, .int 0, .int 0, .int 0, .null])), (q_1, .inr (1, [.ref z_2, .ref z_3, .ref z_4, .ref z_5, .int 0, .int (-1)])), (z_2, .inl (z_6, 12, .inl (fun _ => 0))), (z_3, .inl (z_7, 12, .inl (fun _ => 0))), (z_4, .inl (z_8, 500, .inr (.inr (.inr (.inr (fun _ => none)))))), (z_5, .inl (z_9, 500, .inl (fun _ => 0)))] H := hP
  have hD : va_D A [(h_0, .inr (0, [.null, .null, .null, .null, .null, .null, .null, .int 0, .int 0, .int 0, .int 0, .int 0, .null])), (q_1, .inr (1, [.ref z_2, .ref z_3, .ref z_4, .ref z_5, .int 0, .int (-1)])), (z_2, .inl (z_6, 12, .inl (fun _ => 0))), (z_3, .inl (z_7, 12, .inl (fun _ => 0))), (z_4, .inl (z_8, 500, .inr (.inr (.inr (.inr (fun _ => none)))))), (z_5, .inl (z_9, 500, .inl (fun _ => 0)))] := hD
  have hK : va_K (dC, dI) vwCl [(z_6, .int), (z_7, .int), (z_8, .array .int), (z_9, .boolean)] s := hK
  refine va_putF (D := (dC, dI)) (ci := 0) (v := .ref q_1) (ty := .object "WaterMen$River") (C := R_WM) (T := F_WM) (N := 13) hx hb htb i_WM t_WM t_WM_ok n_WM hown hK hP hD hS 0 rfl rfl 0 (by decide) (htb (.fieldLink R_WM 12 "WaterMen" "river" "LWaterMen$River;") tw_68) (fun _ h9 => h9) rfl hin rfl (by decide +kernel) rfl rfl (Nat.le_of_ble_eq_true rfl) d_WM_init_12 (fun H locs hP hD hS => ?_)
  have hP : va_P (dC, dI) vwCl [(h_0, .inr (0, [.ref q_1, .null, .null, .null, .null, .null, .null, .int 0, .int 0, .int 0, .int 0, .int 0, .null])), (q_1, .inr (1, [.ref z_2, .ref z_3, .ref z_4, .ref z_5, .int 0, .int (-1)])), (z_2, .inl (z_6, 12, .inl (fun _ => 0))), (z_3, .inl (z_7, 12, .inl (fun _ => 0))), (z_4, .inl (z_8, 500, .inr (.inr (.inr (.inr (fun _ => none)))))), (z_5, .inl (z_9, 500, .inl (fun _ => 0)))] H := hP
  have hD : va_D A [(h_0, .inr (0, [.ref q_1, .null, .null, .null, .null, .null, .null, .int 0, .int 0, .int 0, .int 0, .int 0, .null])), (q_1, .inr (1, [.ref z_2, .ref z_3, .ref z_4, .ref z_5, .int 0, .int (-1)])), (z_2, .inl (z_6, 12, .inl (fun _ => 0))), (z_3, .inl (z_7, 12, .inl (fun _ => 0))), (z_4, .inl (z_8, 500, .inr (.inr (.inr (.inr (fun _ => none)))))), (z_5, .inl (z_9, 500, .inl (fun _ => 0)))] := hD
  refine lv_aload_n hx hb d_WM_init_15 rfl (lv_at hl 0 rfl) ?_
  refine lv_bipush (v := 40) hx hb d_WM_init_16 (by decide +kernel) ?_
  refine va_newq (C := R_Mn) (N' := 40) hx hb hown (htb (.classLink R_WM 16 R_Mn) tw_69) (hN.2.1 _ ao_Mn) hK hP hD hS hA (by decide +kernel) (by decide +kernel) (by decide +kernel) (Nat.le_of_ble_eq_true rfl) (Nat.le_of_ble_eq_true rfl) d_WM_init_18 (fun q_10 k_11 H hK hP hD hS => ?_)
  have hP : va_P (dC, dI) vwCl [(h_0, .inr (0, [.ref q_1, .null, .null, .null, .null, .null, .null, .int 0, .int 0, .int 0, .int 0, .int 0, .null])), (q_1, .inr (1, [.ref z_2, .ref z_3, .ref z_4, .ref z_5, .int 0, .int (-1)])), (z_2, .inl (z_6, 12, .inl (fun _ => 0))), (z_3, .inl (z_7, 12, .inl (fun _ => 0))), (z_4, .inl (z_8, 500, .inr (.inr (.inr (.inr (fun _ => none)))))), (z_5, .inl (z_9, 500, .inl (fun _ => 0))), (q_10, .inl (k_11, 40, .inr (.inr (.inr (.inr (fun _ => none))))))] H := hP
  have hD : va_D A [(h_0, .inr (0, [.ref q_1, .null, .null, .null, .null, .null, .null, .int 0, .int 0, .int 0, .int 0, .int 0, .null])), (q_1, .inr (1, [.ref z_2, .ref z_3, .ref z_4, .ref z_5, .int 0, .int (-1)])), (z_2, .inl (z_6, 12, .inl (fun _ => 0))), (z_3, .inl (z_7, 12, .inl (fun _ => 0))), (z_4, .inl (z_8, 500, .inr (.inr (.inr (.inr (fun _ => none)))))), (z_5, .inl (z_9, 500, .inl (fun _ => 0))), (q_10, .inl (k_11, 40, .inr (.inr (.inr (.inr (fun _ => none))))))] := hD
  refine va_putF (D := (dC, dI)) (ci := 0) (v := .ref q_10) (ty := .array (.object "WaterMen$Man")) (C := R_WM) (T := F_WM) (N := 13) hx hb htb i_WM t_WM t_WM_ok n_WM hown hK hP hD hS 0 rfl rfl 1 (by decide) (htb (.fieldLink R_WM 18 "WaterMen" "men" "[LWaterMen$Man;") tw_70) (fun _ h9 => h9) rfl hin rfl (by decide +kernel) rfl rfl (Nat.le_of_ble_eq_true rfl) d_WM_init_21 (fun H locs hP hD hS => ?_)
  have hP : va_P (dC, dI) vwCl [(h_0, .inr (0, [.ref q_1, .ref q_10, .null, .null, .null, .null, .null, .int 0, .int 0, .int 0, .int 0, .int 0, .null])), (q_1, .inr (1, [.ref z_2, .ref z_3, .ref z_4, .ref z_5, .int 0, .int (-1)])), (z_2, .inl (z_6, 12, .inl (fun _ => 0))), (z_3, .inl (z_7, 12, .inl (fun _ => 0))), (z_4, .inl (z_8, 500, .inr (.inr (.inr (.inr (fun _ => none)))))), (z_5, .inl (z_9, 500, .inl (fun _ => 0))), (q_10, .inl (k_11, 40, .inr (.inr (.inr (.inr (fun _ => none))))))] H := hP
  have hD : va_D A [(h_0, .inr (0, [.ref q_1, .ref q_10, .null, .null, .null, .null, .null, .int 0, .int 0, .int 0, .int 0, .int 0, .null])), (q_1, .inr (1, [.ref z_2, .ref z_3, .ref z_4, .ref z_5, .int 0, .int (-1)])), (z_2, .inl (z_6, 12, .inl (fun _ => 0))), (z_3, .inl (z_7, 12, .inl (fun _ => 0))), (z_4, .inl (z_8, 500, .inr (.inr (.inr (.inr (fun _ => none)))))), (z_5, .inl (z_9, 500, .inl (fun _ => 0))), (q_10, .inl (k_11, 40, .inr (.inr (.inr (.inr (fun _ => none))))))] := hD
  refine lv_aload_n hx hb d_WM_init_24 rfl (lv_at hl 0 rfl) ?_
  refine lv_bipush (v := 20) hx hb d_WM_init_25 (by decide +kernel) ?_
  refine va_newq (C := R_Bt) (N' := 20) hx hb hown (htb (.classLink R_WM 22 R_Bt) tw_71) (hN.2.1 _ ao_Bt) hK hP hD hS hA (by decide +kernel) (by decide +kernel) (by decide +kernel) (Nat.le_of_ble_eq_true rfl) (Nat.le_of_ble_eq_true rfl) d_WM_init_27 (fun q_12 k_13 H hK hP hD hS => ?_)
  have hP : va_P (dC, dI) vwCl [(h_0, .inr (0, [.ref q_1, .ref q_10, .null, .null, .null, .null, .null, .int 0, .int 0, .int 0, .int 0, .int 0, .null])), (q_1, .inr (1, [.ref z_2, .ref z_3, .ref z_4, .ref z_5, .int 0, .int (-1)])), (z_2, .inl (z_6, 12, .inl (fun _ => 0))), (z_3, .inl (z_7, 12, .inl (fun _ => 0))), (z_4, .inl (z_8, 500, .inr (.inr (.inr (.inr (fun _ => none)))))), (z_5, .inl (z_9, 500, .inl (fun _ => 0))), (q_10, .inl (k_11, 40, .inr (.inr (.inr (.inr (fun _ => none)))))), (q_12, .inl (k_13, 20, .inr (.inr (.inr (.inr (fun _ => none))))))] H := hP
  have hD : va_D A [(h_0, .inr (0, [.ref q_1, .ref q_10, .null, .null, .null, .null, .null, .int 0, .int 0, .int 0, .int 0, .int 0, .null])), (q_1, .inr (1, [.ref z_2, .ref z_3, .ref z_4, .ref z_5, .int 0, .int (-1)])), (z_2, .inl (z_6, 12, .inl (fun _ => 0))), (z_3, .inl (z_7, 12, .inl (fun _ => 0))), (z_4, .inl (z_8, 500, .inr (.inr (.inr (.inr (fun _ => none)))))), (z_5, .inl (z_9, 500, .inl (fun _ => 0))), (q_10, .inl (k_11, 40, .inr (.inr (.inr (.inr (fun _ => none)))))), (q_12, .inl (k_13, 20, .inr (.inr (.inr (.inr (fun _ => none))))))] := hD
  refine va_putF (D := (dC, dI)) (ci := 0) (v := .ref q_12) (ty := .array (.object "WaterMen$Boat")) (C := R_WM) (T := F_WM) (N := 13) hx hb htb i_WM t_WM t_WM_ok n_WM hown hK hP hD hS 0 rfl rfl 2 (by decide) (htb (.fieldLink R_WM 24 "WaterMen" "boats" "[LWaterMen$Boat;") tw_72) (fun _ h9 => h9) rfl hin rfl (by decide +kernel) rfl rfl (Nat.le_of_ble_eq_true rfl) d_WM_init_30 (fun H locs hP hD hS => ?_)
  have hP : va_P (dC, dI) vwCl [(h_0, .inr (0, [.ref q_1, .ref q_10, .ref q_12, .null, .null, .null, .null, .int 0, .int 0, .int 0, .int 0, .int 0, .null])), (q_1, .inr (1, [.ref z_2, .ref z_3, .ref z_4, .ref z_5, .int 0, .int (-1)])), (z_2, .inl (z_6, 12, .inl (fun _ => 0))), (z_3, .inl (z_7, 12, .inl (fun _ => 0))), (z_4, .inl (z_8, 500, .inr (.inr (.inr (.inr (fun _ => none)))))), (z_5, .inl (z_9, 500, .inl (fun _ => 0))), (q_10, .inl (k_11, 40, .inr (.inr (.inr (.inr (fun _ => none)))))), (q_12, .inl (k_13, 20, .inr (.inr (.inr (.inr (fun _ => none))))))] H := hP
  have hD : va_D A [(h_0, .inr (0, [.ref q_1, .ref q_10, .ref q_12, .null, .null, .null, .null, .int 0, .int 0, .int 0, .int 0, .int 0, .null])), (q_1, .inr (1, [.ref z_2, .ref z_3, .ref z_4, .ref z_5, .int 0, .int (-1)])), (z_2, .inl (z_6, 12, .inl (fun _ => 0))), (z_3, .inl (z_7, 12, .inl (fun _ => 0))), (z_4, .inl (z_8, 500, .inr (.inr (.inr (.inr (fun _ => none)))))), (z_5, .inl (z_9, 500, .inl (fun _ => 0))), (q_10, .inl (k_11, 40, .inr (.inr (.inr (.inr (fun _ => none)))))), (q_12, .inl (k_13, 20, .inr (.inr (.inr (.inr (fun _ => none))))))] := hD
  refine lv_aload_n hx hb d_WM_init_33 rfl (lv_at hl 0 rfl) ?_
  refine lv_bipush (v := 20) hx hb d_WM_init_34 (by decide +kernel) ?_
  refine va_newq (C := R_Or) (N' := 20) hx hb hown (htb (.classLink R_WM 28 R_Or) tw_73) (hN.2.1 _ ao_Or) hK hP hD hS hA (by decide +kernel) (by decide +kernel) (by decide +kernel) (Nat.le_of_ble_eq_true rfl) (Nat.le_of_ble_eq_true rfl) d_WM_init_36 (fun q_14 k_15 H hK hP hD hS => ?_)
  have hP : va_P (dC, dI) vwCl [(h_0, .inr (0, [.ref q_1, .ref q_10, .ref q_12, .null, .null, .null, .null, .int 0, .int 0, .int 0, .int 0, .int 0, .null])), (q_1, .inr (1, [.ref z_2, .ref z_3, .ref z_4, .ref z_5, .int 0, .int (-1)])), (z_2, .inl (z_6, 12, .inl (fun _ => 0))), (z_3, .inl (z_7, 12, .inl (fun _ => 0))), (z_4, .inl (z_8, 500, .inr (.inr (.inr (.inr (fun _ => none)))))), (z_5, .inl (z_9, 500, .inl (fun _ => 0))), (q_10, .inl (k_11, 40, .inr (.inr (.inr (.inr (fun _ => none)))))), (q_12, .inl (k_13, 20, .inr (.inr (.inr (.inr (fun _ => none)))))), (q_14, .inl (k_15, 20, .inr (.inr (.inr (.inr (fun _ => none))))))] H := hP
  have hD : va_D A [(h_0, .inr (0, [.ref q_1, .ref q_10, .ref q_12, .null, .null, .null, .null, .int 0, .int 0, .int 0, .int 0, .int 0, .null])), (q_1, .inr (1, [.ref z_2, .ref z_3, .ref z_4, .ref z_5, .int 0, .int (-1)])), (z_2, .inl (z_6, 12, .inl (fun _ => 0))), (z_3, .inl (z_7, 12, .inl (fun _ => 0))), (z_4, .inl (z_8, 500, .inr (.inr (.inr (.inr (fun _ => none)))))), (z_5, .inl (z_9, 500, .inl (fun _ => 0))), (q_10, .inl (k_11, 40, .inr (.inr (.inr (.inr (fun _ => none)))))), (q_12, .inl (k_13, 20, .inr (.inr (.inr (.inr (fun _ => none)))))), (q_14, .inl (k_15, 20, .inr (.inr (.inr (.inr (fun _ => none))))))] := hD
  refine va_putF (D := (dC, dI)) (ci := 0) (v := .ref q_14) (ty := .array (.object "WaterMen$Order")) (C := R_WM) (T := F_WM) (N := 13) hx hb htb i_WM t_WM t_WM_ok n_WM hown hK hP hD hS 0 rfl rfl 3 (by decide) (htb (.fieldLink R_WM 30 "WaterMen" "orders" "[LWaterMen$Order;") tw_74) (fun _ h9 => h9) rfl hin rfl (by decide +kernel) rfl rfl (Nat.le_of_ble_eq_true rfl) d_WM_init_39 (fun H locs hP hD hS => ?_)
  have hP : va_P (dC, dI) vwCl [(h_0, .inr (0, [.ref q_1, .ref q_10, .ref q_12, .ref q_14, .null, .null, .null, .int 0, .int 0, .int 0, .int 0, .int 0, .null])), (q_1, .inr (1, [.ref z_2, .ref z_3, .ref z_4, .ref z_5, .int 0, .int (-1)])), (z_2, .inl (z_6, 12, .inl (fun _ => 0))), (z_3, .inl (z_7, 12, .inl (fun _ => 0))), (z_4, .inl (z_8, 500, .inr (.inr (.inr (.inr (fun _ => none)))))), (z_5, .inl (z_9, 500, .inl (fun _ => 0))), (q_10, .inl (k_11, 40, .inr (.inr (.inr (.inr (fun _ => none)))))), (q_12, .inl (k_13, 20, .inr (.inr (.inr (.inr (fun _ => none)))))), (q_14, .inl (k_15, 20, .inr (.inr (.inr (.inr (fun _ => none))))))] H := hP
  have hD : va_D A [(h_0, .inr (0, [.ref q_1, .ref q_10, .ref q_12, .ref q_14, .null, .null, .null, .int 0, .int 0, .int 0, .int 0, .int 0, .null])), (q_1, .inr (1, [.ref z_2, .ref z_3, .ref z_4, .ref z_5, .int 0, .int (-1)])), (z_2, .inl (z_6, 12, .inl (fun _ => 0))), (z_3, .inl (z_7, 12, .inl (fun _ => 0))), (z_4, .inl (z_8, 500, .inr (.inr (.inr (.inr (fun _ => none)))))), (z_5, .inl (z_9, 500, .inl (fun _ => 0))), (q_10, .inl (k_11, 40, .inr (.inr (.inr (.inr (fun _ => none)))))), (q_12, .inl (k_13, 20, .inr (.inr (.inr (.inr (fun _ => none)))))), (q_14, .inl (k_15, 20, .inr (.inr (.inr (.inr (fun _ => none))))))] := hD
  refine lv_aload_n hx hb d_WM_init_42 rfl (lv_at hl 0 rfl) ?_
  refine lv_sipush (v := 600) hx hb d_WM_init_43 (by decide +kernel) ?_
  refine va_newq (C := R_Tr) (N' := 600) hx hb hown (htb (.classLink R_WM 34 R_Tr) tw_75) (hN.2.1 _ ao_Tr) hK hP hD hS hA (by decide +kernel) (by decide +kernel) (by decide +kernel) (Nat.le_of_ble_eq_true rfl) (Nat.le_of_ble_eq_true rfl) d_WM_init_46 (fun q_16 k_17 H hK hP hD hS => ?_)
  have hP : va_P (dC, dI) vwCl [(h_0, .inr (0, [.ref q_1, .ref q_10, .ref q_12, .ref q_14, .null, .null, .null, .int 0, .int 0, .int 0, .int 0, .int 0, .null])), (q_1, .inr (1, [.ref z_2, .ref z_3, .ref z_4, .ref z_5, .int 0, .int (-1)])), (z_2, .inl (z_6, 12, .inl (fun _ => 0))), (z_3, .inl (z_7, 12, .inl (fun _ => 0))), (z_4, .inl (z_8, 500, .inr (.inr (.inr (.inr (fun _ => none)))))), (z_5, .inl (z_9, 500, .inl (fun _ => 0))), (q_10, .inl (k_11, 40, .inr (.inr (.inr (.inr (fun _ => none)))))), (q_12, .inl (k_13, 20, .inr (.inr (.inr (.inr (fun _ => none)))))), (q_14, .inl (k_15, 20, .inr (.inr (.inr (.inr (fun _ => none)))))), (q_16, .inl (k_17, 600, .inr (.inr (.inr (.inr (fun _ => none))))))] H := hP
  have hD : va_D A [(h_0, .inr (0, [.ref q_1, .ref q_10, .ref q_12, .ref q_14, .null, .null, .null, .int 0, .int 0, .int 0, .int 0, .int 0, .null])), (q_1, .inr (1, [.ref z_2, .ref z_3, .ref z_4, .ref z_5, .int 0, .int (-1)])), (z_2, .inl (z_6, 12, .inl (fun _ => 0))), (z_3, .inl (z_7, 12, .inl (fun _ => 0))), (z_4, .inl (z_8, 500, .inr (.inr (.inr (.inr (fun _ => none)))))), (z_5, .inl (z_9, 500, .inl (fun _ => 0))), (q_10, .inl (k_11, 40, .inr (.inr (.inr (.inr (fun _ => none)))))), (q_12, .inl (k_13, 20, .inr (.inr (.inr (.inr (fun _ => none)))))), (q_14, .inl (k_15, 20, .inr (.inr (.inr (.inr (fun _ => none)))))), (q_16, .inl (k_17, 600, .inr (.inr (.inr (.inr (fun _ => none))))))] := hD
  refine va_putF (D := (dC, dI)) (ci := 0) (v := .ref q_16) (ty := .array (.object "WaterMen$Trip")) (C := R_WM) (T := F_WM) (N := 13) hx hb htb i_WM t_WM t_WM_ok n_WM hown hK hP hD hS 0 rfl rfl 4 (by decide) (htb (.fieldLink R_WM 36 "WaterMen" "trips" "[LWaterMen$Trip;") tw_76) (fun _ h9 => h9) rfl hin rfl (by decide +kernel) rfl rfl (Nat.le_of_ble_eq_true rfl) d_WM_init_49 (fun H locs hP hD hS => ?_)
  have hP : va_P (dC, dI) vwCl [(h_0, .inr (0, [.ref q_1, .ref q_10, .ref q_12, .ref q_14, .ref q_16, .null, .null, .int 0, .int 0, .int 0, .int 0, .int 0, .null])), (q_1, .inr (1, [.ref z_2, .ref z_3, .ref z_4, .ref z_5, .int 0, .int (-1)])), (z_2, .inl (z_6, 12, .inl (fun _ => 0))), (z_3, .inl (z_7, 12, .inl (fun _ => 0))), (z_4, .inl (z_8, 500, .inr (.inr (.inr (.inr (fun _ => none)))))), (z_5, .inl (z_9, 500, .inl (fun _ => 0))), (q_10, .inl (k_11, 40, .inr (.inr (.inr (.inr (fun _ => none)))))), (q_12, .inl (k_13, 20, .inr (.inr (.inr (.inr (fun _ => none)))))), (q_14, .inl (k_15, 20, .inr (.inr (.inr (.inr (fun _ => none)))))), (q_16, .inl (k_17, 600, .inr (.inr (.inr (.inr (fun _ => none))))))] H := hP
  have hD : va_D A [(h_0, .inr (0, [.ref q_1, .ref q_10, .ref q_12, .ref q_14, .ref q_16, .null, .null, .int 0, .int 0, .int 0, .int 0, .int 0, .null])), (q_1, .inr (1, [.ref z_2, .ref z_3, .ref z_4, .ref z_5, .int 0, .int (-1)])), (z_2, .inl (z_6, 12, .inl (fun _ => 0))), (z_3, .inl (z_7, 12, .inl (fun _ => 0))), (z_4, .inl (z_8, 500, .inr (.inr (.inr (.inr (fun _ => none)))))), (z_5, .inl (z_9, 500, .inl (fun _ => 0))), (q_10, .inl (k_11, 40, .inr (.inr (.inr (.inr (fun _ => none)))))), (q_12, .inl (k_13, 20, .inr (.inr (.inr (.inr (fun _ => none)))))), (q_14, .inl (k_15, 20, .inr (.inr (.inr (.inr (fun _ => none)))))), (q_16, .inl (k_17, 600, .inr (.inr (.inr (.inr (fun _ => none))))))] := hD
  refine lv_aload_n hx hb d_WM_init_52 rfl (lv_at hl 0 rfl) ?_
  refine va_new (ci := 4) (fs := [.null, .int 0, .int 0, .int 0, .int 0, .int 0]) (C := R_Tp) (T := F_Tp) (N := 6) hx hb htb i_Tp t_Tp t_Tp_ok hown (htb (.classLink R_WM 40 R_Tp) tw_77) (htb (.instantiable R_Tp 6) tw_78) (htb (.initialized R_Tp) tw_79) hK hP hD hS hA rfl (df_Tp) (Nat.le_of_ble_eq_true rfl) (Nat.le_of_ble_eq_true rfl) d_WM_init_53 (fun q_18 H hP hD hS => ?_)
  have hP : va_P (dC, dI) vwCl [(h_0, .inr (0, [.ref q_1, .ref q_10, .ref q_12, .ref q_14, .ref q_16, .null, .null, .int 0, .int 0, .int 0, .int 0, .int 0, .null])), (q_1, .inr (1, [.ref z_2, .ref z_3, .ref z_4, .ref z_5, .int 0, .int (-1)])), (z_2, .inl (z_6, 12, .inl (fun _ => 0))), (z_3, .inl (z_7, 12, .inl (fun _ => 0))), (z_4, .inl (z_8, 500, .inr (.inr (.inr (.inr (fun _ => none)))))), (z_5, .inl (z_9, 500, .inl (fun _ => 0))), (q_10, .inl (k_11, 40, .inr (.inr (.inr (.inr (fun _ => none)))))), (q_12, .inl (k_13, 20, .inr (.inr (.inr (.inr (fun _ => none)))))), (q_14, .inl (k_15, 20, .inr (.inr (.inr (.inr (fun _ => none)))))), (q_16, .inl (k_17, 600, .inr (.inr (.inr (.inr (fun _ => none)))))), (q_18, .inr (4, [.null, .int 0, .int 0, .int 0, .int 0, .int 0]))] H := hP
  have hD : va_D A [(h_0, .inr (0, [.ref q_1, .ref q_10, .ref q_12, .ref q_14, .ref q_16, .null, .null, .int 0, .int 0, .int 0, .int 0, .int 0, .null])), (q_1, .inr (1, [.ref z_2, .ref z_3, .ref z_4, .ref z_5, .int 0, .int (-1)])), (z_2, .inl (z_6, 12, .inl (fun _ => 0))), (z_3, .inl (z_7, 12, .inl (fun _ => 0))), (z_4, .inl (z_8, 500, .inr (.inr (.inr (.inr (fun _ => none)))))), (z_5, .inl (z_9, 500, .inl (fun _ => 0))), (q_10, .inl (k_11, 40, .inr (.inr (.inr (.inr (fun _ => none)))))), (q_12, .inl (k_13, 20, .inr (.inr (.inr (.inr (fun _ => none)))))), (q_14, .inl (k_15, 20, .inr (.inr (.inr (.inr (fun _ => none)))))), (q_16, .inl (k_17, 600, .inr (.inr (.inr (.inr (fun _ => none)))))), (q_18, .inr (4, [.null, .int 0, .int 0, .int 0, .int 0, .int 0]))] := hD
  refine lv_dup hx hb d_WM_init_56 rfl ?_
  have hPc := hP.sub (ws' := [(q_18, .inr (4, [.null, .int 0, .int 0, .int 0, .int 0, .int 0]))]) [10] rfl
  have hDc := hD.sub (ws' := [(q_18, .inr (4, [.null, .int 0, .int 0, .int 0, .int 0, .int 0]))]) [10] (by decide) rfl
  have hKc := hK.sub (tys' := []) [] rfl
  have hFc := va_free (wc := [(q_18, .inr (4, [.null, .int 0, .int 0, .int 0, .int 0, .int 0]))]) hD hS hA [10] rfl
  refine va_callv (va_runIN (As := []) (rest := [.ref q_18, .ref h_0]) ⟨hx, hb, hml, hown, htb⟩ (c_Tp_init_c1 l dC dI q_18 _) ⟨va_cnB 0 htb (gd_I tw_82) rfl rfl rfl (hN.1 _ nw_1) (htb (.initialized R_Tp) tw_79) (by decide +kernel) ⟨Nat.le_of_ble_eq_true rfl, Nat.le_of_ble_eq_true rfl⟩, rfl, (htb (.instanceMethod y_Tp_init) tw_83)⟩ ⟨pc_blind, pc_pre hPc hKc hDc hN⟩ rfl rfl hl.1 rfl (lv_room (Nat.le_of_ble_eq_true rfl)) d_WM_init_57 ⟨Nat.le_of_ble_eq_true rfl, Nat.le_of_ble_eq_true rfl⟩) hS (fun q _ h => hFc q h) hFc (fun u t H1 locs ht hvm hw hB hz1 hk1 hS => ?_)
  obtain ⟨z_19, z_20, hP1, hK1, hD1⟩ := hB
  rw [ht] at hP1
  have hK1 := va_K.moved hvm.symm hK1
  obtain ⟨hP, hD⟩ := va_join (wr := [(h_0, .inr (0, [.ref q_1, .ref q_10, .ref q_12, .ref q_14, .ref q_16, .null, .null, .int 0, .int 0, .int 0, .int 0, .int 0, .null])), (q_1, .inr (1, [.ref z_2, .ref z_3, .ref z_4, .ref z_5, .int 0, .int (-1)])), (z_2, .inl (z_6, 12, .inl (fun _ => 0))), (z_3, .inl (z_7, 12, .inl (fun _ => 0))), (z_4, .inl (z_8, 500, .inr (.inr (.inr (.inr (fun _ => none)))))), (z_5, .inl (z_9, 500, .inl (fun _ => 0))), (q_10, .inl (k_11, 40, .inr (.inr (.inr (.inr (fun _ => none)))))), (q_12, .inl (k_13, 20, .inr (.inr (.inr (.inr (fun _ => none)))))), (q_14, .inl (k_15, 20, .inr (.inr (.inr (.inr (fun _ => none)))))), (q_16, .inl (k_17, 600, .inr (.inr (.inr (.inr (fun _ => none))))))]) (w1 := [(q_18, .inr (4, [.ref z_19, .int 0, .int 0, .int 0, .int 0, .int 0])), (z_19, .inl (z_20, 400, .inl (fun _ => 0)))]) hP hD [10] [0, 1, 2, 3, 4, 5, 6, 7, 8, 9] rfl rfl (by decide) (by decide) hk1 hFc hP1 hD1
  have hK := (hK.sub (tys' := [(z_6, .int), (z_7, .int), (z_8, .array .int), (z_9, .boolean), (k_11, .object R_Mn), (k_13, .object R_Bt), (k_15, .object R_Or), (k_17, .object R_Tr)]) [0, 1, 2, 3, 4, 5, 6, 7] rfl).app hK1
  generalize H1 = H at hP hS ⊢
  have hP : va_P (dC, dI) vwCl [(h_0, .inr (0, [.ref q_1, .ref q_10, .ref q_12, .ref q_14, .ref q_16, .null, .null, .int 0, .int 0, .int 0, .int 0, .int 0, .null])), (q_1, .inr (1, [.ref z_2, .ref z_3, .ref z_4, .ref z_5, .int 0, .int (-1)])), (z_2, .inl (z_6, 12, .inl (fun _ => 0))), (z_3, .inl (z_7, 12, .inl (fun _ => 0))), (z_4, .inl (z_8, 500, .inr (.inr (.inr (.inr (fun _ => none)))))), (z_5, .inl (z_9, 500, .inl (fun _ => 0))), (q_10, .inl (k_11, 40, .inr (.inr (.inr (.inr (fun _ => none)))))), (q_12, .inl (k_13, 20, .inr (.inr (.inr (.inr (fun _ => none)))))), (q_14, .inl (k_15, 20, .inr (.inr (.inr (.inr (fun _ => none)))))), (q_16, .inl (k_17, 600, .inr (.inr (.inr (.inr (fun _ => none)))))), (q_18, .inr (4, [.ref z_19, .int 0, .int 0, .int 0, .int 0, .int 0])), (z_19, .inl (z_20, 400, .inl (fun _ => 0)))] H := hP
  have hD : va_D A [(h_0, .inr (0, [.ref q_1, .ref q_10, .ref q_12, .ref q_14, .ref q_16, .null, .null, .int 0, .int 0, .int 0, .int 0, .int 0, .null])), (q_1, .inr (1, [.ref z_2, .ref z_3, .ref z_4, .ref z_5, .int 0, .int (-1)])), (z_2, .inl (z_6, 12, .inl (fun _ => 0))), (z_3, .inl (z_7, 12, .inl (fun _ => 0))), (z_4, .inl (z_8, 500, .inr (.inr (.inr (.inr (fun _ => none)))))), (z_5, .inl (z_9, 500, .inl (fun _ => 0))), (q_10, .inl (k_11, 40, .inr (.inr (.inr (.inr (fun _ => none)))))), (q_12, .inl (k_13, 20, .inr (.inr (.inr (.inr (fun _ => none)))))), (q_14, .inl (k_15, 20, .inr (.inr (.inr (.inr (fun _ => none)))))), (q_16, .inl (k_17, 600, .inr (.inr (.inr (.inr (fun _ => none)))))), (q_18, .inr (4, [.ref z_19, .int 0, .int 0, .int 0, .int 0, .int 0])), (z_19, .inl (z_20, 400, .inl (fun _ => 0)))] := hD
  have hK : va_K (dC, dI) vwCl [(z_6, .int), (z_7, .int), (z_8, .array .int), (z_9, .boolean), (k_11, .object R_Mn), (k_13, .object R_Bt), (k_15, .object R_Or), (k_17, .object R_Tr), (z_20, .byte)] s := hK
  refine va_putF (D := (dC, dI)) (ci := 0) (v := .ref q_18) (ty := .object "WaterMen$Tape") (C := R_WM) (T := F_WM) (N := 13) hx hb htb i_WM t_WM t_WM_ok n_WM hown hK hP hD hS 0 rfl rfl 5 (by decide) (htb (.fieldLink R_WM 43 "WaterMen" "tape" "LWaterMen$Tape;") tw_84) (fun _ h9 => h9) rfl hin rfl (by decide +kernel) rfl rfl (Nat.le_of_ble_eq_true rfl) d_WM_init_60 (fun H locs hP hD hS => ?_)
  have hP : va_P (dC, dI) vwCl [(h_0, .inr (0, [.ref q_1, .ref q_10, .ref q_12, .ref q_14, .ref q_16, .ref q_18, .null, .int 0, .int 0, .int 0, .int 0, .int 0, .null])), (q_1, .inr (1, [.ref z_2, .ref z_3, .ref z_4, .ref z_5, .int 0, .int (-1)])), (z_2, .inl (z_6, 12, .inl (fun _ => 0))), (z_3, .inl (z_7, 12, .inl (fun _ => 0))), (z_4, .inl (z_8, 500, .inr (.inr (.inr (.inr (fun _ => none)))))), (z_5, .inl (z_9, 500, .inl (fun _ => 0))), (q_10, .inl (k_11, 40, .inr (.inr (.inr (.inr (fun _ => none)))))), (q_12, .inl (k_13, 20, .inr (.inr (.inr (.inr (fun _ => none)))))), (q_14, .inl (k_15, 20, .inr (.inr (.inr (.inr (fun _ => none)))))), (q_16, .inl (k_17, 600, .inr (.inr (.inr (.inr (fun _ => none)))))), (q_18, .inr (4, [.ref z_19, .int 0, .int 0, .int 0, .int 0, .int 0])), (z_19, .inl (z_20, 400, .inl (fun _ => 0)))] H := hP
  have hD : va_D A [(h_0, .inr (0, [.ref q_1, .ref q_10, .ref q_12, .ref q_14, .ref q_16, .ref q_18, .null, .int 0, .int 0, .int 0, .int 0, .int 0, .null])), (q_1, .inr (1, [.ref z_2, .ref z_3, .ref z_4, .ref z_5, .int 0, .int (-1)])), (z_2, .inl (z_6, 12, .inl (fun _ => 0))), (z_3, .inl (z_7, 12, .inl (fun _ => 0))), (z_4, .inl (z_8, 500, .inr (.inr (.inr (.inr (fun _ => none)))))), (z_5, .inl (z_9, 500, .inl (fun _ => 0))), (q_10, .inl (k_11, 40, .inr (.inr (.inr (.inr (fun _ => none)))))), (q_12, .inl (k_13, 20, .inr (.inr (.inr (.inr (fun _ => none)))))), (q_14, .inl (k_15, 20, .inr (.inr (.inr (.inr (fun _ => none)))))), (q_16, .inl (k_17, 600, .inr (.inr (.inr (.inr (fun _ => none)))))), (q_18, .inr (4, [.ref z_19, .int 0, .int 0, .int 0, .int 0, .int 0])), (z_19, .inl (z_20, 400, .inl (fun _ => 0)))] := hD
  refine lv_aload_n hx hb d_WM_init_63 rfl (lv_at hl 0 rfl) ?_
  refine va_new (ci := 5) (fs := [.int 0, .int 0, .int 0, .int 0, .null, .null, .int 0]) (C := R_Bx) (T := F_Bx) (N := 7) hx hb htb i_Bx t_Bx t_Bx_ok hown (htb (.classLink R_WM 47 R_Bx) tw_85) (htb (.instantiable R_Bx 7) tw_86) (htb (.initialized R_Bx) tw_87) hK hP hD hS hA rfl (df_Bx) (Nat.le_of_ble_eq_true rfl) (Nat.le_of_ble_eq_true rfl) d_WM_init_64 (fun q_21 H hP hD hS => ?_)
  have hP : va_P (dC, dI) vwCl [(h_0, .inr (0, [.ref q_1, .ref q_10, .ref q_12, .ref q_14, .ref q_16, .ref q_18, .null, .int 0, .int 0, .int 0, .int 0, .int 0, .null])), (q_1, .inr (1, [.ref z_2, .ref z_3, .ref z_4, .ref z_5, .int 0, .int (-1)])), (z_2, .inl (z_6, 12, .inl (fun _ => 0))), (z_3, .inl (z_7, 12, .inl (fun _ => 0))), (z_4, .inl (z_8, 500, .inr (.inr (.inr (.inr (fun _ => none)))))), (z_5, .inl (z_9, 500, .inl (fun _ => 0))), (q_10, .inl (k_11, 40, .inr (.inr (.inr (.inr (fun _ => none)))))), (q_12, .inl (k_13, 20, .inr (.inr (.inr (.inr (fun _ => none)))))), (q_14, .inl (k_15, 20, .inr (.inr (.inr (.inr (fun _ => none)))))), (q_16, .inl (k_17, 600, .inr (.inr (.inr (.inr (fun _ => none)))))), (q_18, .inr (4, [.ref z_19, .int 0, .int 0, .int 0, .int 0, .int 0])), (z_19, .inl (z_20, 400, .inl (fun _ => 0))), (q_21, .inr (5, [.int 0, .int 0, .int 0, .int 0, .null, .null, .int 0]))] H := hP
  have hD : va_D A [(h_0, .inr (0, [.ref q_1, .ref q_10, .ref q_12, .ref q_14, .ref q_16, .ref q_18, .null, .int 0, .int 0, .int 0, .int 0, .int 0, .null])), (q_1, .inr (1, [.ref z_2, .ref z_3, .ref z_4, .ref z_5, .int 0, .int (-1)])), (z_2, .inl (z_6, 12, .inl (fun _ => 0))), (z_3, .inl (z_7, 12, .inl (fun _ => 0))), (z_4, .inl (z_8, 500, .inr (.inr (.inr (.inr (fun _ => none)))))), (z_5, .inl (z_9, 500, .inl (fun _ => 0))), (q_10, .inl (k_11, 40, .inr (.inr (.inr (.inr (fun _ => none)))))), (q_12, .inl (k_13, 20, .inr (.inr (.inr (.inr (fun _ => none)))))), (q_14, .inl (k_15, 20, .inr (.inr (.inr (.inr (fun _ => none)))))), (q_16, .inl (k_17, 600, .inr (.inr (.inr (.inr (fun _ => none)))))), (q_18, .inr (4, [.ref z_19, .int 0, .int 0, .int 0, .int 0, .int 0])), (z_19, .inl (z_20, 400, .inl (fun _ => 0))), (q_21, .inr (5, [.int 0, .int 0, .int 0, .int 0, .null, .null, .int 0]))] := hD
  refine lv_dup hx hb d_WM_init_67 rfl ?_
  have hPc := hP.sub (ws' := [(q_21, .inr (5, [.int 0, .int 0, .int 0, .int 0, .null, .null, .int 0]))]) [12] rfl
  have hDc := hD.sub (ws' := [(q_21, .inr (5, [.int 0, .int 0, .int 0, .int 0, .null, .null, .int 0]))]) [12] (by decide) rfl
  have hKc := hK.sub (tys' := []) [] rfl
  have hFc := va_free (wc := [(q_21, .inr (5, [.int 0, .int 0, .int 0, .int 0, .null, .null, .int 0]))]) hD hS hA [12] rfl
  refine va_callv (va_runIN (As := []) (rest := [.ref q_21, .ref h_0]) ⟨hx, hb, hml, hown, htb⟩ (c_Bx_init_c2 l dC dI q_21 _) ⟨va_cnB 0 htb (gd_I tw_92) rfl rfl rfl (hN.1 _ nw_2) (htb (.initialized R_Bx) tw_87) (by decide +kernel) ⟨Nat.le_of_ble_eq_true rfl, Nat.le_of_ble_eq_true rfl⟩, rfl, (htb (.instanceMethod y_Bx_init) tw_93)⟩ ⟨pc_blind, pc_pre hPc hKc hDc hN⟩ rfl rfl hl.1 rfl (lv_room (Nat.le_of_ble_eq_true rfl)) d_WM_init_68 ⟨Nat.le_of_ble_eq_true rfl, Nat.le_of_ble_eq_true rfl⟩) hS (fun q _ h => hFc q h) hFc (fun u t H1 locs ht hvm hw hB hz1 hk1 hS => ?_)
  obtain ⟨z_22, z_23, z_24, z_25, hP1, hK1, hD1⟩ := hB
  rw [ht] at hP1
  have hK1 := va_K.moved hvm.symm hK1
  obtain ⟨hP, hD⟩ := va_join (wr := [(h_0, .inr (0, [.ref q_1, .ref q_10, .ref q_12, .ref q_14, .ref q_16, .ref q_18, .null, .int 0, .int 0, .int 0, .int 0, .int 0, .null])), (q_1, .inr (1, [.ref z_2, .ref z_3, .ref z_4, .ref z_5, .int 0, .int (-1)])), (z_2, .inl (z_6, 12, .inl (fun _ => 0))), (z_3, .inl (z_7, 12, .inl (fun _ => 0))), (z_4, .inl (z_8, 500, .inr (.inr (.inr (.inr (fun _ => none)))))), (z_5, .inl (z_9, 500, .inl (fun _ => 0))), (q_10, .inl (k_11, 40, .inr (.inr (.inr (.inr (fun _ => none)))))), (q_12, .inl (k_13, 20, .inr (.inr (.inr (.inr (fun _ => none)))))), (q_14, .inl (k_15, 20, .inr (.inr (.inr (.inr (fun _ => none)))))), (q_16, .inl (k_17, 600, .inr (.inr (.inr (.inr (fun _ => none)))))), (q_18, .inr (4, [.ref z_19, .int 0, .int 0, .int 0, .int 0, .int 0])), (z_19, .inl (z_20, 400, .inl (fun _ => 0)))]) (w1 := [(q_21, .inr (5, [.int 0, .int 0, .int 0, .int 0, .ref z_22, .ref z_23, .int 0])), (z_22, .inl (z_24, 500, .inl (fun _ => 0))), (z_23, .inl (z_25, 30, .inr (.inr (.inr (.inr (fun _ => none))))))]) hP hD [12] [0, 1, 2, 3, 4, 5, 6, 7, 8, 9, 10, 11] rfl rfl (by decide) (by decide) hk1 hFc hP1 hD1
  have hK := (hK.sub (tys' := [(z_6, .int), (z_7, .int), (z_8, .array .int), (z_9, .boolean), (k_11, .object R_Mn), (k_13, .object R_Bt), (k_15, .object R_Or), (k_17, .object R_Tr), (z_20, .byte)]) [0, 1, 2, 3, 4, 5, 6, 7, 8] rfl).app hK1
  generalize H1 = H at hP hS ⊢
  have hP : va_P (dC, dI) vwCl [(h_0, .inr (0, [.ref q_1, .ref q_10, .ref q_12, .ref q_14, .ref q_16, .ref q_18, .null, .int 0, .int 0, .int 0, .int 0, .int 0, .null])), (q_1, .inr (1, [.ref z_2, .ref z_3, .ref z_4, .ref z_5, .int 0, .int (-1)])), (z_2, .inl (z_6, 12, .inl (fun _ => 0))), (z_3, .inl (z_7, 12, .inl (fun _ => 0))), (z_4, .inl (z_8, 500, .inr (.inr (.inr (.inr (fun _ => none)))))), (z_5, .inl (z_9, 500, .inl (fun _ => 0))), (q_10, .inl (k_11, 40, .inr (.inr (.inr (.inr (fun _ => none)))))), (q_12, .inl (k_13, 20, .inr (.inr (.inr (.inr (fun _ => none)))))), (q_14, .inl (k_15, 20, .inr (.inr (.inr (.inr (fun _ => none)))))), (q_16, .inl (k_17, 600, .inr (.inr (.inr (.inr (fun _ => none)))))), (q_18, .inr (4, [.ref z_19, .int 0, .int 0, .int 0, .int 0, .int 0])), (z_19, .inl (z_20, 400, .inl (fun _ => 0))), (q_21, .inr (5, [.int 0, .int 0, .int 0, .int 0, .ref z_22, .ref z_23, .int 0])), (z_22, .inl (z_24, 500, .inl (fun _ => 0))), (z_23, .inl (z_25, 30, .inr (.inr (.inr (.inr (fun _ => none))))))] H := hP
  have hD : va_D A [(h_0, .inr (0, [.ref q_1, .ref q_10, .ref q_12, .ref q_14, .ref q_16, .ref q_18, .null, .int 0, .int 0, .int 0, .int 0, .int 0, .null])), (q_1, .inr (1, [.ref z_2, .ref z_3, .ref z_4, .ref z_5, .int 0, .int (-1)])), (z_2, .inl (z_6, 12, .inl (fun _ => 0))), (z_3, .inl (z_7, 12, .inl (fun _ => 0))), (z_4, .inl (z_8, 500, .inr (.inr (.inr (.inr (fun _ => none)))))), (z_5, .inl (z_9, 500, .inl (fun _ => 0))), (q_10, .inl (k_11, 40, .inr (.inr (.inr (.inr (fun _ => none)))))), (q_12, .inl (k_13, 20, .inr (.inr (.inr (.inr (fun _ => none)))))), (q_14, .inl (k_15, 20, .inr (.inr (.inr (.inr (fun _ => none)))))), (q_16, .inl (k_17, 600, .inr (.inr (.inr (.inr (fun _ => none)))))), (q_18, .inr (4, [.ref z_19, .int 0, .int 0, .int 0, .int 0, .int 0])), (z_19, .inl (z_20, 400, .inl (fun _ => 0))), (q_21, .inr (5, [.int 0, .int 0, .int 0, .int 0, .ref z_22, .ref z_23, .int 0])), (z_22, .inl (z_24, 500, .inl (fun _ => 0))), (z_23, .inl (z_25, 30, .inr (.inr (.inr (.inr (fun _ => none))))))] := hD
  have hK : va_K (dC, dI) vwCl [(z_6, .int), (z_7, .int), (z_8, .array .int), (z_9, .boolean), (k_11, .object R_Mn), (k_13, .object R_Bt), (k_15, .object R_Or), (k_17, .object R_Tr), (z_20, .byte), (z_24, .int), (z_25, .object R_Pn)] s := hK
  refine va_putF (D := (dC, dI)) (ci := 0) (v := .ref q_21) (ty := .object "WaterMen$Box") (C := R_WM) (T := F_WM) (N := 13) hx hb htb i_WM t_WM t_WM_ok n_WM hown hK hP hD hS 0 rfl rfl 6 (by decide) (htb (.fieldLink R_WM 50 "WaterMen" "box" "LWaterMen$Box;") tw_94) (fun _ h9 => h9) rfl hin rfl (by decide +kernel) rfl rfl (Nat.le_of_ble_eq_true rfl) d_WM_init_71 (fun H locs hP hD hS => ?_)
  have hP : va_P (dC, dI) vwCl [(h_0, .inr (0, [.ref q_1, .ref q_10, .ref q_12, .ref q_14, .ref q_16, .ref q_18, .ref q_21, .int 0, .int 0, .int 0, .int 0, .int 0, .null])), (q_1, .inr (1, [.ref z_2, .ref z_3, .ref z_4, .ref z_5, .int 0, .int (-1)])), (z_2, .inl (z_6, 12, .inl (fun _ => 0))), (z_3, .inl (z_7, 12, .inl (fun _ => 0))), (z_4, .inl (z_8, 500, .inr (.inr (.inr (.inr (fun _ => none)))))), (z_5, .inl (z_9, 500, .inl (fun _ => 0))), (q_10, .inl (k_11, 40, .inr (.inr (.inr (.inr (fun _ => none)))))), (q_12, .inl (k_13, 20, .inr (.inr (.inr (.inr (fun _ => none)))))), (q_14, .inl (k_15, 20, .inr (.inr (.inr (.inr (fun _ => none)))))), (q_16, .inl (k_17, 600, .inr (.inr (.inr (.inr (fun _ => none)))))), (q_18, .inr (4, [.ref z_19, .int 0, .int 0, .int 0, .int 0, .int 0])), (z_19, .inl (z_20, 400, .inl (fun _ => 0))), (q_21, .inr (5, [.int 0, .int 0, .int 0, .int 0, .ref z_22, .ref z_23, .int 0])), (z_22, .inl (z_24, 500, .inl (fun _ => 0))), (z_23, .inl (z_25, 30, .inr (.inr (.inr (.inr (fun _ => none))))))] H := hP
  have hD : va_D A [(h_0, .inr (0, [.ref q_1, .ref q_10, .ref q_12, .ref q_14, .ref q_16, .ref q_18, .ref q_21, .int 0, .int 0, .int 0, .int 0, .int 0, .null])), (q_1, .inr (1, [.ref z_2, .ref z_3, .ref z_4, .ref z_5, .int 0, .int (-1)])), (z_2, .inl (z_6, 12, .inl (fun _ => 0))), (z_3, .inl (z_7, 12, .inl (fun _ => 0))), (z_4, .inl (z_8, 500, .inr (.inr (.inr (.inr (fun _ => none)))))), (z_5, .inl (z_9, 500, .inl (fun _ => 0))), (q_10, .inl (k_11, 40, .inr (.inr (.inr (.inr (fun _ => none)))))), (q_12, .inl (k_13, 20, .inr (.inr (.inr (.inr (fun _ => none)))))), (q_14, .inl (k_15, 20, .inr (.inr (.inr (.inr (fun _ => none)))))), (q_16, .inl (k_17, 600, .inr (.inr (.inr (.inr (fun _ => none)))))), (q_18, .inr (4, [.ref z_19, .int 0, .int 0, .int 0, .int 0, .int 0])), (z_19, .inl (z_20, 400, .inl (fun _ => 0))), (q_21, .inr (5, [.int 0, .int 0, .int 0, .int 0, .ref z_22, .ref z_23, .int 0])), (z_22, .inl (z_24, 500, .inl (fun _ => 0))), (z_23, .inl (z_25, 30, .inr (.inr (.inr (.inr (fun _ => none))))))] := hD
  refine lv_aload_n hx hb d_WM_init_74 rfl (lv_at hl 0 rfl) ?_
  refine va_new (ci := 3) (fs := [.int 0, .int 0, .null, .null, .null, .int 0, .int 0, .int 0, .int 0]) (C := R_Or) (T := F_Or) (N := 9) hx hb htb i_Or t_Or t_Or_ok hown (htb (.classLink R_WM 28 R_Or) tw_73) (htb (.instantiable R_Or 9) tw_95) (htb (.initialized R_Or) tw_96) hK hP hD hS hA rfl (df_Or) (Nat.le_of_ble_eq_true rfl) (Nat.le_of_ble_eq_true rfl) d_WM_init_75 (fun q_26 H hP hD hS => ?_)
  have hP : va_P (dC, dI) vwCl [(h_0, .inr (0, [.ref q_1, .ref q_10, .ref q_12, .ref q_14, .ref q_16, .ref q_18, .ref q_21, .int 0, .int 0, .int 0, .int 0, .int 0, .null])), (q_1, .inr (1, [.ref z_2, .ref z_3, .ref z_4, .ref z_5, .int 0, .int (-1)])), (z_2, .inl (z_6, 12, .inl (fun _ => 0))), (z_3, .inl (z_7, 12, .inl (fun _ => 0))), (z_4, .inl (z_8, 500, .inr (.inr (.inr (.inr (fun _ => none)))))), (z_5, .inl (z_9, 500, .inl (fun _ => 0))), (q_10, .inl (k_11, 40, .inr (.inr (.inr (.inr (fun _ => none)))))), (q_12, .inl (k_13, 20, .inr (.inr (.inr (.inr (fun _ => none)))))), (q_14, .inl (k_15, 20, .inr (.inr (.inr (.inr (fun _ => none)))))), (q_16, .inl (k_17, 600, .inr (.inr (.inr (.inr (fun _ => none)))))), (q_18, .inr (4, [.ref z_19, .int 0, .int 0, .int 0, .int 0, .int 0])), (z_19, .inl (z_20, 400, .inl (fun _ => 0))), (q_21, .inr (5, [.int 0, .int 0, .int 0, .int 0, .ref z_22, .ref z_23, .int 0])), (z_22, .inl (z_24, 500, .inl (fun _ => 0))), (z_23, .inl (z_25, 30, .inr (.inr (.inr (.inr (fun _ => none)))))), (q_26, .inr (3, [.int 0, .int 0, .null, .null, .null, .int 0, .int 0, .int 0, .int 0]))] H := hP
  have hD : va_D A [(h_0, .inr (0, [.ref q_1, .ref q_10, .ref q_12, .ref q_14, .ref q_16, .ref q_18, .ref q_21, .int 0, .int 0, .int 0, .int 0, .int 0, .null])), (q_1, .inr (1, [.ref z_2, .ref z_3, .ref z_4, .ref z_5, .int 0, .int (-1)])), (z_2, .inl (z_6, 12, .inl (fun _ => 0))), (z_3, .inl (z_7, 12, .inl (fun _ => 0))), (z_4, .inl (z_8, 500, .inr (.inr (.inr (.inr (fun _ => none)))))), (z_5, .inl (z_9, 500, .inl (fun _ => 0))), (q_10, .inl (k_11, 40, .inr (.inr (.inr (.inr (fun _ => none)))))), (q_12, .inl (k_13, 20, .inr (.inr (.inr (.inr (fun _ => none)))))), (q_14, .inl (k_15, 20, .inr (.inr (.inr (.inr (fun _ => none)))))), (q_16, .inl (k_17, 600, .inr (.inr (.inr (.inr (fun _ => none)))))), (q_18, .inr (4, [.ref z_19, .int 0, .int 0, .int 0, .int 0, .int 0])), (z_19, .inl (z_20, 400, .inl (fun _ => 0))), (q_21, .inr (5, [.int 0, .int 0, .int 0, .int 0, .ref z_22, .ref z_23, .int 0])), (z_22, .inl (z_24, 500, .inl (fun _ => 0))), (z_23, .inl (z_25, 30, .inr (.inr (.inr (.inr (fun _ => none)))))), (q_26, .inr (3, [.int 0, .int 0, .null, .null, .null, .int 0, .int 0, .int 0, .int 0]))] := hD
  refine lv_dup hx hb d_WM_init_78 rfl ?_
  have hPc := hP.sub (ws' := [(q_26, .inr (3, [.int 0, .int 0, .null, .null, .null, .int 0, .int 0, .int 0, .int 0]))]) [15] rfl
  have hDc := hD.sub (ws' := [(q_26, .inr (3, [.int 0, .int 0, .null, .null, .null, .int 0, .int 0, .int 0, .int 0]))]) [15] (by decide) rfl
  have hKc := hK.sub (tys' := []) [] rfl
  have hFc := va_free (wc := [(q_26, .inr (3, [.int 0, .int 0, .null, .null, .null, .int 0, .int 0, .int 0, .int 0]))]) hD hS hA [15] rfl
  refine va_callv (va_runIN (As := []) (rest := [.ref q_26, .ref h_0]) ⟨hx, hb, hml, hown, htb⟩ (c_Or_init_c3 l dC dI q_26 _) ⟨va_cnB 0 htb (gd_I tw_101) rfl rfl rfl (hN.1 _ nw_3) (htb (.initialized R_Or) tw_96) (by decide +kernel) ⟨Nat.le_of_ble_eq_true rfl, Nat.le_of_ble_eq_true rfl⟩, rfl, (htb (.instanceMethod y_Or_init) tw_102)⟩ ⟨pc_blind, pc_pre hPc hKc hDc hN⟩ rfl rfl hl.1 rfl (lv_room (Nat.le_of_ble_eq_true rfl)) d_WM_init_79 ⟨Nat.le_of_ble_eq_true rfl, Nat.le_of_ble_eq_true rfl⟩) hS (fun q _ h => hFc q h) hFc (fun u t H1 locs ht hvm hw hB hz1 hk1 hS => ?_)
  obtain ⟨z_27, z_28, z_29, z_30, z_31, z_32, hP1, hK1, hD1⟩ := hB
  rw [ht] at hP1
  have hK1 := va_K.moved hvm.symm hK1
  obtain ⟨hP, hD⟩ := va_join (wr := [(h_0, .inr (0, [.ref q_1, .ref q_10, .ref q_12, .ref q_14, .ref q_16, .ref q_18, .ref q_21, .int 0, .int 0, .int 0, .int 0, .int 0, .null])), (q_1, .inr (1, [.ref z_2, .ref z_3, .ref z_4, .ref z_5, .int 0, .int (-1)])), (z_2, .inl (z_6, 12, .inl (fun _ => 0))), (z_3, .inl (z_7, 12, .inl (fun _ => 0))), (z_4, .inl (z_8, 500, .inr (.inr (.inr (.inr (fun _ => none)))))), (z_5, .inl (z_9, 500, .inl (fun _ => 0))), (q_10, .inl (k_11, 40, .inr (.inr (.inr (.inr (fun _ => none)))))), (q_12, .inl (k_13, 20, .inr (.inr (.inr (.inr (fun _ => none)))))), (q_14, .inl (k_15, 20, .inr (.inr (.inr (.inr (fun _ => none)))))), (q_16, .inl (k_17, 600, .inr (.inr (.inr (.inr (fun _ => none)))))), (q_18, .inr (4, [.ref z_19, .int 0, .int 0, .int 0, .int 0, .int 0])), (z_19, .inl (z_20, 400, .inl (fun _ => 0))), (q_21, .inr (5, [.int 0, .int 0, .int 0, .int 0, .ref z_22, .ref z_23, .int 0])), (z_22, .inl (z_24, 500, .inl (fun _ => 0))), (z_23, .inl (z_25, 30, .inr (.inr (.inr (.inr (fun _ => none))))))]) (w1 := [(q_26, .inr (3, [.int 0, .int 0, .ref z_27, .ref z_28, .ref z_29, .int 0, .int 0, .int 0, .int 0])), (z_27, .inl (z_30, 36, .inl (fun _ => 0))), (z_28, .inl (z_31, 36, .inl (fun _ => 0))), (z_29, .inl (z_32, 9, .inl (fun _ => 0)))]) hP hD [15] [0, 1, 2, 3, 4, 5, 6, 7, 8, 9, 10, 11, 12, 13, 14] rfl rfl (by decide) (by decide) hk1 hFc hP1 hD1
  have hK := (hK.sub (tys' := [(z_6, .int), (z_7, .int), (z_8, .array .int), (z_9, .boolean), (k_11, .object R_Mn), (k_13, .object R_Bt), (k_15, .object R_Or), (k_17, .object R_Tr), (z_20, .byte), (z_24, .int), (z_25, .object R_Pn)]) [0, 1, 2, 3, 4, 5, 6, 7, 8, 9, 10] rfl).app hK1
  generalize H1 = H at hP hS ⊢
  have hP : va_P (dC, dI) vwCl [(h_0, .inr (0, [.ref q_1, .ref q_10, .ref q_12, .ref q_14, .ref q_16, .ref q_18, .ref q_21, .int 0, .int 0, .int 0, .int 0, .int 0, .null])), (q_1, .inr (1, [.ref z_2, .ref z_3, .ref z_4, .ref z_5, .int 0, .int (-1)])), (z_2, .inl (z_6, 12, .inl (fun _ => 0))), (z_3, .inl (z_7, 12, .inl (fun _ => 0))), (z_4, .inl (z_8, 500, .inr (.inr (.inr (.inr (fun _ => none)))))), (z_5, .inl (z_9, 500, .inl (fun _ => 0))), (q_10, .inl (k_11, 40, .inr (.inr (.inr (.inr (fun _ => none)))))), (q_12, .inl (k_13, 20, .inr (.inr (.inr (.inr (fun _ => none)))))), (q_14, .inl (k_15, 20, .inr (.inr (.inr (.inr (fun _ => none)))))), (q_16, .inl (k_17, 600, .inr (.inr (.inr (.inr (fun _ => none)))))), (q_18, .inr (4, [.ref z_19, .int 0, .int 0, .int 0, .int 0, .int 0])), (z_19, .inl (z_20, 400, .inl (fun _ => 0))), (q_21, .inr (5, [.int 0, .int 0, .int 0, .int 0, .ref z_22, .ref z_23, .int 0])), (z_22, .inl (z_24, 500, .inl (fun _ => 0))), (z_23, .inl (z_25, 30, .inr (.inr (.inr (.inr (fun _ => none)))))), (q_26, .inr (3, [.int 0, .int 0, .ref z_27, .ref z_28, .ref z_29, .int 0, .int 0, .int 0, .int 0])), (z_27, .inl (z_30, 36, .inl (fun _ => 0))), (z_28, .inl (z_31, 36, .inl (fun _ => 0))), (z_29, .inl (z_32, 9, .inl (fun _ => 0)))] H := hP
  have hD : va_D A [(h_0, .inr (0, [.ref q_1, .ref q_10, .ref q_12, .ref q_14, .ref q_16, .ref q_18, .ref q_21, .int 0, .int 0, .int 0, .int 0, .int 0, .null])), (q_1, .inr (1, [.ref z_2, .ref z_3, .ref z_4, .ref z_5, .int 0, .int (-1)])), (z_2, .inl (z_6, 12, .inl (fun _ => 0))), (z_3, .inl (z_7, 12, .inl (fun _ => 0))), (z_4, .inl (z_8, 500, .inr (.inr (.inr (.inr (fun _ => none)))))), (z_5, .inl (z_9, 500, .inl (fun _ => 0))), (q_10, .inl (k_11, 40, .inr (.inr (.inr (.inr (fun _ => none)))))), (q_12, .inl (k_13, 20, .inr (.inr (.inr (.inr (fun _ => none)))))), (q_14, .inl (k_15, 20, .inr (.inr (.inr (.inr (fun _ => none)))))), (q_16, .inl (k_17, 600, .inr (.inr (.inr (.inr (fun _ => none)))))), (q_18, .inr (4, [.ref z_19, .int 0, .int 0, .int 0, .int 0, .int 0])), (z_19, .inl (z_20, 400, .inl (fun _ => 0))), (q_21, .inr (5, [.int 0, .int 0, .int 0, .int 0, .ref z_22, .ref z_23, .int 0])), (z_22, .inl (z_24, 500, .inl (fun _ => 0))), (z_23, .inl (z_25, 30, .inr (.inr (.inr (.inr (fun _ => none)))))), (q_26, .inr (3, [.int 0, .int 0, .ref z_27, .ref z_28, .ref z_29, .int 0, .int 0, .int 0, .int 0])), (z_27, .inl (z_30, 36, .inl (fun _ => 0))), (z_28, .inl (z_31, 36, .inl (fun _ => 0))), (z_29, .inl (z_32, 9, .inl (fun _ => 0)))] := hD
  have hK : va_K (dC, dI) vwCl [(z_6, .int), (z_7, .int), (z_8, .array .int), (z_9, .boolean), (k_11, .object R_Mn), (k_13, .object R_Bt), (k_15, .object R_Or), (k_17, .object R_Tr), (z_20, .byte), (z_24, .int), (z_25, .object R_Pn), (z_30, .int), (z_31, .int), (z_32, .int)] s := hK
  refine va_put (D := (dC, dI)) (ci := 0) (v := .ref q_26) (ty := .object "WaterMen$Order") (C := R_WM) (T := F_WM) (N := 13) hx hb htb i_WM t_WM t_WM_ok n_WM hown hK hP hD hS 0 rfl rfl 12 (by decide) (htb (.fieldLink R_WM 55 "WaterMen" "draft" "LWaterMen$Order;") tw_103) (fun _ h9 => h9) rfl (by decide +kernel) rfl rfl (Nat.le_of_ble_eq_true rfl) d_WM_init_82 (fun H locs hP hD hS => ?_)
  have hP : va_P (dC, dI) vwCl [(h_0, .inr (0, [.ref q_1, .ref q_10, .ref q_12, .ref q_14, .ref q_16, .ref q_18, .ref q_21, .int 0, .int 0, .int 0, .int 0, .int 0, .ref q_26])), (q_1, .inr (1, [.ref z_2, .ref z_3, .ref z_4, .ref z_5, .int 0, .int (-1)])), (z_2, .inl (z_6, 12, .inl (fun _ => 0))), (z_3, .inl (z_7, 12, .inl (fun _ => 0))), (z_4, .inl (z_8, 500, .inr (.inr (.inr (.inr (fun _ => none)))))), (z_5, .inl (z_9, 500, .inl (fun _ => 0))), (q_10, .inl (k_11, 40, .inr (.inr (.inr (.inr (fun _ => none)))))), (q_12, .inl (k_13, 20, .inr (.inr (.inr (.inr (fun _ => none)))))), (q_14, .inl (k_15, 20, .inr (.inr (.inr (.inr (fun _ => none)))))), (q_16, .inl (k_17, 600, .inr (.inr (.inr (.inr (fun _ => none)))))), (q_18, .inr (4, [.ref z_19, .int 0, .int 0, .int 0, .int 0, .int 0])), (z_19, .inl (z_20, 400, .inl (fun _ => 0))), (q_21, .inr (5, [.int 0, .int 0, .int 0, .int 0, .ref z_22, .ref z_23, .int 0])), (z_22, .inl (z_24, 500, .inl (fun _ => 0))), (z_23, .inl (z_25, 30, .inr (.inr (.inr (.inr (fun _ => none)))))), (q_26, .inr (3, [.int 0, .int 0, .ref z_27, .ref z_28, .ref z_29, .int 0, .int 0, .int 0, .int 0])), (z_27, .inl (z_30, 36, .inl (fun _ => 0))), (z_28, .inl (z_31, 36, .inl (fun _ => 0))), (z_29, .inl (z_32, 9, .inl (fun _ => 0)))] H := hP
  have hD : va_D A [(h_0, .inr (0, [.ref q_1, .ref q_10, .ref q_12, .ref q_14, .ref q_16, .ref q_18, .ref q_21, .int 0, .int 0, .int 0, .int 0, .int 0, .ref q_26])), (q_1, .inr (1, [.ref z_2, .ref z_3, .ref z_4, .ref z_5, .int 0, .int (-1)])), (z_2, .inl (z_6, 12, .inl (fun _ => 0))), (z_3, .inl (z_7, 12, .inl (fun _ => 0))), (z_4, .inl (z_8, 500, .inr (.inr (.inr (.inr (fun _ => none)))))), (z_5, .inl (z_9, 500, .inl (fun _ => 0))), (q_10, .inl (k_11, 40, .inr (.inr (.inr (.inr (fun _ => none)))))), (q_12, .inl (k_13, 20, .inr (.inr (.inr (.inr (fun _ => none)))))), (q_14, .inl (k_15, 20, .inr (.inr (.inr (.inr (fun _ => none)))))), (q_16, .inl (k_17, 600, .inr (.inr (.inr (.inr (fun _ => none)))))), (q_18, .inr (4, [.ref z_19, .int 0, .int 0, .int 0, .int 0, .int 0])), (z_19, .inl (z_20, 400, .inl (fun _ => 0))), (q_21, .inr (5, [.int 0, .int 0, .int 0, .int 0, .ref z_22, .ref z_23, .int 0])), (z_22, .inl (z_24, 500, .inl (fun _ => 0))), (z_23, .inl (z_25, 30, .inr (.inr (.inr (.inr (fun _ => none)))))), (q_26, .inr (3, [.int 0, .int 0, .ref z_27, .ref z_28, .ref z_29, .int 0, .int 0, .int 0, .int 0])), (z_27, .inl (z_30, 36, .inl (fun _ => 0))), (z_28, .inl (z_31, 36, .inl (fun _ => 0))), (z_29, .inl (z_32, 9, .inl (fun _ => 0)))] := hD
  refine lv_iconst (v := 0) hx hb d_WM_init_85 (by decide +kernel) ?_
  refine lv_istore_n (lv' := [(1, .int 0), (0, .ref h_0)]) hx hb d_WM_init_86 rfl hl (by decide) rfl (fun ls hl => ?_)
  have loop : ∀ (n i : Nat) (H : Heap) (locs : List Loc) (L : List Nat) (fm : Nat → Option Nat), i + n = 40 → L.length = i → (∀ j, fm j = L[j]?) → va_P (dC, dI) vwCl ([(h_0, .inr (0, [.ref q_1, .ref q_10, .ref q_12, .ref q_14, .ref q_16, .ref q_18, .ref q_21, .int 0, .int 0, .int 0, .int 0, .int 0, .ref q_26])), (q_1, .inr (1, [.ref z_2, .ref z_3, .ref z_4, .ref z_5, .int 0, .int (-1)])), (z_2, .inl (z_6, 12, .inl (fun _ => 0))), (z_3, .inl (z_7, 12, .inl (fun _ => 0))), (z_4, .inl (z_8, 500, .inr (.inr (.inr (.inr (fun _ => none)))))), (z_5, .inl (z_9, 500, .inl (fun _ => 0))), (q_10, .inl (k_11, 40, .inr (.inr (.inr (.inr fm))))), (q_12, .inl (k_13, 20, .inr (.inr (.inr (.inr (fun _ => none)))))), (q_14, .inl (k_15, 20, .inr (.inr (.inr (.inr (fun _ => none)))))), (q_16, .inl (k_17, 600, .inr (.inr (.inr (.inr (fun _ => none)))))), (q_18, .inr (4, [.ref z_19, .int 0, .int 0, .int 0, .int 0, .int 0])), (z_19, .inl (z_20, 400, .inl (fun _ => 0))), (q_21, .inr (5, [.int 0, .int 0, .int 0, .int 0, .ref z_22, .ref z_23, .int 0])), (z_22, .inl (z_24, 500, .inl (fun _ => 0))), (z_23, .inl (z_25, 30, .inr (.inr (.inr (.inr (fun _ => none)))))), (q_26, .inr (3, [.int 0, .int 0, .ref z_27, .ref z_28, .ref z_29, .int 0, .int 0, .int 0, .int 0])), (z_27, .inl (z_30, 36, .inl (fun _ => 0))), (z_28, .inl (z_31, 36, .inl (fun _ => 0))), (z_29, .inl (z_32, 9, .inl (fun _ => 0)))] ++ va_pl L (fun _ => .inr (2, manF))) H → va_D A ([(h_0, .inr (0, [.ref q_1, .ref q_10, .ref q_12, .ref q_14, .ref q_16, .ref q_18, .ref q_21, .int 0, .int 0, .int 0, .int 0, .int 0, .ref q_26])), (q_1, .inr (1, [.ref z_2, .ref z_3, .ref z_4, .ref z_5, .int 0, .int (-1)])), (z_2, .inl (z_6, 12, .inl (fun _ => 0))), (z_3, .inl (z_7, 12, .inl (fun _ => 0))), (z_4, .inl (z_8, 500, .inr (.inr (.inr (.inr (fun _ => none)))))), (z_5, .inl (z_9, 500, .inl (fun _ => 0))), (q_10, .inl (k_11, 40, .inr (.inr (.inr (.inr fm))))), (q_12, .inl (k_13, 20, .inr (.inr (.inr (.inr (fun _ => none)))))), (q_14, .inl (k_15, 20, .inr (.inr (.inr (.inr (fun _ => none)))))), (q_16, .inl (k_17, 600, .inr (.inr (.inr (.inr (fun _ => none)))))), (q_18, .inr (4, [.ref z_19, .int 0, .int 0, .int 0, .int 0, .int 0])), (z_19, .inl (z_20, 400, .inl (fun _ => 0))), (q_21, .inr (5, [.int 0, .int 0, .int 0, .int 0, .ref z_22, .ref z_23, .int 0])), (z_22, .inl (z_24, 500, .inl (fun _ => 0))), (z_23, .inl (z_25, 30, .inr (.inr (.inr (.inr (fun _ => none)))))), (q_26, .inr (3, [.int 0, .int 0, .ref z_27, .ref z_28, .ref z_29, .int 0, .int 0, .int 0, .int 0])), (z_27, .inl (z_30, 36, .inl (fun _ => 0))), (z_28, .inl (z_31, 36, .inl (fun _ => 0))), (z_29, .inl (z_32, 9, .inl (fun _ => 0)))] ++ va_pl L (fun _ => .inr (2, manF))) → va_S A s.heap H locs → ∀ ls : Array Slot, lv_has ls 2 [(1, .int (nI i)), (0, .ref h_0)] → W p l e (headSpec (.code y_WM_init b_WM_init 2 none :: TB) ({ frames := 2, cells := 58, slots := 3063, locals := 32 })).room s m [.ref h_0].toArray below meth c H locs (18 + i) (2743 + 8 * i) (MQ below (va_Qv (fun (_ : Unit) => True) (fun (_ : Unit) t => ∃ (a : Nat → Nat) (k : Nat → ClassId) (L : List Nat), a 0 = h_0 ∧ L.length = 40 ∧ va_P (dC, dI) vwCl (XW a k L) t.heap ∧ va_K (dC, dI) vwCl (XT k) t ∧ va_D (va_A [(h_0, .inr (0, [.null, .null, .null, .null, .null, .null, .null, .int 0, .int 0, .int 0, .int 0, .int 0, .null]))] s.heap.size) (XW a k L)) (va_A [(h_0, .inr (0, [.null, .null, .null, .null, .null, .null, .null, .int 0, .int 0, .int 0, .int 0, .int 0, .null]))] s.heap.size)) [.ref h_0].toArray s 58 3063 (va_A [(h_0, .inr (0, [.null, .null, .null, .null, .null, .null, .null, .int 0, .int 0, .int 0, .int 0, .int 0, .null]))] s.heap.size)) (F0 m 87 ls []) := by
    intro n
    induction n with
    | zero =>
      intro i H locs L fm hj hLn hfm hP hD hS ls hl
      refine lv_iload_n hx hb d_WM_init_87 rfl (lv_at hl 0 rfl) ?_
      refine lv_bipush (v := 40) hx hb d_WM_init_88 (by decide +kernel) ?_
      refine lv_icmp_ge (tgt := 112) hx hb d_WM_init_90 (by decide) (fun _ => ?_) (fun h => absurd (show (40 : Int32) ≤ nI i from nI_le (a := 40) (by omega) (by omega)) h)
      obtain rfl : fm = fun j => L[j]? := funext hfm
      refine W.widen (k := 58) (n := 3063) (by omega) (by omega) ?_
      have hPX : va_P (dC, dI) vwCl (XW (fun i => ([h_0, q_1, z_2, z_3, z_4, z_5, q_10, q_12, q_14, q_16, q_18, z_19, q_21, z_22, z_23, q_26, z_27, z_28, z_29] : List Nat).getD i 0) (fun i => ([0, 0, z_6, z_7, z_8, z_9, k_11, k_13, k_15, k_17, 0, z_20, 0, z_24, z_25, 0, z_30, z_31, z_32] : List ClassId).getD i 0) L) H := hP.part [0, 1, 2, 3, 4, 5, 6, 7, 8, 9, 10, 11, 12, 13, 14, 15, 16, 17, 18] rfl
      have hDX : va_D A (XW (fun i => ([h_0, q_1, z_2, z_3, z_4, z_5, q_10, q_12, q_14, q_16, q_18, z_19, q_21, z_22, z_23, q_26, z_27, z_28, z_29] : List Nat).getD i 0) (fun i => ([0, 0, z_6, z_7, z_8, z_9, k_11, k_13, k_15, k_17, 0, z_20, 0, z_24, z_25, 0, z_30, z_31, z_32] : List ClassId).getD i 0) L) := hD.part [0, 1, 2, 3, 4, 5, 6, 7, 8, 9, 10, 11, 12, 13, 14, 15, 16, 17, 18] (by decide) rfl
      have hKX : va_K (dC, dI) vwCl (XT (fun i => ([0, 0, z_6, z_7, z_8, z_9, k_11, k_13, k_15, k_17, 0, z_20, 0, z_24, z_25, 0, z_30, z_31, z_32] : List ClassId).getD i 0)) s := hK.sub [0, 1, 2, 3, 4, 5, 6, 7, 8, 9, 10, 11, 12, 13] rfl
      exact W.vret hx hb hr (fun t ht hW => ⟨⟨(), rfl, trivial, _, _, L, rfl, by omega, by rw [ht]; exact hPX, va_K.moved hW.alike hKX, by rw [hAe]; exact hDX⟩, by rw [hAe]; exact hS.F ht⟩) (by rw [hAe]; exact hS.2.2) d_WM_init_112
    | succ n ih =>
      intro i H locs L fm hj hLn hfm hP hD hS ls hl
      refine lv_iload_n hx hb d_WM_init_87 rfl (lv_at hl 0 rfl) ?_
      refine lv_bipush (v := 40) hx hb d_WM_init_88 (by decide +kernel) ?_
      refine lv_icmp_ge (tgt := 112) hx hb d_WM_init_90 (by decide) (fun h => absurd h (show ¬ (40 : Int32) ≤ nI i from nI_ge (b := 40) (by omega) (by omega))) (fun _ => ?_)
      refine lv_aload_n hx hb d_WM_init_93 rfl (lv_at hl 1 rfl) ?_
      refine va_get (D := (dC, dI)) (ci := 0) (v := .ref q_10) (C := R_WM) (T := F_WM) (N := 13) hx hb htb i_WM hown hK hP 0 rfl rfl 1 (by decide) (htb (.fieldLink R_WM 18 "WaterMen" "men" "[LWaterMen$Man;") tw_70) (fun _ h9 => h9) rfl d_WM_init_94 ?_
      refine lv_iload_n hx hb d_WM_init_97 rfl (lv_at hl 0 rfl) ?_
      refine va_new (ci := 2) (fs := [.int 0, .null, .int 0, .int 0, .int 0, .int 0, .int 0, .int 0]) (C := R_Mn) (T := F_Mn) (N := 8) hx hb htb i_Mn t_Mn t_Mn_ok hown (htb (.classLink R_WM 16 R_Mn) tw_69) (htb (.instantiable R_Mn 8) tw_104) (htb (.initialized R_Mn) tw_105) hK hP hD hS hA rfl df_Mn (by show 18 + i + 1 ≤ 58; omega) (by show 2743 + 8 * i + 8 ≤ 3063; omega) d_WM_init_98 (fun q H hP hD hS => ?_)
      refine lv_dup hx hb d_WM_init_101 rfl ?_
      have hPc : va_P (dC, dI) vwCl [(q, .inr (2, [.int 0, .null, .int 0, .int 0, .int 0, .int 0, .int 0, .int 0]))] H := hb_right hP
      have hDc : va_D A [(q, .inr (2, [.int 0, .null, .int 0, .int 0, .int 0, .int 0, .int 0, .int 0]))] := hb_rightD hD
      have hKc : va_K (dC, dI) vwCl [] s := hK.sub [] rfl
      have hFc := hb_free hDc hS hA
      refine va_callv (va_runIN (As := []) (rest := [.ref q, .int (nI i), .ref q_10]) ⟨hx, hb, hml, hown, htb⟩ (c_Mn_init_c4 l dC dI q _) ⟨va_cnB 0 htb (gd_I tw_110) rfl rfl rfl (hN.1 _ nw_4) (htb (.initialized R_Mn) tw_105) (by decide +kernel) ⟨Nat.le_of_ble_eq_true rfl, Nat.le_of_ble_eq_true rfl⟩, rfl, (htb (.instanceMethod y_Mn_init) tw_111)⟩ ⟨pc_blind, pc_pre hPc hKc hDc hN⟩ rfl rfl hl.1 rfl (lv_room (Nat.le_of_ble_eq_true rfl)) d_WM_init_102 ⟨(by show 18 + i + 1 ≤ 58; omega), (by show 2743 + 8 * i + 8 ≤ 3063; omega)⟩) hS (fun q _ h => hFc q h) hFc (fun u t H1 locs ht hvm hw hB hz1 hk1 hS => ?_)
      obtain ⟨hP1, hK1, hD1⟩ := hB
      rw [ht] at hP1
      obtain ⟨hP, hD⟩ := va_joinQ (X := [(h_0, .inr (0, [.ref q_1, .ref q_10, .ref q_12, .ref q_14, .ref q_16, .ref q_18, .ref q_21, .int 0, .int 0, .int 0, .int 0, .int 0, .ref q_26])), (q_1, .inr (1, [.ref z_2, .ref z_3, .ref z_4, .ref z_5, .int 0, .int (-1)])), (z_2, .inl (z_6, 12, .inl (fun _ => 0))), (z_3, .inl (z_7, 12, .inl (fun _ => 0))), (z_4, .inl (z_8, 500, .inr (.inr (.inr (.inr (fun _ => none)))))), (z_5, .inl (z_9, 500, .inl (fun _ => 0))), (q_10, .inl (k_11, 40, .inr (.inr (.inr (.inr fm))))), (q_12, .inl (k_13, 20, .inr (.inr (.inr (.inr (fun _ => none)))))), (q_14, .inl (k_15, 20, .inr (.inr (.inr (.inr (fun _ => none)))))), (q_16, .inl (k_17, 600, .inr (.inr (.inr (.inr (fun _ => none)))))), (q_18, .inr (4, [.ref z_19, .int 0, .int 0, .int 0, .int 0, .int 0])), (z_19, .inl (z_20, 400, .inl (fun _ => 0))), (q_21, .inr (5, [.int 0, .int 0, .int 0, .int 0, .ref z_22, .ref z_23, .int 0])), (z_22, .inl (z_24, 500, .inl (fun _ => 0))), (z_23, .inl (z_25, 30, .inr (.inr (.inr (.inr (fun _ => none)))))), (q_26, .inr (3, [.int 0, .int 0, .ref z_27, .ref z_28, .ref z_29, .int 0, .int 0, .int 0, .int 0])), (z_27, .inl (z_30, 36, .inl (fun _ => 0))), (z_28, .inl (z_31, 36, .inl (fun _ => 0))), (z_29, .inl (z_32, 9, .inl (fun _ => 0)))] ++ [(q, .inr (2, [.int 0, .null, .int 0, .int 0, .int 0, .int 0, .int 0, .int 0]))]) (cx := [(q, .inr (2, [.int 0, .null, .int 0, .int 0, .int 0, .int 0, .int 0, .int 0]))]) (wr := [(h_0, .inr (0, [.ref q_1, .ref q_10, .ref q_12, .ref q_14, .ref q_16, .ref q_18, .ref q_21, .int 0, .int 0, .int 0, .int 0, .int 0, .ref q_26])), (q_1, .inr (1, [.ref z_2, .ref z_3, .ref z_4, .ref z_5, .int 0, .int (-1)])), (z_2, .inl (z_6, 12, .inl (fun _ => 0))), (z_3, .inl (z_7, 12, .inl (fun _ => 0))), (z_4, .inl (z_8, 500, .inr (.inr (.inr (.inr (fun _ => none)))))), (z_5, .inl (z_9, 500, .inl (fun _ => 0))), (q_10, .inl (k_11, 40, .inr (.inr (.inr (.inr fm))))), (q_12, .inl (k_13, 20, .inr (.inr (.inr (.inr (fun _ => none)))))), (q_14, .inl (k_15, 20, .inr (.inr (.inr (.inr (fun _ => none)))))), (q_16, .inl (k_17, 600, .inr (.inr (.inr (.inr (fun _ => none)))))), (q_18, .inr (4, [.ref z_19, .int 0, .int 0, .int 0, .int 0, .int 0])), (z_19, .inl (z_20, 400, .inl (fun _ => 0))), (q_21, .inr (5, [.int 0, .int 0, .int 0, .int 0, .ref z_22, .ref z_23, .int 0])), (z_22, .inl (z_24, 500, .inl (fun _ => 0))), (z_23, .inl (z_25, 30, .inr (.inr (.inr (.inr (fun _ => none)))))), (q_26, .inr (3, [.int 0, .int 0, .ref z_27, .ref z_28, .ref z_29, .int 0, .int 0, .int 0, .int 0])), (z_27, .inl (z_30, 36, .inl (fun _ => 0))), (z_28, .inl (z_31, 36, .inl (fun _ => 0))), (z_29, .inl (z_32, 9, .inl (fun _ => 0)))]) hP.swap hD.swap [19] [0, 1, 2, 3, 4, 5, 6, 7, 8, 9, 10, 11, 12, 13, 14, 15, 16, 17, 18] rfl rfl (by decide) (by decide) hk1 hFc hP1 hD1
      generalize H1 = H at hP hS ⊢
      have hP : va_P (dC, dI) vwCl (([(h_0, .inr (0, [.ref q_1, .ref q_10, .ref q_12, .ref q_14, .ref q_16, .ref q_18, .ref q_21, .int 0, .int 0, .int 0, .int 0, .int 0, .ref q_26])), (q_1, .inr (1, [.ref z_2, .ref z_3, .ref z_4, .ref z_5, .int 0, .int (-1)])), (z_2, .inl (z_6, 12, .inl (fun _ => 0))), (z_3, .inl (z_7, 12, .inl (fun _ => 0))), (z_4, .inl (z_8, 500, .inr (.inr (.inr (.inr (fun _ => none)))))), (z_5, .inl (z_9, 500, .inl (fun _ => 0))), (q_10, .inl (k_11, 40, .inr (.inr (.inr (.inr fm))))), (q_12, .inl (k_13, 20, .inr (.inr (.inr (.inr (fun _ => none)))))), (q_14, .inl (k_15, 20, .inr (.inr (.inr (.inr (fun _ => none)))))), (q_16, .inl (k_17, 600, .inr (.inr (.inr (.inr (fun _ => none)))))), (q_18, .inr (4, [.ref z_19, .int 0, .int 0, .int 0, .int 0, .int 0])), (z_19, .inl (z_20, 400, .inl (fun _ => 0))), (q_21, .inr (5, [.int 0, .int 0, .int 0, .int 0, .ref z_22, .ref z_23, .int 0])), (z_22, .inl (z_24, 500, .inl (fun _ => 0))), (z_23, .inl (z_25, 30, .inr (.inr (.inr (.inr (fun _ => none)))))), (q_26, .inr (3, [.int 0, .int 0, .ref z_27, .ref z_28, .ref z_29, .int 0, .int 0, .int 0, .int 0])), (z_27, .inl (z_30, 36, .inl (fun _ => 0))), (z_28, .inl (z_31, 36, .inl (fun _ => 0))), (z_29, .inl (z_32, 9, .inl (fun _ => 0)))] ++ va_pl L (fun _ => .inr (2, manF))) ++ [(q, .inr (2, manF))]) H := hP.swap
      have hD : va_D A (([(h_0, .inr (0, [.ref q_1, .ref q_10, .ref q_12, .ref q_14, .ref q_16, .ref q_18, .ref q_21, .int 0, .int 0, .int 0, .int 0, .int 0, .ref q_26])), (q_1, .inr (1, [.ref z_2, .ref z_3, .ref z_4, .ref z_5, .int 0, .int (-1)])), (z_2, .inl (z_6, 12, .inl (fun _ => 0))), (z_3, .inl (z_7, 12, .inl (fun _ => 0))), (z_4, .inl (z_8, 500, .inr (.inr (.inr (.inr (fun _ => none)))))), (z_5, .inl (z_9, 500, .inl (fun _ => 0))), (q_10, .inl (k_11, 40, .inr (.inr (.inr (.inr fm))))), (q_12, .inl (k_13, 20, .inr (.inr (.inr (.inr (fun _ => none)))))), (q_14, .inl (k_15, 20, .inr (.inr (.inr (.inr (fun _ => none)))))), (q_16, .inl (k_17, 600, .inr (.inr (.inr (.inr (fun _ => none)))))), (q_18, .inr (4, [.ref z_19, .int 0, .int 0, .int 0, .int 0, .int 0])), (z_19, .inl (z_20, 400, .inl (fun _ => 0))), (q_21, .inr (5, [.int 0, .int 0, .int 0, .int 0, .ref z_22, .ref z_23, .int 0])), (z_22, .inl (z_24, 500, .inl (fun _ => 0))), (z_23, .inl (z_25, 30, .inr (.inr (.inr (.inr (fun _ => none)))))), (q_26, .inr (3, [.int 0, .int 0, .ref z_27, .ref z_28, .ref z_29, .int 0, .int 0, .int 0, .int 0])), (z_27, .inl (z_30, 36, .inl (fun _ => 0))), (z_28, .inl (z_31, 36, .inl (fun _ => 0))), (z_29, .inl (z_32, 9, .inl (fun _ => 0)))] ++ va_pl L (fun _ => .inr (2, manF))) ++ [(q, .inr (2, manF))]) := hD.swap
      refine va_astq hx hb hK hP hD hS 6 4 _ 2 rfl rfl hb_last rfl (vp_in_nI (by omega) (by omega)) d_WM_init_105 (fun H locs hP hD hS => ?_)
      have hP : va_P (dC, dI) vwCl (([(h_0, .inr (0, [.ref q_1, .ref q_10, .ref q_12, .ref q_14, .ref q_16, .ref q_18, .ref q_21, .int 0, .int 0, .int 0, .int 0, .int 0, .ref q_26])), (q_1, .inr (1, [.ref z_2, .ref z_3, .ref z_4, .ref z_5, .int 0, .int (-1)])), (z_2, .inl (z_6, 12, .inl (fun _ => 0))), (z_3, .inl (z_7, 12, .inl (fun _ => 0))), (z_4, .inl (z_8, 500, .inr (.inr (.inr (.inr (fun _ => none)))))), (z_5, .inl (z_9, 500, .inl (fun _ => 0))), (q_10, .inl (k_11, 40, .inr (.inr (.inr (.inr (va_up fm (nI i).toNatClampNeg (some q))))))), (q_12, .inl (k_13, 20, .inr (.inr (.inr (.inr (fun _ => none)))))), (q_14, .inl (k_15, 20, .inr (.inr (.inr (.inr (fun _ => none)))))), (q_16, .inl (k_17, 600, .inr (.inr (.inr (.inr (fun _ => none)))))), (q_18, .inr (4, [.ref z_19, .int 0, .int 0, .int 0, .int 0, .int 0])), (z_19, .inl (z_20, 400, .inl (fun _ => 0))), (q_21, .inr (5, [.int 0, .int 0, .int 0, .int 0, .ref z_22, .ref z_23, .int 0])), (z_22, .inl (z_24, 500, .inl (fun _ => 0))), (z_23, .inl (z_25, 30, .inr (.inr (.inr (.inr (fun _ => none)))))), (q_26, .inr (3, [.int 0, .int 0, .ref z_27, .ref z_28, .ref z_29, .int 0, .int 0, .int 0, .int 0])), (z_27, .inl (z_30, 36, .inl (fun _ => 0))), (z_28, .inl (z_31, 36, .inl (fun _ => 0))), (z_29, .inl (z_32, 9, .inl (fun _ => 0)))] ++ va_pl L (fun _ => .inr (2, manF))) ++ [(q, .inr (2, manF))]) H := hP
      have hD : va_D A (([(h_0, .inr (0, [.ref q_1, .ref q_10, .ref q_12, .ref q_14, .ref q_16, .ref q_18, .ref q_21, .int 0, .int 0, .int 0, .int 0, .int 0, .ref q_26])), (q_1, .inr (1, [.ref z_2, .ref z_3, .ref z_4, .ref z_5, .int 0, .int (-1)])), (z_2, .inl (z_6, 12, .inl (fun _ => 0))), (z_3, .inl (z_7, 12, .inl (fun _ => 0))), (z_4, .inl (z_8, 500, .inr (.inr (.inr (.inr (fun _ => none)))))), (z_5, .inl (z_9, 500, .inl (fun _ => 0))), (q_10, .inl (k_11, 40, .inr (.inr (.inr (.inr (va_up fm (nI i).toNatClampNeg (some q))))))), (q_12, .inl (k_13, 20, .inr (.inr (.inr (.inr (fun _ => none)))))), (q_14, .inl (k_15, 20, .inr (.inr (.inr (.inr (fun _ => none)))))), (q_16, .inl (k_17, 600, .inr (.inr (.inr (.inr (fun _ => none)))))), (q_18, .inr (4, [.ref z_19, .int 0, .int 0, .int 0, .int 0, .int 0])), (z_19, .inl (z_20, 400, .inl (fun _ => 0))), (q_21, .inr (5, [.int 0, .int 0, .int 0, .int 0, .ref z_22, .ref z_23, .int 0])), (z_22, .inl (z_24, 500, .inl (fun _ => 0))), (z_23, .inl (z_25, 30, .inr (.inr (.inr (.inr (fun _ => none)))))), (q_26, .inr (3, [.int 0, .int 0, .ref z_27, .ref z_28, .ref z_29, .int 0, .int 0, .int 0, .int 0])), (z_27, .inl (z_30, 36, .inl (fun _ => 0))), (z_28, .inl (z_31, 36, .inl (fun _ => 0))), (z_29, .inl (z_32, 9, .inl (fun _ => 0)))] ++ va_pl L (fun _ => .inr (2, manF))) ++ [(q, .inr (2, manF))]) := hD
      rw [hb_plpush] at hP hD
      refine lv_iinc (v := nI (i + 1)) (lv' := [(1, .int (nI (i + 1))), (0, .ref h_0)]) hx hb d_WM_init_106 hl (k := 0) rfl (nI_1 i) (by decide) rfl (fun ls hl => ?_)
      refine lv_goto (tgt := 87) hx hb d_WM_init_109 (by decide) ?_
      refine W.widen (k := 18 + (i + 1)) (n := 2743 + 8 * (i + 1)) (by omega) (by omega) ?_
      exact ih (i + 1) _ _ (L ++ [q]) _ (by omega) (by simp [hLn]) (hb_fm (by omega) hLn hfm) hP hD hS ls hl
  refine W.widen (k := 18 + 0) (n := 2743 + 8 * 0) (Nat.le_of_ble_eq_true rfl) (Nat.le_of_ble_eq_true rfl) ?_
  exact loop 40 0 _ _ [] (fun _ => none) (by omega) rfl (fun j => by simp) (by rw [show va_pl [] (fun _ => .inr (2, manF)) = [] from rfl, List.append_nil]; exact hP) (by rw [show va_pl [] (fun _ => .inr (2, manF)) = [] from rfl, List.append_nil]; exact hD) hS ls (lv_sub hl [0, 1] rfl)
def f_Rv_highest  : Int32 := (-1)
set_option maxHeartbeats 4000000 in
set_option maxRecDepth 100000 in
theorem c_Rv_highest (l : Launch) (dC : Nat → ClassId) (dI : Nat → Nat → Nat) (a : Nat → Nat) (k : Nat → ClassId) (L : List Nat) (hL : L.length = 40)    : Met l y_Rv_highest (.code y_Rv_highest b_Rv_highest 1 (some .int) :: TB) ({ frames := 0, cells := 0, slots := 0, locals := 0 }) (va_Pc [.ref (a 1)] (PR dC dI (XW a k L) (XT k))) (vp_Si (fun r => r = f_Rv_highest)) 0 0 (fun _ => False) := by
  refine Met.ofW (cc := b_Rv_highest) (maxL := 1) (ret := (some .int)) (by decide) rfl ?_
  intro p e s m args below meth c s₁ B hml hv
  obtain ⟨rfl, hP, hK, hN⟩ := hv
  have hx := B.exec
  have hb := B.bytes
  have hr := B.returns
  have hts := atoms_spec (ws := (.code y_Rv_highest b_Rv_highest 1 (some .int) :: TB)) B.pre
  have htb := fun w (h : w ∈ TB) => hts w (List.mem_cons_of_mem _ h)
  have hown : s.vm.findClass R_Rv = some m.cls := findClass_of_methodNamed B.named
  have hlocks := B.notSynchronized
  have hl := lv_entry ([.ref (a 1)]) (n := 1) (Nat.le_of_ble_eq_true rfl)
  rw [lg_entry_eq]
  generalize (lg_sl ([.ref (a 1)]) ++ List.replicate (1 - (lg_sl ([.ref (a 1)])).length) Slot.unset).toArray = ls at hl ⊢
  have hl : lv_has ls 1 [(0, .ref (a 1))] := hl
  refine lv_aload_n hx hb d_Rv_highest_0 rfl (lv_at hl 0 rfl) ?_
  refine va_get (D := (dC, dI)) (ci := 1) (v := .int 0) (C := R_Rv) (T := F_Rv) (N := 6) hx hb htb i_Rv hown hK hP 1 rfl rfl 4 (by decide) (htb (.fieldLink R_Rv 35 "WaterMen$River" "stairCount" "I") tw_112) (fun _ h9 => h9) rfl d_Rv_highest_1 ?_
  refine lv_if_ne (tgt := 11) hx hb d_Rv_highest_4 (by decide) (fun h => absurd (by decide +kernel) h) (fun _ => ?_)
  refine lv_iconst (v := (-1)) hx hb d_Rv_highest_7 (by decide +kernel) ?_
  refine lv_goto (tgt := 22) hx hb d_Rv_highest_8 (by decide) ?_
  exact W.iret (v := (-1)) hx hb hr (fun t ht hW => ⟨(-1), rfl, rfl, ht⟩) t_nil d_Rv_highest_22
def f_Rv_addStairs (p_0 : Int32) : Int32 := 0
set_option maxHeartbeats 4000000 in
set_option maxRecDepth 100000 in
theorem c_Rv_addStairs (l : Launch) (dC : Nat → ClassId) (dI : Nat → Nat → Nat) (a : Nat → Nat) (k : Nat → ClassId) (L : List Nat) (hL : L.length = 40) (sz : Nat) (p_0 : Int32)  : Met l y_Rv_addStairs (.code y_Rv_addStairs b_Rv_addStairs 2 (some .int) :: TB) ({ frames := 0, cells := 0, slots := 0, locals := 0 }) (va_Pc [.ref (a 1), .int p_0] (PC dC dI (XW a k L) (XT k) sz)) (va_Qi (fun r (_ : Unit) => r = f_Rv_addStairs p_0) (fun (_ : Unit) (_ : State) => True) (va_A (XW a k L) sz)) 0 0 (va_A (XW a k L) sz) := by
  refine Met.ofW (cc := b_Rv_addStairs) (maxL := 2) (ret := (some .int)) (by decide) rfl ?_
  intro p e s m args below meth c s₁ B hml hv
  obtain ⟨rfl, hsz, hP, hK, hD0, hN⟩ := hv
  have hx := B.exec
  have hb := B.bytes
  have hr := B.returns
  have hts := atoms_spec (ws := (.code y_Rv_addStairs b_Rv_addStairs 2 (some .int) :: TB)) B.pre
  have htb := fun w (h : w ∈ TB) => hts w (List.mem_cons_of_mem _ h)
  have hown : s.vm.findClass R_Rv = some m.cls := findClass_of_methodNamed B.named
  have hlocks := B.notSynchronized
  have hl := lv_entry ([.ref (a 1), .int p_0]) (n := 2) (Nat.le_of_ble_eq_true rfl)
  rw [lg_entry_eq]
  generalize (lg_sl ([.ref (a 1), .int p_0]) ++ List.replicate (2 - (lg_sl ([.ref (a 1), .int p_0])).length) Slot.unset).toArray = ls at hl ⊢
  have hl : lv_has ls 2 [(0, .ref (a 1)), (1, .int p_0)] := hl
  subst hsz
  have hD := hD0.self (sz := s.heap.size)
  obtain ⟨A, hAe⟩ : ∃ A, va_A (XW a k L) s.heap.size = A := ⟨_, rfl⟩
  rw [hAe] at hD
  have hA : ∀ q : Nat, s.heap.size ≤ q → A q := fun q h => by rw [← hAe]; exact Or.inr h
  have hS : va_S A s.heap s.heap [] := va_S.rf
  have hP := hP
  refine lv_aload_n hx hb d_Rv_addStairs_0 rfl (lv_at hl 0 rfl) ?_
  refine va_get (D := (dC, dI)) (ci := 1) (v := .ref (a 2)) (C := R_Rv) (T := F_Rv) (N := 6) hx hb htb i_Rv hown hK hP 1 rfl rfl 0 (by decide) (htb (.fieldLink R_Rv 9 "WaterMen$River" "milesUp" "[I") tw_60) (fun _ h9 => h9) rfl d_Rv_addStairs_1 ?_
  refine lv_aload_n hx hb d_Rv_addStairs_4 rfl (lv_at hl 0 rfl) ?_
  refine va_get (D := (dC, dI)) (ci := 1) (v := .int 0) (C := R_Rv) (T := F_Rv) (N := 6) hx hb htb i_Rv hown hK hP 1 rfl rfl 4 (by decide) (htb (.fieldLink R_Rv 35 "WaterMen$River" "stairCount" "I") tw_112) (fun _ h9 => h9) rfl d_Rv_addStairs_5 ?_
  refine lv_iload_n hx hb d_Rv_addStairs_8 rfl (lv_at hl 1 rfl) ?_
  refine va_iast hx hb hK hP hD hS 2 0 rfl rfl (by unfold vp_in; decide +kernel) d_Rv_addStairs_9 (fun H locs hP hD hS => ?_)
  refine lv_aload_n hx hb d_Rv_addStairs_10 rfl (lv_at hl 0 rfl) ?_
  refine lv_dup hx hb d_Rv_addStairs_11 rfl ?_
  refine va_get (D := (dC, dI)) (ci := 1) (v := .int 0) (C := R_Rv) (T := F_Rv) (N := 6) hx hb htb i_Rv hown hK hP 1 rfl rfl 4 (by decide) (htb (.fieldLink R_Rv 35 "WaterMen$River" "stairCount" "I") tw_112) (fun _ h9 => h9) rfl d_Rv_addStairs_12 ?_
  refine lv_iconst (v := 1) hx hb d_Rv_addStairs_15 (by decide +kernel) ?_
  refine lv_iadd hx hb d_Rv_addStairs_16 ?_
  refine hb_ti 1 (by decide +kernel) ?_
  refine va_put (D := (dC, dI)) (ci := 1) (v := .int 1) (ty := .int) (C := R_Rv) (T := F_Rv) (N := 6) hx hb htb i_Rv t_Rv t_Rv_ok n_Rv hown hK hP hD hS 1 rfl rfl 4 (by decide) (htb (.fieldLink R_Rv 35 "WaterMen$River" "stairCount" "I") tw_112) (fun _ h9 => h9) rfl (by decide +kernel) rfl rfl (Nat.le_of_ble_eq_true rfl) d_Rv_addStairs_17 (fun H locs hP hD hS => ?_)
  refine lv_aload_n hx hb d_Rv_addStairs_20 rfl (lv_at hl 0 rfl) ?_
  refine va_get (D := (dC, dI)) (ci := 1) (v := .int 1) (C := R_Rv) (T := F_Rv) (N := 6) hx hb htb i_Rv hown hK hP 1 rfl rfl 4 (by decide) (htb (.fieldLink R_Rv 35 "WaterMen$River" "stairCount" "I") tw_112) (fun _ h9 => h9) rfl d_Rv_addStairs_21 ?_
  refine lv_iconst (v := 1) hx hb d_Rv_addStairs_24 (by decide +kernel) ?_
  refine lv_isub hx hb d_Rv_addStairs_25 ?_
  refine hb_ti 0 (by decide +kernel) ?_
  refine W.widen (k := 0) (n := 0) (Nat.le_of_ble_eq_true rfl) (Nat.le_of_ble_eq_true rfl) ?_
  exact W.iret (v := 0) hx hb hr (fun t ht hW => ⟨⟨0, (), rfl, rfl, trivial⟩, by rw [hAe]; exact hS.F ht⟩) (by rw [hAe]; exact hS.2.2) d_Rv_addStairs_26
def f_WM_stairs (p_0 : Int32) : Int32 := if p_0 < 0 then ((-1)) else (if 60 < p_0 then ((-1)) else (0))
set_option maxHeartbeats 4000000 in
set_option maxRecDepth 100000 in
theorem c_WM_stairs (l : Launch) (dC : Nat → ClassId) (dI : Nat → Nat → Nat) (a : Nat → Nat) (k : Nat → ClassId) (L : List Nat) (hL : L.length = 40) (sz : Nat) (p_0 : Int32)  : Met l y_WM_stairs (.code y_WM_stairs b_WM_stairs 2 (some .int) :: TB) ({ frames := 1, cells := 0, slots := 0, locals := 21 }) (va_Pc [.ref (a 0), .int p_0] (PC dC dI (XW a k L) (XT k) sz)) (va_Qi (fun r (_ : Unit) => r = f_WM_stairs p_0) (fun (_ : Unit) (_ : State) => True) (va_A (XW a k L) sz)) 0 0 (va_A (XW a k L) sz) := by
  refine Met.ofW (cc := b_WM_stairs) (maxL := 2) (ret := (some .int)) (by decide) rfl ?_
  intro p e s m args below meth c s₁ B hml hv
  obtain ⟨rfl, hsz, hP, hK, hD0, hN⟩ := hv
  have hx := B.exec
  have hb := B.bytes
  have hr := B.returns
  have hts := atoms_spec (ws := (.code y_WM_stairs b_WM_stairs 2 (some .int) :: TB)) B.pre
  have htb := fun w (h : w ∈ TB) => hts w (List.mem_cons_of_mem _ h)
  have hown : s.vm.findClass R_WM = some m.cls := findClass_of_methodNamed B.named
  have hlocks := B.notSynchronized
  have hl := lv_entry ([.ref (a 0), .int p_0]) (n := 2) (Nat.le_of_ble_eq_true rfl)
  rw [lg_entry_eq]
  generalize (lg_sl ([.ref (a 0), .int p_0]) ++ List.replicate (2 - (lg_sl ([.ref (a 0), .int p_0])).length) Slot.unset).toArray = ls at hl ⊢
  have hl : lv_has ls 2 [(0, .ref (a 0)), (1, .int p_0)] := hl
  subst hsz
  have hD := hD0.self (sz := s.heap.size)
  obtain ⟨A, hAe⟩ : ∃ A, va_A (XW a k L) s.heap.size = A := ⟨_, rfl⟩
  rw [hAe] at hD
  have hA : ∀ q : Nat, s.heap.size ≤ q → A q := fun q h => by rw [← hAe]; exact Or.inr h
  have hS : va_S A s.heap s.heap [] := va_S.rf
  have hP := hP
  refine lv_iload_n hx hb d_WM_stairs_0 rfl (lv_at hl 1 rfl) ?_
  refine lv_if_lt (tgt := 21) hx hb d_WM_stairs_1 (by decide) (fun c_1 => ?_) (fun c_1 => ?_)
  · refine lv_iconst (v := (-1)) hx hb d_WM_stairs_21 (by decide +kernel) ?_
    refine W.widen (k := 0) (n := 0) (Nat.le_of_ble_eq_true rfl) (Nat.le_of_ble_eq_true rfl) ?_
    exact W.iret (v := (-1)) hx hb hr (fun t ht hW => ⟨⟨(-1), (), rfl, (by unfold f_WM_stairs; rw [if_pos c_1]), trivial⟩, by rw [hAe]; exact hS.F ht⟩) (by rw [hAe]; exact hS.2.2) d_WM_stairs_22
  · refine lv_iload_n hx hb d_WM_stairs_4 rfl (lv_at hl 1 rfl) ?_
    refine lv_bipush (v := 60) hx hb d_WM_stairs_5 (by decide +kernel) ?_
    refine lv_icmp_gt (tgt := 21) hx hb d_WM_stairs_7 (by decide) (fun c_2 => ?_) (fun c_2 => ?_)
    · refine lv_iconst (v := (-1)) hx hb d_WM_stairs_21 (by decide +kernel) ?_
      refine W.widen (k := 0) (n := 0) (Nat.le_of_ble_eq_true rfl) (Nat.le_of_ble_eq_true rfl) ?_
      exact W.iret (v := (-1)) hx hb hr (fun t ht hW => ⟨⟨(-1), (), rfl, (by unfold f_WM_stairs; rw [if_neg c_1, if_pos c_2]), trivial⟩, by rw [hAe]; exact hS.F ht⟩) (by rw [hAe]; exact hS.2.2) d_WM_stairs_22
    · refine lv_iload_n hx hb d_WM_stairs_10 rfl (lv_at hl 1 rfl) ?_
      refine lv_aload_n hx hb d_WM_stairs_11 rfl (lv_at hl 0 rfl) ?_
      refine va_get (D := (dC, dI)) (ci := 0) (v := .ref (a 1)) (C := R_WM) (T := F_WM) (N := 13) hx hb htb i_WM hown hK hP 0 rfl rfl 0 (by decide) (htb (.fieldLink R_WM 12 "WaterMen" "river" "LWaterMen$River;") tw_68) (fun _ h9 => h9) rfl d_WM_stairs_12 ?_
      refine vp_callSi (va_Run.run (va_runV (As := []) (rest := [.int p_0]) ⟨hx, hb, hml, hown, htb⟩ (c_Rv_highest l dC dI a k L hL) (cwV 0 htb (gd_V tw_114 tw_115 tw_116 tw_58 tw_113) rfl rfl rfl (by decide +kernel) ⟨Nat.le_of_ble_eq_true rfl, Nat.le_of_ble_eq_true rfl⟩) ⟨pr_blind, va_recv hK hP (ci := 1) (q0 := 1) rfl rfl, pr_pre hP hK hN⟩ rfl rfl hl.1 rfl (lv_room (Nat.le_of_ble_eq_true rfl)) d_WM_stairs_15 ⟨Nat.le_of_ble_eq_true rfl, Nat.le_of_ble_eq_true rfl⟩)) (fun r er => ?_)
      subst er
      refine hb_ti (-1) rfl ?_
      refine lv_icmp_gt (tgt := 23) hx hb d_WM_stairs_18 (by decide) (fun _ => ?_) (fun h => absurd (show (-1) < p_0 from by have e0 := c_1; rw [Int32.lt_iff_toInt_lt] at e0; have e1 := c_2; rw [Int32.lt_iff_toInt_lt] at e1; have z0 : ((-1) : Int32).toInt = -1 := (by decide +kernel); have z1 : (0 : Int32).toInt = 0 := (by decide +kernel); have z2 : (60 : Int32).toInt = 60 := (by decide +kernel); rw [Int32.lt_iff_toInt_lt]; omega) h)
      refine lv_aload_n hx hb d_WM_stairs_23 rfl (lv_at hl 0 rfl) ?_
      refine va_get (D := (dC, dI)) (ci := 0) (v := .ref (a 1)) (C := R_WM) (T := F_WM) (N := 13) hx hb htb i_WM hown hK hP 0 rfl rfl 0 (by decide) (htb (.fieldLink R_WM 12 "WaterMen" "river" "LWaterMen$River;") tw_68) (fun _ h9 => h9) rfl d_WM_stairs_24 ?_
      refine va_get (D := (dC, dI)) (ci := 1) (v := .int 0) (C := R_Rv) (T := F_Rv) (N := 6) hx hb htb i_Rv hown hK hP 1 rfl rfl 4 (by decide) (htb (.fieldLink R_WM 64 "WaterMen$River" "stairCount" "I") tw_117) (fun _ h9 => h9) rfl d_WM_stairs_27 ?_
      refine lv_bipush (v := 12) hx hb d_WM_stairs_30 (by decide +kernel) ?_
      refine lv_icmp_lt (tgt := 40) hx hb d_WM_stairs_32 (by decide) (fun _ => ?_) (fun h => absurd (by decide +kernel) h)
      refine lv_aload_n hx hb d_WM_stairs_40 rfl (lv_at hl 0 rfl) ?_
      refine va_get (D := (dC, dI)) (ci := 0) (v := .ref (a 1)) (C := R_WM) (T := F_WM) (N := 13) hx hb htb i_WM hown hK hP 0 rfl rfl 0 (by decide) (htb (.fieldLink R_WM 12 "WaterMen" "river" "LWaterMen$River;") tw_68) (fun _ h9 => h9) rfl d_WM_stairs_41 ?_
      refine lv_iload_n hx hb d_WM_stairs_44 rfl (lv_at hl 1 rfl) ?_
      have hFc := hb_free hD hS hA
      refine va_calli (va_runV (As := [.int p_0]) (rest := []) ⟨hx, hb, hml, hown, htb⟩ (c_Rv_addStairs l dC dI a k L hL _ p_0) (cwV 1 htb (gd_V tw_119 tw_120 tw_121 tw_58 tw_118) rfl rfl rfl (by decide +kernel) ⟨Nat.le_of_ble_eq_true rfl, Nat.le_of_ble_eq_true rfl⟩) ⟨pc_blind, va_recv hK hP (ci := 1) (q0 := 1) rfl rfl, pc_pre hP hK hD hN⟩ rfl rfl hl.1 rfl (lv_room (Nat.le_of_ble_eq_true rfl)) d_WM_stairs_45 ⟨Nat.le_of_ble_eq_true rfl, Nat.le_of_ble_eq_true rfl⟩) hS (fun q _ h => hFc q h) hFc (fun r u t H1 locs ht hvm er hB hz1 hk1 hS => ?_)
      subst er
      refine hb_ti 0 rfl ?_
      refine W.widen (k := 0) (n := 0) (Nat.le_of_ble_eq_true rfl) (Nat.le_of_ble_eq_true rfl) ?_
      exact W.iret (v := 0) hx hb hr (fun t ht hW => ⟨⟨0, (), rfl, (by unfold f_WM_stairs; rw [if_neg c_1, if_neg c_2]), trivial⟩, by rw [hAe]; exact hS.F ht⟩) (by rw [hAe]; exact hS.2.2) d_WM_stairs_48
def f_WM_bridge (p_0 : Int32) : Int32 := if p_0 = (-1) then (1) else (if p_0 < 0 then ((-1)) else ((-1)))
set_option maxHeartbeats 4000000 in
set_option maxRecDepth 100000 in
theorem c_WM_bridge (l : Launch) (dC : Nat → ClassId) (dI : Nat → Nat → Nat) (a : Nat → Nat) (k : Nat → ClassId) (L : List Nat) (hL : L.length = 40) (sz : Nat) (p_0 : Int32)  : Met l y_WM_bridge (.code y_WM_bridge b_WM_bridge 2 (some .int) :: TB) ({ frames := 0, cells := 0, slots := 0, locals := 0 }) (va_Pc [.ref (a 0), .int p_0] (PC dC dI (XW a k L) (XT k) sz)) (va_Qi (fun r (_ : Unit) => r = f_WM_bridge p_0) (fun (_ : Unit) (_ : State) => True) (va_A (XW a k L) sz)) 0 0 (va_A (XW a k L) sz) := by
  refine Met.ofW (cc := b_WM_bridge) (maxL := 2) (ret := (some .int)) (by decide) rfl ?_
  intro p e s m args below meth c s₁ B hml hv
  obtain ⟨rfl, hsz, hP, hK, hD0, hN⟩ := hv
  have hx := B.exec
  have hb := B.bytes
  have hr := B.returns
  have hts := atoms_spec (ws := (.code y_WM_bridge b_WM_bridge 2 (some .int) :: TB)) B.pre
  have htb := fun w (h : w ∈ TB) => hts w (List.mem_cons_of_mem _ h)
  have hown : s.vm.findClass R_WM = some m.cls := findClass_of_methodNamed B.named
  have hlocks := B.notSynchronized
  have hl := lv_entry ([.ref (a 0), .int p_0]) (n := 2) (Nat.le_of_ble_eq_true rfl)
  rw [lg_entry_eq]
  generalize (lg_sl ([.ref (a 0), .int p_0]) ++ List.replicate (2 - (lg_sl ([.ref (a 0), .int p_0])).length) Slot.unset).toArray = ls at hl ⊢
  have hl : lv_has ls 2 [(0, .ref (a 0)), (1, .int p_0)] := hl
  subst hsz
  have hD := hD0.self (sz := s.heap.size)
  obtain ⟨A, hAe⟩ : ∃ A, va_A (XW a k L) s.heap.size = A := ⟨_, rfl⟩
  rw [hAe] at hD
  have hA : ∀ q : Nat, s.heap.size ≤ q → A q := fun q h => by rw [← hAe]; exact Or.inr h
  have hS : va_S A s.heap s.heap [] := va_S.rf
  have hP := hP
  refine lv_iload_n hx hb d_WM_bridge_0 rfl (lv_at hl 1 rfl) ?_
  refine lv_iconst (v := (-1)) hx hb d_WM_bridge_1 (by decide +kernel) ?_
  refine lv_icmp_eq (tgt := 24) hx hb d_WM_bridge_2 (by decide) (fun c_1 => ?_) (fun c_1 => ?_)
  · refine lv_aload_n hx hb d_WM_bridge_24 rfl (lv_at hl 0 rfl) ?_
    refine va_get (D := (dC, dI)) (ci := 0) (v := .ref (a 1)) (C := R_WM) (T := F_WM) (N := 13) hx hb htb i_WM hown hK hP 0 rfl rfl 0 (by decide) (htb (.fieldLink R_WM 12 "WaterMen" "river" "LWaterMen$River;") tw_68) (fun _ h9 => h9) rfl d_WM_bridge_25 ?_
    refine lv_iload_n hx hb d_WM_bridge_28 rfl (lv_at hl 1 rfl) ?_
    refine va_put (D := (dC, dI)) (ci := 1) (v := .int p_0) (ty := .int) (C := R_Rv) (T := F_Rv) (N := 6) hx hb htb i_Rv t_Rv t_Rv_ok n_Rv hown hK hP hD hS 1 rfl rfl 5 (by decide) (htb (.fieldLink R_WM 72 "WaterMen$River" "bridgeAbove" "I") tw_122) (fun _ h9 => h9) rfl (by decide +kernel) rfl rfl (Nat.le_of_ble_eq_true rfl) d_WM_bridge_29 (fun H locs hP hD hS => ?_)
    refine lv_iconst (v := 1) hx hb d_WM_bridge_32 (by decide +kernel) ?_
    refine W.widen (k := 0) (n := 0) (Nat.le_of_ble_eq_true rfl) (Nat.le_of_ble_eq_true rfl) ?_
    exact W.iret (v := 1) hx hb hr (fun t ht hW => ⟨⟨1, (), rfl, (by unfold f_WM_bridge; rw [if_pos c_1]), trivial⟩, by rw [hAe]; exact hS.F ht⟩) (by rw [hAe]; exact hS.2.2) d_WM_bridge_33
  · refine lv_iload_n hx hb d_WM_bridge_5 rfl (lv_at hl 1 rfl) ?_
    refine lv_if_lt (tgt := 22) hx hb d_WM_bridge_6 (by decide) (fun c_2 => ?_) (fun c_2 => ?_)
    · refine lv_iconst (v := (-1)) hx hb d_WM_bridge_22 (by decide +kernel) ?_
      refine W.widen (k := 0) (n := 0) (Nat.le_of_ble_eq_true rfl) (Nat.le_of_ble_eq_true rfl) ?_
      exact W.iret (v := (-1)) hx hb hr (fun t ht hW => ⟨⟨(-1), (), rfl, (by unfold f_WM_bridge; rw [if_neg c_1, if_pos c_2]), trivial⟩, by rw [hAe]; exact hS.F ht⟩) (by rw [hAe]; exact hS.2.2) d_WM_bridge_23
    · refine lv_iload_n hx hb d_WM_bridge_9 rfl (lv_at hl 1 rfl) ?_
      refine lv_aload_n hx hb d_WM_bridge_10 rfl (lv_at hl 0 rfl) ?_
      refine va_get (D := (dC, dI)) (ci := 0) (v := .ref (a 1)) (C := R_WM) (T := F_WM) (N := 13) hx hb htb i_WM hown hK hP 0 rfl rfl 0 (by decide) (htb (.fieldLink R_WM 12 "WaterMen" "river" "LWaterMen$River;") tw_68) (fun _ h9 => h9) rfl d_WM_bridge_11 ?_
      refine va_get (D := (dC, dI)) (ci := 1) (v := .int 0) (C := R_Rv) (T := F_Rv) (N := 6) hx hb htb i_Rv hown hK hP 1 rfl rfl 4 (by decide) (htb (.fieldLink R_WM 64 "WaterMen$River" "stairCount" "I") tw_117) (fun _ h9 => h9) rfl d_WM_bridge_14 ?_
      refine lv_iconst (v := 1) hx hb d_WM_bridge_17 (by decide +kernel) ?_
      refine lv_isub hx hb d_WM_bridge_18 ?_
      refine hb_ti (-1) (by decide +kernel) ?_
      refine lv_icmp_lt (tgt := 24) hx hb d_WM_bridge_19 (by decide) (fun h => absurd h (show ¬ (p_0 < (-1)) from by have e0 := c_2; rw [Int32.lt_iff_toInt_lt] at e0; have z0 : ((-1) : Int32).toInt = -1 := (by decide +kernel); have z1 : (0 : Int32).toInt = 0 := (by decide +kernel); rw [Int32.lt_iff_toInt_lt]; omega)) (fun _ => ?_)
      refine lv_iconst (v := (-1)) hx hb d_WM_bridge_22 (by decide +kernel) ?_
      refine W.widen (k := 0) (n := 0) (Nat.le_of_ble_eq_true rfl) (Nat.le_of_ble_eq_true rfl) ?_
      exact W.iret (v := (-1)) hx hb hr (fun t ht hW => ⟨⟨(-1), (), rfl, (by unfold f_WM_bridge; rw [if_neg c_1, if_neg c_2]), trivial⟩, by rw [hAe]; exact hS.F ht⟩) (by rw [hAe]; exact hS.2.2) d_WM_bridge_23
def f_WM_isDay (p_0 : Int32) : Int32 := if p_0 < 0 then (0) else (if 500 ≤ p_0 then (0) else (1))
set_option maxHeartbeats 4000000 in
set_option maxRecDepth 100000 in
theorem c_WM_isDay (l : Launch)  (p_0 : Int32)  : Met l y_WM_isDay (.code y_WM_isDay b_WM_isDay 1 (some .boolean) :: TB) ({ frames := 0, cells := 0, slots := 0, locals := 0 }) (va_Pc [.int p_0] (fun _ => True)) (vp_Si (fun r => r = f_WM_isDay p_0)) 0 0 (fun _ => False) := by
  refine Met.ofW (cc := b_WM_isDay) (maxL := 1) (ret := (some .boolean)) (by decide) rfl ?_
  intro p e s m args below meth c s₁ B hml hv
  obtain ⟨rfl, -⟩ := hv
  have hx := B.exec
  have hb := B.bytes
  have hr := B.returns
  have hts := atoms_spec (ws := (.code y_WM_isDay b_WM_isDay 1 (some .boolean) :: TB)) B.pre
  have htb := fun w (h : w ∈ TB) => hts w (List.mem_cons_of_mem _ h)
  have hown : s.vm.findClass R_WM = some m.cls := findClass_of_methodNamed B.named
  have hlocks := B.notSynchronized
  have hl := lv_entry ([.int p_0]) (n := 1) (Nat.le_of_ble_eq_true rfl)
  rw [lg_entry_eq]
  generalize (lg_sl ([.int p_0]) ++ List.replicate (1 - (lg_sl ([.int p_0])).length) Slot.unset).toArray = ls at hl ⊢
  have hl : lv_has ls 1 [(0, .int p_0)] := hl
  refine lv_iload_n hx hb d_WM_isDay_0 rfl (lv_at hl 0 rfl) ?_
  refine lv_if_lt (tgt := 15) hx hb d_WM_isDay_1 (by decide) (fun c_1 => ?_) (fun c_1 => ?_)
  · refine lv_iconst (v := 0) hx hb d_WM_isDay_15 (by decide +kernel) ?_
    exact W.zret (v := 0) hx hb hr (by decide +kernel) (fun t ht hW => ⟨0, rfl, (by unfold f_WM_isDay; rw [if_pos c_1]), ht⟩) t_nil d_WM_isDay_16
  · refine lv_iload_n hx hb d_WM_isDay_4 rfl (lv_at hl 0 rfl) ?_
    refine lv_sipush (v := 500) hx hb d_WM_isDay_5 (by decide +kernel) ?_
    refine lv_icmp_ge (tgt := 15) hx hb d_WM_isDay_8 (by decide) (fun c_2 => ?_) (fun c_2 => ?_)
    · refine lv_iconst (v := 0) hx hb d_WM_isDay_15 (by decide +kernel) ?_
      exact W.zret (v := 0) hx hb hr (by decide +kernel) (fun t ht hW => ⟨0, rfl, (by unfold f_WM_isDay; rw [if_neg c_1, if_pos c_2]), ht⟩) t_nil d_WM_isDay_16
    · refine lv_iconst (v := 1) hx hb d_WM_isDay_11 (by decide +kernel) ?_
      refine lv_goto (tgt := 16) hx hb d_WM_isDay_12 (by decide) ?_
      exact W.zret (v := 1) hx hb hr (by decide +kernel) (fun t ht hW => ⟨1, rfl, (by unfold f_WM_isDay; rw [if_neg c_1, if_neg c_2]), ht⟩) t_nil d_WM_isDay_16
def f_WM_isHour (p_0 : Int32) : Int32 := if p_0 < 0 then (0) else (if 12 ≤ p_0 then (0) else (1))
set_option maxHeartbeats 4000000 in
set_option maxRecDepth 100000 in
theorem c_WM_isHour (l : Launch)  (p_0 : Int32)  : Met l y_WM_isHour (.code y_WM_isHour b_WM_isHour 1 (some .boolean) :: TB) ({ frames := 0, cells := 0, slots := 0, locals := 0 }) (va_Pc [.int p_0] (fun _ => True)) (vp_Si (fun r => r = f_WM_isHour p_0)) 0 0 (fun _ => False) := by
  refine Met.ofW (cc := b_WM_isHour) (maxL := 1) (ret := (some .boolean)) (by decide) rfl ?_
  intro p e s m args below meth c s₁ B hml hv
  obtain ⟨rfl, -⟩ := hv
  have hx := B.exec
  have hb := B.bytes
  have hr := B.returns
  have hts := atoms_spec (ws := (.code y_WM_isHour b_WM_isHour 1 (some .boolean) :: TB)) B.pre
  have htb := fun w (h : w ∈ TB) => hts w (List.mem_cons_of_mem _ h)
  have hown : s.vm.findClass R_WM = some m.cls := findClass_of_methodNamed B.named
  have hlocks := B.notSynchronized
  have hl := lv_entry ([.int p_0]) (n := 1) (Nat.le_of_ble_eq_true rfl)
  rw [lg_entry_eq]
  generalize (lg_sl ([.int p_0]) ++ List.replicate (1 - (lg_sl ([.int p_0])).length) Slot.unset).toArray = ls at hl ⊢
  have hl : lv_has ls 1 [(0, .int p_0)] := hl
  refine lv_iload_n hx hb d_WM_isHour_0 rfl (lv_at hl 0 rfl) ?_
  refine lv_if_lt (tgt := 14) hx hb d_WM_isHour_1 (by decide) (fun c_1 => ?_) (fun c_1 => ?_)
  · refine lv_iconst (v := 0) hx hb d_WM_isHour_14 (by decide +kernel) ?_
    exact W.zret (v := 0) hx hb hr (by decide +kernel) (fun t ht hW => ⟨0, rfl, (by unfold f_WM_isHour; rw [if_pos c_1]), ht⟩) t_nil d_WM_isHour_15
  · refine lv_iload_n hx hb d_WM_isHour_4 rfl (lv_at hl 0 rfl) ?_
    refine lv_bipush (v := 12) hx hb d_WM_isHour_5 (by decide +kernel) ?_
    refine lv_icmp_ge (tgt := 14) hx hb d_WM_isHour_7 (by decide) (fun c_2 => ?_) (fun c_2 => ?_)
    · refine lv_iconst (v := 0) hx hb d_WM_isHour_14 (by decide +kernel) ?_
      exact W.zret (v := 0) hx hb hr (by decide +kernel) (fun t ht hW => ⟨0, rfl, (by unfold f_WM_isHour; rw [if_neg c_1, if_pos c_2]), ht⟩) t_nil d_WM_isHour_15
    · refine lv_iconst (v := 1) hx hb d_WM_isHour_10 (by decide +kernel) ?_
      refine lv_goto (tgt := 15) hx hb d_WM_isHour_11 (by decide) ?_
      exact W.zret (v := 1) hx hb hr (by decide +kernel) (fun t ht hW => ⟨1, rfl, (by unfold f_WM_isHour; rw [if_neg c_1, if_neg c_2]), ht⟩) t_nil d_WM_isHour_15
def f_WM_isLevel (p_0 : Int32) : Int32 := if p_0 < (-90) then (0) else (if 90 < p_0 then (0) else (1))
set_option maxHeartbeats 4000000 in
set_option maxRecDepth 100000 in
theorem c_WM_isLevel (l : Launch)  (p_0 : Int32)  : Met l y_WM_isLevel (.code y_WM_isLevel b_WM_isLevel 1 (some .boolean) :: TB) ({ frames := 0, cells := 0, slots := 0, locals := 0 }) (va_Pc [.int p_0] (fun _ => True)) (vp_Si (fun r => r = f_WM_isLevel p_0)) 0 0 (fun _ => False) := by
  refine Met.ofW (cc := b_WM_isLevel) (maxL := 1) (ret := (some .boolean)) (by decide) rfl ?_
  intro p e s m args below meth c s₁ B hml hv
  obtain ⟨rfl, -⟩ := hv
  have hx := B.exec
  have hb := B.bytes
  have hr := B.returns
  have hts := atoms_spec (ws := (.code y_WM_isLevel b_WM_isLevel 1 (some .boolean) :: TB)) B.pre
  have htb := fun w (h : w ∈ TB) => hts w (List.mem_cons_of_mem _ h)
  have hown : s.vm.findClass R_WM = some m.cls := findClass_of_methodNamed B.named
  have hlocks := B.notSynchronized
  have hl := lv_entry ([.int p_0]) (n := 1) (Nat.le_of_ble_eq_true rfl)
  rw [lg_entry_eq]
  generalize (lg_sl ([.int p_0]) ++ List.replicate (1 - (lg_sl ([.int p_0])).length) Slot.unset).toArray = ls at hl ⊢
  have hl : lv_has ls 1 [(0, .int p_0)] := hl
  refine lv_iload_n hx hb d_WM_isLevel_0 rfl (lv_at hl 0 rfl) ?_
  refine lv_bipush (v := (-90)) hx hb d_WM_isLevel_1 (by decide +kernel) ?_
  refine lv_icmp_lt (tgt := 16) hx hb d_WM_isLevel_3 (by decide) (fun c_1 => ?_) (fun c_1 => ?_)
  · refine lv_iconst (v := 0) hx hb d_WM_isLevel_16 (by decide +kernel) ?_
    exact W.zret (v := 0) hx hb hr (by decide +kernel) (fun t ht hW => ⟨0, rfl, (by unfold f_WM_isLevel; rw [if_pos c_1]), ht⟩) t_nil d_WM_isLevel_17
  · refine lv_iload_n hx hb d_WM_isLevel_6 rfl (lv_at hl 0 rfl) ?_
    refine lv_bipush (v := 90) hx hb d_WM_isLevel_7 (by decide +kernel) ?_
    refine lv_icmp_gt (tgt := 16) hx hb d_WM_isLevel_9 (by decide) (fun c_2 => ?_) (fun c_2 => ?_)
    · refine lv_iconst (v := 0) hx hb d_WM_isLevel_16 (by decide +kernel) ?_
      exact W.zret (v := 0) hx hb hr (by decide +kernel) (fun t ht hW => ⟨0, rfl, (by unfold f_WM_isLevel; rw [if_neg c_1, if_pos c_2]), ht⟩) t_nil d_WM_isLevel_17
    · refine lv_iconst (v := 1) hx hb d_WM_isLevel_12 (by decide +kernel) ?_
      refine lv_goto (tgt := 17) hx hb d_WM_isLevel_13 (by decide) ?_
      exact W.zret (v := 1) hx hb hr (by decide +kernel) (fun t ht hW => ⟨1, rfl, (by unfold f_WM_isLevel; rw [if_neg c_1, if_neg c_2]), ht⟩) t_nil d_WM_isLevel_17
set_option maxHeartbeats 4000000 in
set_option maxRecDepth 100000 in
theorem c_Rv_tell (l : Launch) (dC : Nat → ClassId) (dI : Nat → Nat → Nat) (a : Nat → Nat) (k : Nat → ClassId) (L : List Nat) (hL : L.length = 40) (sz : Nat) (p_0 : Int32) (p_1 : Int32) (p_2 : Int32) (as_0 : ¬ (p_0 < 0)) (as_1 : ¬ (500 ≤ p_0)) (as_2 : ¬ (p_1 < 0)) (as_3 : ¬ (12 ≤ p_1)) : Met l y_Rv_tell (.code y_Rv_tell b_Rv_tell 6 none :: TB) ({ frames := 0, cells := 1, slots := 12, locals := 0 }) (va_Pc [.ref (a 1), .int p_0, .int p_1, .int p_2] (PC dC dI (XW a k L) (XT k) sz)) (va_Qv (fun (_ : Unit) => True) (fun (_ : Unit) (_ : State) => True) (va_A (XW a k L) sz)) 1 12 (va_A (XW a k L) sz) := by
  refine Met.ofW (cc := b_Rv_tell) (maxL := 6) (ret := none) (by decide) rfl ?_
  intro p e s m args below meth c s₁ B hml hv
  obtain ⟨rfl, hsz, hP, hK, hD0, hN⟩ := hv
  have hx := B.exec
  have hb := B.bytes
  have hr := B.returns
  have hts := atoms_spec (ws := (.code y_Rv_tell b_Rv_tell 6 none :: TB)) B.pre
  have htb := fun w (h : w ∈ TB) => hts w (List.mem_cons_of_mem _ h)
  have hown : s.vm.findClass R_Rv = some m.cls := findClass_of_methodNamed B.named
  have hlocks := B.notSynchronized
  have hl := lv_entry ([.ref (a 1), .int p_0, .int p_1, .int p_2]) (n := 6) (Nat.le_of_ble_eq_true rfl)
  rw [lg_entry_eq]
  generalize (lg_sl ([.ref (a 1), .int p_0, .int p_1, .int p_2]) ++ List.replicate (6 - (lg_sl ([.ref (a 1), .int p_0, .int p_1, .int p_2])).length) Slot.unset).toArray = ls at hl ⊢
  have hl : lv_has ls 6 [(0, .ref (a 1)), (1, .int p_0), (2, .int p_1), (3, .int p_2)] := hl
  subst hsz
  have hD := hD0.self (sz := s.heap.size)
  obtain ⟨A, hAe⟩ : ∃ A, va_A (XW a k L) s.heap.size = A := ⟨_, rfl⟩
  rw [hAe] at hD
  have hA : ∀ q : Nat, s.heap.size ≤ q → A q := fun q h => by rw [← hAe]; exact Or.inr h
  have hS : va_S A s.heap s.heap [] := va_S.rf
  have hP := hP
  have hP := hP.sub (ws' := [((a 1), .inr (1, [.ref (a 2), .ref (a 3), .ref (a 4), .ref (a 5), .int 0, .int (-1)])), ((a 3), .inl ((k 3), 12, .inl (fun _ => 0))), ((a 4), .inl ((k 4), 500, .inr (.inr (.inr (.inr (fun _ => none))))))]) [1, 3, 4] rfl
  have hD := hD.sub (ws' := [((a 1), .inr (1, [.ref (a 2), .ref (a 3), .ref (a 4), .ref (a 5), .int 0, .int (-1)])), ((a 3), .inl ((k 3), 12, .inl (fun _ => 0))), ((a 4), .inl ((k 4), 500, .inr (.inr (.inr (.inr (fun _ => none))))))]) [1, 3, 4] (by decide) rfl
  have hK := hK.sub (tys' := [((k 3), .int), ((k 4), .array .int)]) [1, 2] rfl
  refine lv_aload_n hx hb d_Rv_tell_0 rfl (lv_at hl 0 rfl) ?_
  refine va_get (D := (dC, dI)) (ci := 1) (v := .ref (a 4)) (C := R_Rv) (T := F_Rv) (N := 6) hx hb htb i_Rv hown hK hP 0 rfl rfl 2 (by decide) (htb (.fieldLink R_Rv 19 "WaterMen$River" "rows" "[[I") tw_63) (fun _ h9 => h9) rfl d_Rv_tell_1 ?_
  refine lv_iload_n hx hb d_Rv_tell_4 rfl (lv_at hl 1 rfl) ?_
  refine va_aldA hx hb hK hP 2 1 rfl rfl (hb_in as_0 as_1 (by decide +kernel)) d_Rv_tell_5 ?_
  refine hb_tv .null rfl ?_
  refine lv_astoreN (lv' := [(4, .null), (0, .ref (a 1)), (1, .int p_0), (2, .int p_1), (3, .int p_2)]) hx hb d_Rv_tell_6 hl (by decide) rfl (fun ls hl => ?_)
  refine lv_aloadN hx hb d_Rv_tell_8 (lv_at hl 0 rfl) ?_
  refine lv_ifnonnullN hx hb d_Rv_tell_10 ?_
  refine lv_bipush (v := 12) hx hb d_Rv_tell_13 (by decide +kernel) ?_
  refine va_newa (atype := .int) (ty := .int) (N' := 12) (a0 := (12, .inl (fun _ => 0))) hx hb (htb (.arrayClass .int) tw_3) rfl hK hP hD hS hA (fun _ => rfl) (by decide +kernel) (by decide +kernel) (by decide +kernel) (Nat.le_of_ble_eq_true rfl) (Nat.le_of_ble_eq_true rfl) d_Rv_tell_15 (fun q_1 k_2 H hK hP hD hS => ?_)
  have hP : va_P (dC, dI) vwCl [((a 1), .inr (1, [.ref (a 2), .ref (a 3), .ref (a 4), .ref (a 5), .int 0, .int (-1)])), ((a 3), .inl ((k 3), 12, .inl (fun _ => 0))), ((a 4), .inl ((k 4), 500, .inr (.inr (.inr (.inr (fun _ => none)))))), (q_1, .inl (k_2, 12, .inl (fun _ => 0)))] H := hP
  have hD : va_D A [((a 1), .inr (1, [.ref (a 2), .ref (a 3), .ref (a 4), .ref (a 5), .int 0, .int (-1)])), ((a 3), .inl ((k 3), 12, .inl (fun _ => 0))), ((a 4), .inl ((k 4), 500, .inr (.inr (.inr (.inr (fun _ => none)))))), (q_1, .inl (k_2, 12, .inl (fun _ => 0)))] := hD
  refine lv_astore (lv' := [(4, .ref q_1), (0, .ref (a 1)), (1, .int p_0), (2, .int p_1), (3, .int p_2)]) hx hb d_Rv_tell_17 hl (by decide) rfl (fun ls hl => ?_)
  refine lv_iconst (v := 0) hx hb d_Rv_tell_19 (by decide +kernel) ?_
  refine lv_istore (lv' := [(5, .int 0), (4, .ref q_1), (0, .ref (a 1)), (1, .int p_0), (2, .int p_1), (3, .int p_2)]) hx hb d_Rv_tell_20 hl (by decide) rfl (fun ls hl => ?_)
  refine lv_iload hx hb d_Rv_tell_22 (lv_at hl 0 rfl) ?_
  refine lv_bipush (v := 12) hx hb d_Rv_tell_24 (by decide +kernel) ?_
  refine lv_icmp_ge (tgt := 52) hx hb d_Rv_tell_26 (by decide) (fun h => absurd h (by decide +kernel)) (fun _ => ?_)
  refine lv_aload hx hb d_Rv_tell_29 (lv_at hl 1 rfl) ?_
  refine lv_iload hx hb d_Rv_tell_31 (lv_at hl 0 rfl) ?_
  refine lv_aload_n hx hb d_Rv_tell_33 rfl (lv_at hl 2 rfl) ?_
  refine va_get (D := (dC, dI)) (ci := 1) (v := .ref (a 3)) (C := R_Rv) (T := F_Rv) (N := 6) hx hb htb i_Rv hown hK hP 0 rfl rfl 1 (by decide) (htb (.fieldLink R_Rv 15 "WaterMen$River" "table" "[I") tw_61) (fun _ h9 => h9) rfl d_Rv_tell_34 ?_
  refine lv_iload hx hb d_Rv_tell_37 (lv_at hl 0 rfl) ?_
  refine lv_iload_n hx hb d_Rv_tell_39 rfl (lv_at hl 3 rfl) ?_
  refine lv_iadd hx hb d_Rv_tell_40 ?_
  refine lv_bipush (v := 12) hx hb d_Rv_tell_41 (by decide +kernel) ?_
  refine lv_irem hx hb d_Rv_tell_43 (by decide) ?_
  refine va_iald hx hb hK hP 1 0 rfl rfl (hb_rem12 (by decide +kernel) (by decide +kernel) as_0 (show ¬ (1000 < p_0) from by have e0 := as_0; rw [Int32.lt_iff_toInt_lt] at e0; have e1 := as_1; rw [Int32.le_iff_toInt_le] at e1; have z0 : (0 : Int32).toInt = 0 := (by decide +kernel); have z1 : (500 : Int32).toInt = 500 := (by decide +kernel); have z2 : (1000 : Int32).toInt = 1000 := (by decide +kernel); rw [Int32.lt_iff_toInt_lt]; omega)) d_Rv_tell_44 ?_
  refine hb_ti 0 rfl ?_
  refine va_iast hx hb hK hP hD hS 3 2 rfl rfl (by unfold vp_in; decide +kernel) d_Rv_tell_45 (fun H locs hP hD hS => ?_)
  rw [hb_upd0 0 (0 : Int32).toNatClampNeg (0) (by decide +kernel)] at hP hD
  have hP : va_P (dC, dI) vwCl [((a 1), .inr (1, [.ref (a 2), .ref (a 3), .ref (a 4), .ref (a 5), .int 0, .int (-1)])), ((a 3), .inl ((k 3), 12, .inl (fun _ => 0))), ((a 4), .inl ((k 4), 500, .inr (.inr (.inr (.inr (fun _ => none)))))), (q_1, .inl (k_2, 12, .inl (fun _ => 0)))] H := hP
  have hD : va_D A [((a 1), .inr (1, [.ref (a 2), .ref (a 3), .ref (a 4), .ref (a 5), .int 0, .int (-1)])), ((a 3), .inl ((k 3), 12, .inl (fun _ => 0))), ((a 4), .inl ((k 4), 500, .inr (.inr (.inr (.inr (fun _ => none)))))), (q_1, .inl (k_2, 12, .inl (fun _ => 0)))] := hD
  refine lv_iinc (v := 1) (lv' := [(5, .int 1), (4, .ref q_1), (0, .ref (a 1)), (1, .int p_0), (2, .int p_1), (3, .int p_2)]) hx hb d_Rv_tell_46 hl (k := 0) rfl (by decide +kernel) (by decide) rfl (fun ls hl => ?_)
  refine lv_goto (tgt := 22) hx hb d_Rv_tell_49 (by decide) ?_
  refine lv_iload hx hb d_Rv_tell_22 (lv_at hl 0 rfl) ?_
  refine lv_bipush (v := 12) hx hb d_Rv_tell_24 (by decide +kernel) ?_
  refine lv_icmp_ge (tgt := 52) hx hb d_Rv_tell_26 (by decide) (fun h => absurd h (by decide +kernel)) (fun _ => ?_)
  refine lv_aload hx hb d_Rv_tell_29 (lv_at hl 1 rfl) ?_
  refine lv_iload hx hb d_Rv_tell_31 (lv_at hl 0 rfl) ?_
  refine lv_aload_n hx hb d_Rv_tell_33 rfl (lv_at hl 2 rfl) ?_
  refine va_get (D := (dC, dI)) (ci := 1) (v := .ref (a 3)) (C := R_Rv) (T := F_Rv) (N := 6) hx hb htb i_Rv hown hK hP 0 rfl rfl 1 (by decide) (htb (.fieldLink R_Rv 15 "WaterMen$River" "table" "[I") tw_61) (fun _ h9 => h9) rfl d_Rv_tell_34 ?_
  refine lv_iload hx hb d_Rv_tell_37 (lv_at hl 0 rfl) ?_
  refine lv_iload_n hx hb d_Rv_tell_39 rfl (lv_at hl 3 rfl) ?_
  refine lv_iadd hx hb d_Rv_tell_40 ?_
  refine lv_bipush (v := 12) hx hb d_Rv_tell_41 (by decide +kernel) ?_
  refine lv_irem hx hb d_Rv_tell_43 (by decide) ?_
  refine va_iald hx hb hK hP 1 0 rfl rfl (hb_rem12 (by decide +kernel) (by decide +kernel) as_0 (show ¬ (1000 < p_0) from by have e0 := as_0; rw [Int32.lt_iff_toInt_lt] at e0; have e1 := as_1; rw [Int32.le_iff_toInt_le] at e1; have z0 : (0 : Int32).toInt = 0 := (by decide +kernel); have z1 : (500 : Int32).toInt = 500 := (by decide +kernel); have z2 : (1000 : Int32).toInt = 1000 := (by decide +kernel); rw [Int32.lt_iff_toInt_lt]; omega)) d_Rv_tell_44 ?_
  refine hb_ti 0 rfl ?_
  refine va_iast hx hb hK hP hD hS 3 2 rfl rfl (by unfold vp_in; decide +kernel) d_Rv_tell_45 (fun H locs hP hD hS => ?_)
  rw [hb_upd0 0 (1 : Int32).toNatClampNeg (0) (by decide +kernel)] at hP hD
  have hP : va_P (dC, dI) vwCl [((a 1), .inr (1, [.ref (a 2), .ref (a 3), .ref (a 4), .ref (a 5), .int 0, .int (-1)])), ((a 3), .inl ((k 3), 12, .inl (fun _ => 0))), ((a 4), .inl ((k 4), 500, .inr (.inr (.inr (.inr (fun _ => none)))))), (q_1, .inl (k_2, 12, .inl (fun _ => 0)))] H := hP
  have hD : va_D A [((a 1), .inr (1, [.ref (a 2), .ref (a 3), .ref (a 4), .ref (a 5), .int 0, .int (-1)])), ((a 3), .inl ((k 3), 12, .inl (fun _ => 0))), ((a 4), .inl ((k 4), 500, .inr (.inr (.inr (.inr (fun _ => none)))))), (q_1, .inl (k_2, 12, .inl (fun _ => 0)))] := hD
  refine lv_iinc (v := 2) (lv' := [(5, .int 2), (4, .ref q_1), (0, .ref (a 1)), (1, .int p_0), (2, .int p_1), (3, .int p_2)]) hx hb d_Rv_tell_46 hl (k := 0) rfl (by decide +kernel) (by decide) rfl (fun ls hl => ?_)
  refine lv_goto (tgt := 22) hx hb d_Rv_tell_49 (by decide) ?_
  refine lv_iload hx hb d_Rv_tell_22 (lv_at hl 0 rfl) ?_
  refine lv_bipush (v := 12) hx hb d_Rv_tell_24 (by decide +kernel) ?_
  refine lv_icmp_ge (tgt := 52) hx hb d_Rv_tell_26 (by decide) (fun h => absurd h (by decide +kernel)) (fun _ => ?_)
  refine lv_aload hx hb d_Rv_tell_29 (lv_at hl 1 rfl) ?_
  refine lv_iload hx hb d_Rv_tell_31 (lv_at hl 0 rfl) ?_
  refine lv_aload_n hx hb d_Rv_tell_33 rfl (lv_at hl 2 rfl) ?_
  refine va_get (D := (dC, dI)) (ci := 1) (v := .ref (a 3)) (C := R_Rv) (T := F_Rv) (N := 6) hx hb htb i_Rv hown hK hP 0 rfl rfl 1 (by decide) (htb (.fieldLink R_Rv 15 "WaterMen$River" "table" "[I") tw_61) (fun _ h9 => h9) rfl d_Rv_tell_34 ?_
  refine lv_iload hx hb d_Rv_tell_37 (lv_at hl 0 rfl) ?_
  refine lv_iload_n hx hb d_Rv_tell_39 rfl (lv_at hl 3 rfl) ?_
  refine lv_iadd hx hb d_Rv_tell_40 ?_
  refine lv_bipush (v := 12) hx hb d_Rv_tell_41 (by decide +kernel) ?_
  refine lv_irem hx hb d_Rv_tell_43 (by decide) ?_
  refine va_iald hx hb hK hP 1 0 rfl rfl (hb_rem12 (by decide +kernel) (by decide +kernel) as_0 (show ¬ (1000 < p_0) from by have e0 := as_0; rw [Int32.lt_iff_toInt_lt] at e0; have e1 := as_1; rw [Int32.le_iff_toInt_le] at e1; have z0 : (0 : Int32).toInt = 0 := (by decide +kernel); have z1 : (500 : Int32).toInt = 500 := (by decide +kernel); have z2 : (1000 : Int32).toInt = 1000 := (by decide +kernel); rw [Int32.lt_iff_toInt_lt]; omega)) d_Rv_tell_44 ?_
  refine hb_ti 0 rfl ?_
  refine va_iast hx hb hK hP hD hS 3 2 rfl rfl (by unfold vp_in; decide +kernel) d_Rv_tell_45 (fun H locs hP hD hS => ?_)
  rw [hb_upd0 0 (2 : Int32).toNatClampNeg (0) (by decide +kernel)] at hP hD
  have hP : va_P (dC, dI) vwCl [((a 1), .inr (1, [.ref (a 2), .ref (a 3), .ref (a 4), .ref (a 5), .int 0, .int (-1)])), ((a 3), .inl ((k 3), 12, .inl (fun _ => 0))), ((a 4), .inl ((k 4), 500, .inr (.inr (.inr (.inr (fun _ => none)))))), (q_1, .inl (k_2, 12, .inl (fun _ => 0)))] H := hP
  have hD : va_D A [((a 1), .inr (1, [.ref (a 2), .ref (a 3), .ref (a 4), .ref (a 5), .int 0, .int (-1)])), ((a 3), .inl ((k 3), 12, .inl (fun _ => 0))), ((a 4), .inl ((k 4), 500, .inr (.inr (.inr (.inr (fun _ => none)))))), (q_1, .inl (k_2, 12, .inl (fun _ => 0)))] := hD
  refine lv_iinc (v := 3) (lv' := [(5, .int 3), (4, .ref q_1), (0, .ref (a 1)), (1, .int p_0), (2, .int p_1), (3, .int p_2)]) hx hb d_Rv_tell_46 hl (k := 0) rfl (by decide +kernel) (by decide) rfl (fun ls hl => ?_)
  refine lv_goto (tgt := 22) hx hb d_Rv_tell_49 (by decide) ?_
  refine lv_iload hx hb d_Rv_tell_22 (lv_at hl 0 rfl) ?_
  refine lv_bipush (v := 12) hx hb d_Rv_tell_24 (by decide +kernel) ?_
  refine lv_icmp_ge (tgt := 52) hx hb d_Rv_tell_26 (by decide) (fun h => absurd h (by decide +kernel)) (fun _ => ?_)
  refine lv_aload hx hb d_Rv_tell_29 (lv_at hl 1 rfl) ?_
  refine lv_iload hx hb d_Rv_tell_31 (lv_at hl 0 rfl) ?_
  refine lv_aload_n hx hb d_Rv_tell_33 rfl (lv_at hl 2 rfl) ?_
  refine va_get (D := (dC, dI)) (ci := 1) (v := .ref (a 3)) (C := R_Rv) (T := F_Rv) (N := 6) hx hb htb i_Rv hown hK hP 0 rfl rfl 1 (by decide) (htb (.fieldLink R_Rv 15 "WaterMen$River" "table" "[I") tw_61) (fun _ h9 => h9) rfl d_Rv_tell_34 ?_
  refine lv_iload hx hb d_Rv_tell_37 (lv_at hl 0 rfl) ?_
  refine lv_iload_n hx hb d_Rv_tell_39 rfl (lv_at hl 3 rfl) ?_
  refine lv_iadd hx hb d_Rv_tell_40 ?_
  refine lv_bipush (v := 12) hx hb d_Rv_tell_41 (by decide +kernel) ?_
  refine lv_irem hx hb d_Rv_tell_43 (by decide) ?_
  refine va_iald hx hb hK hP 1 0 rfl rfl (hb_rem12 (by decide +kernel) (by decide +kernel) as_0 (show ¬ (1000 < p_0) from by have e0 := as_0; rw [Int32.lt_iff_toInt_lt] at e0; have e1 := as_1; rw [Int32.le_iff_toInt_le] at e1; have z0 : (0 : Int32).toInt = 0 := (by decide +kernel); have z1 : (500 : Int32).toInt = 500 := (by decide +kernel); have z2 : (1000 : Int32).toInt = 1000 := (by decide +kernel); rw [Int32.lt_iff_toInt_lt]; omega)) d_Rv_tell_44 ?_
  refine hb_ti 0 rfl ?_
  refine va_iast hx hb hK hP hD hS 3 2 rfl rfl (by unfold vp_in; decide +kernel) d_Rv_tell_45 (fun H locs hP hD hS => ?_)
  rw [hb_upd0 0 (3 : Int32).toNatClampNeg (0) (by decide +kernel)] at hP hD
  have hP : va_P (dC, dI) vwCl [((a 1), .inr (1, [.ref (a 2), .ref (a 3), .ref (a 4), .ref (a 5), .int 0, .int (-1)])), ((a 3), .inl ((k 3), 12, .inl (fun _ => 0))), ((a 4), .inl ((k 4), 500, .inr (.inr (.inr (.inr (fun _ => none)))))), (q_1, .inl (k_2, 12, .inl (fun _ => 0)))] H := hP
  have hD : va_D A [((a 1), .inr (1, [.ref (a 2), .ref (a 3), .ref (a 4), .ref (a 5), .int 0, .int (-1)])), ((a 3), .inl ((k 3), 12, .inl (fun _ => 0))), ((a 4), .inl ((k 4), 500, .inr (.inr (.inr (.inr (fun _ => none)))))), (q_1, .inl (k_2, 12, .inl (fun _ => 0)))] := hD
  refine lv_iinc (v := 4) (lv' := [(5, .int 4), (4, .ref q_1), (0, .ref (a 1)), (1, .int p_0), (2, .int p_1), (3, .int p_2)]) hx hb d_Rv_tell_46 hl (k := 0) rfl (by decide +kernel) (by decide) rfl (fun ls hl => ?_)
  refine lv_goto (tgt := 22) hx hb d_Rv_tell_49 (by decide) ?_
  refine lv_iload hx hb d_Rv_tell_22 (lv_at hl 0 rfl) ?_
  refine lv_bipush (v := 12) hx hb d_Rv_tell_24 (by decide +kernel) ?_
  refine lv_icmp_ge (tgt := 52) hx hb d_Rv_tell_26 (by decide) (fun h => absurd h (by decide +kernel)) (fun _ => ?_)
  refine lv_aload hx hb d_Rv_tell_29 (lv_at hl 1 rfl) ?_
  refine lv_iload hx hb d_Rv_tell_31 (lv_at hl 0 rfl) ?_
  refine lv_aload_n hx hb d_Rv_tell_33 rfl (lv_at hl 2 rfl) ?_
  refine va_get (D := (dC, dI)) (ci := 1) (v := .ref (a 3)) (C := R_Rv) (T := F_Rv) (N := 6) hx hb htb i_Rv hown hK hP 0 rfl rfl 1 (by decide) (htb (.fieldLink R_Rv 15 "WaterMen$River" "table" "[I") tw_61) (fun _ h9 => h9) rfl d_Rv_tell_34 ?_
  refine lv_iload hx hb d_Rv_tell_37 (lv_at hl 0 rfl) ?_
  refine lv_iload_n hx hb d_Rv_tell_39 rfl (lv_at hl 3 rfl) ?_
  refine lv_iadd hx hb d_Rv_tell_40 ?_
  refine lv_bipush (v := 12) hx hb d_Rv_tell_41 (by decide +kernel) ?_
  refine lv_irem hx hb d_Rv_tell_43 (by decide) ?_
  refine va_iald hx hb hK hP 1 0 rfl rfl (hb_rem12 (by decide +kernel) (by decide +kernel) as_0 (show ¬ (1000 < p_0) from by have e0 := as_0; rw [Int32.lt_iff_toInt_lt] at e0; have e1 := as_1; rw [Int32.le_iff_toInt_le] at e1; have z0 : (0 : Int32).toInt = 0 := (by decide +kernel); have z1 : (500 : Int32).toInt = 500 := (by decide +kernel); have z2 : (1000 : Int32).toInt = 1000 := (by decide +kernel); rw [Int32.lt_iff_toInt_lt]; omega)) d_Rv_tell_44 ?_
  refine hb_ti 0 rfl ?_
  refine va_iast hx hb hK hP hD hS 3 2 rfl rfl (by unfold vp_in; decide +kernel) d_Rv_tell_45 (fun H locs hP hD hS => ?_)
  rw [hb_upd0 0 (4 : Int32).toNatClampNeg (0) (by decide +kernel)] at hP hD
  have hP : va_P (dC, dI) vwCl [((a 1), .inr (1, [.ref (a 2), .ref (a 3), .ref (a 4), .ref (a 5), .int 0, .int (-1)])), ((a 3), .inl ((k 3), 12, .inl (fun _ => 0))), ((a 4), .inl ((k 4), 500, .inr (.inr (.inr (.inr (fun _ => none)))))), (q_1, .inl (k_2, 12, .inl (fun _ => 0)))] H := hP
  have hD : va_D A [((a 1), .inr (1, [.ref (a 2), .ref (a 3), .ref (a 4), .ref (a 5), .int 0, .int (-1)])), ((a 3), .inl ((k 3), 12, .inl (fun _ => 0))), ((a 4), .inl ((k 4), 500, .inr (.inr (.inr (.inr (fun _ => none)))))), (q_1, .inl (k_2, 12, .inl (fun _ => 0)))] := hD
  refine lv_iinc (v := 5) (lv' := [(5, .int 5), (4, .ref q_1), (0, .ref (a 1)), (1, .int p_0), (2, .int p_1), (3, .int p_2)]) hx hb d_Rv_tell_46 hl (k := 0) rfl (by decide +kernel) (by decide) rfl (fun ls hl => ?_)
  refine lv_goto (tgt := 22) hx hb d_Rv_tell_49 (by decide) ?_
  refine lv_iload hx hb d_Rv_tell_22 (lv_at hl 0 rfl) ?_
  refine lv_bipush (v := 12) hx hb d_Rv_tell_24 (by decide +kernel) ?_
  refine lv_icmp_ge (tgt := 52) hx hb d_Rv_tell_26 (by decide) (fun h => absurd h (by decide +kernel)) (fun _ => ?_)
  refine lv_aload hx hb d_Rv_tell_29 (lv_at hl 1 rfl) ?_
  refine lv_iload hx hb d_Rv_tell_31 (lv_at hl 0 rfl) ?_
  refine lv_aload_n hx hb d_Rv_tell_33 rfl (lv_at hl 2 rfl) ?_
  refine va_get (D := (dC, dI)) (ci := 1) (v := .ref (a 3)) (C := R_Rv) (T := F_Rv) (N := 6) hx hb htb i_Rv hown hK hP 0 rfl rfl 1 (by decide) (htb (.fieldLink R_Rv 15 "WaterMen$River" "table" "[I") tw_61) (fun _ h9 => h9) rfl d_Rv_tell_34 ?_
  refine lv_iload hx hb d_Rv_tell_37 (lv_at hl 0 rfl) ?_
  refine lv_iload_n hx hb d_Rv_tell_39 rfl (lv_at hl 3 rfl) ?_
  refine lv_iadd hx hb d_Rv_tell_40 ?_
  refine lv_bipush (v := 12) hx hb d_Rv_tell_41 (by decide +kernel) ?_
  refine lv_irem hx hb d_Rv_tell_43 (by decide) ?_
  refine va_iald hx hb hK hP 1 0 rfl rfl (hb_rem12 (by decide +kernel) (by decide +kernel) as_0 (show ¬ (1000 < p_0) from by have e0 := as_0; rw [Int32.lt_iff_toInt_lt] at e0; have e1 := as_1; rw [Int32.le_iff_toInt_le] at e1; have z0 : (0 : Int32).toInt = 0 := (by decide +kernel); have z1 : (500 : Int32).toInt = 500 := (by decide +kernel); have z2 : (1000 : Int32).toInt = 1000 := (by decide +kernel); rw [Int32.lt_iff_toInt_lt]; omega)) d_Rv_tell_44 ?_
  refine hb_ti 0 rfl ?_
  refine va_iast hx hb hK hP hD hS 3 2 rfl rfl (by unfold vp_in; decide +kernel) d_Rv_tell_45 (fun H locs hP hD hS => ?_)
  rw [hb_upd0 0 (5 : Int32).toNatClampNeg (0) (by decide +kernel)] at hP hD
  have hP : va_P (dC, dI) vwCl [((a 1), .inr (1, [.ref (a 2), .ref (a 3), .ref (a 4), .ref (a 5), .int 0, .int (-1)])), ((a 3), .inl ((k 3), 12, .inl (fun _ => 0))), ((a 4), .inl ((k 4), 500, .inr (.inr (.inr (.inr (fun _ => none)))))), (q_1, .inl (k_2, 12, .inl (fun _ => 0)))] H := hP
  have hD : va_D A [((a 1), .inr (1, [.ref (a 2), .ref (a 3), .ref (a 4), .ref (a 5), .int 0, .int (-1)])), ((a 3), .inl ((k 3), 12, .inl (fun _ => 0))), ((a 4), .inl ((k 4), 500, .inr (.inr (.inr (.inr (fun _ => none)))))), (q_1, .inl (k_2, 12, .inl (fun _ => 0)))] := hD
  refine lv_iinc (v := 6) (lv' := [(5, .int 6), (4, .ref q_1), (0, .ref (a 1)), (1, .int p_0), (2, .int p_1), (3, .int p_2)]) hx hb d_Rv_tell_46 hl (k := 0) rfl (by decide +kernel) (by decide) rfl (fun ls hl => ?_)
  refine lv_goto (tgt := 22) hx hb d_Rv_tell_49 (by decide) ?_
  refine lv_iload hx hb d_Rv_tell_22 (lv_at hl 0 rfl) ?_
  refine lv_bipush (v := 12) hx hb d_Rv_tell_24 (by decide +kernel) ?_
  refine lv_icmp_ge (tgt := 52) hx hb d_Rv_tell_26 (by decide) (fun h => absurd h (by decide +kernel)) (fun _ => ?_)
  refine lv_aload hx hb d_Rv_tell_29 (lv_at hl 1 rfl) ?_
  refine lv_iload hx hb d_Rv_tell_31 (lv_at hl 0 rfl) ?_
  refine lv_aload_n hx hb d_Rv_tell_33 rfl (lv_at hl 2 rfl) ?_
  refine va_get (D := (dC, dI)) (ci := 1) (v := .ref (a 3)) (C := R_Rv) (T := F_Rv) (N := 6) hx hb htb i_Rv hown hK hP 0 rfl rfl 1 (by decide) (htb (.fieldLink R_Rv 15 "WaterMen$River" "table" "[I") tw_61) (fun _ h9 => h9) rfl d_Rv_tell_34 ?_
  refine lv_iload hx hb d_Rv_tell_37 (lv_at hl 0 rfl) ?_
  refine lv_iload_n hx hb d_Rv_tell_39 rfl (lv_at hl 3 rfl) ?_
  refine lv_iadd hx hb d_Rv_tell_40 ?_
  refine lv_bipush (v := 12) hx hb d_Rv_tell_41 (by decide +kernel) ?_
  refine lv_irem hx hb d_Rv_tell_43 (by decide) ?_
  refine va_iald hx hb hK hP 1 0 rfl rfl (hb_rem12 (by decide +kernel) (by decide +kernel) as_0 (show ¬ (1000 < p_0) from by have e0 := as_0; rw [Int32.lt_iff_toInt_lt] at e0; have e1 := as_1; rw [Int32.le_iff_toInt_le] at e1; have z0 : (0 : Int32).toInt = 0 := (by decide +kernel); have z1 : (500 : Int32).toInt = 500 := (by decide +kernel); have z2 : (1000 : Int32).toInt = 1000 := (by decide +kernel); rw [Int32.lt_iff_toInt_lt]; omega)) d_Rv_tell_44 ?_
  refine hb_ti 0 rfl ?_
  refine va_iast hx hb hK hP hD hS 3 2 rfl rfl (by unfold vp_in; decide +kernel) d_Rv_tell_45 (fun H locs hP hD hS => ?_)
  rw [hb_upd0 0 (6 : Int32).toNatClampNeg (0) (by decide +kernel)] at hP hD
  have hP : va_P (dC, dI) vwCl [((a 1), .inr (1, [.ref (a 2), .ref (a 3), .ref (a 4), .ref (a 5), .int 0, .int (-1)])), ((a 3), .inl ((k 3), 12, .inl (fun _ => 0))), ((a 4), .inl ((k 4), 500, .inr (.inr (.inr (.inr (fun _ => none)))))), (q_1, .inl (k_2, 12, .inl (fun _ => 0)))] H := hP
  have hD : va_D A [((a 1), .inr (1, [.ref (a 2), .ref (a 3), .ref (a 4), .ref (a 5), .int 0, .int (-1)])), ((a 3), .inl ((k 3), 12, .inl (fun _ => 0))), ((a 4), .inl ((k 4), 500, .inr (.inr (.inr (.inr (fun _ => none)))))), (q_1, .inl (k_2, 12, .inl (fun _ => 0)))] := hD
  refine lv_iinc (v := 7) (lv' := [(5, .int 7), (4, .ref q_1), (0, .ref (a 1)), (1, .int p_0), (2, .int p_1), (3, .int p_2)]) hx hb d_Rv_tell_46 hl (k := 0) rfl (by decide +kernel) (by decide) rfl (fun ls hl => ?_)
  refine lv_goto (tgt := 22) hx hb d_Rv_tell_49 (by decide) ?_
  refine lv_iload hx hb d_Rv_tell_22 (lv_at hl 0 rfl) ?_
  refine lv_bipush (v := 12) hx hb d_Rv_tell_24 (by decide +kernel) ?_
  refine lv_icmp_ge (tgt := 52) hx hb d_Rv_tell_26 (by decide) (fun h => absurd h (by decide +kernel)) (fun _ => ?_)
  refine lv_aload hx hb d_Rv_tell_29 (lv_at hl 1 rfl) ?_
  refine lv_iload hx hb d_Rv_tell_31 (lv_at hl 0 rfl) ?_
  refine lv_aload_n hx hb d_Rv_tell_33 rfl (lv_at hl 2 rfl) ?_
  refine va_get (D := (dC, dI)) (ci := 1) (v := .ref (a 3)) (C := R_Rv) (T := F_Rv) (N := 6) hx hb htb i_Rv hown hK hP 0 rfl rfl 1 (by decide) (htb (.fieldLink R_Rv 15 "WaterMen$River" "table" "[I") tw_61) (fun _ h9 => h9) rfl d_Rv_tell_34 ?_
  refine lv_iload hx hb d_Rv_tell_37 (lv_at hl 0 rfl) ?_
  refine lv_iload_n hx hb d_Rv_tell_39 rfl (lv_at hl 3 rfl) ?_
  refine lv_iadd hx hb d_Rv_tell_40 ?_
  refine lv_bipush (v := 12) hx hb d_Rv_tell_41 (by decide +kernel) ?_
  refine lv_irem hx hb d_Rv_tell_43 (by decide) ?_
  refine va_iald hx hb hK hP 1 0 rfl rfl (hb_rem12 (by decide +kernel) (by decide +kernel) as_0 (show ¬ (1000 < p_0) from by have e0 := as_0; rw [Int32.lt_iff_toInt_lt] at e0; have e1 := as_1; rw [Int32.le_iff_toInt_le] at e1; have z0 : (0 : Int32).toInt = 0 := (by decide +kernel); have z1 : (500 : Int32).toInt = 500 := (by decide +kernel); have z2 : (1000 : Int32).toInt = 1000 := (by decide +kernel); rw [Int32.lt_iff_toInt_lt]; omega)) d_Rv_tell_44 ?_
  refine hb_ti 0 rfl ?_
  refine va_iast hx hb hK hP hD hS 3 2 rfl rfl (by unfold vp_in; decide +kernel) d_Rv_tell_45 (fun H locs hP hD hS => ?_)
  rw [hb_upd0 0 (7 : Int32).toNatClampNeg (0) (by decide +kernel)] at hP hD
  have hP : va_P (dC, dI) vwCl [((a 1), .inr (1, [.ref (a 2), .ref (a 3), .ref (a 4), .ref (a 5), .int 0, .int (-1)])), ((a 3), .inl ((k 3), 12, .inl (fun _ => 0))), ((a 4), .inl ((k 4), 500, .inr (.inr (.inr (.inr (fun _ => none)))))), (q_1, .inl (k_2, 12, .inl (fun _ => 0)))] H := hP
  have hD : va_D A [((a 1), .inr (1, [.ref (a 2), .ref (a 3), .ref (a 4), .ref (a 5), .int 0, .int (-1)])), ((a 3), .inl ((k 3), 12, .inl (fun _ => 0))), ((a 4), .inl ((k 4), 500, .inr (.inr (.inr (.inr (fun _ => none)))))), (q_1, .inl (k_2, 12, .inl (fun _ => 0)))] := hD
  refine lv_iinc (v := 8) (lv' := [(5, .int 8), (4, .ref q_1), (0, .ref (a 1)), (1, .int p_0), (2, .int p_1), (3, .int p_2)]) hx hb d_Rv_tell_46 hl (k := 0) rfl (by decide +kernel) (by decide) rfl (fun ls hl => ?_)
  refine lv_goto (tgt := 22) hx hb d_Rv_tell_49 (by decide) ?_
  refine lv_iload hx hb d_Rv_tell_22 (lv_at hl 0 rfl) ?_
  refine lv_bipush (v := 12) hx hb d_Rv_tell_24 (by decide +kernel) ?_
  refine lv_icmp_ge (tgt := 52) hx hb d_Rv_tell_26 (by decide) (fun h => absurd h (by decide +kernel)) (fun _ => ?_)
  refine lv_aload hx hb d_Rv_tell_29 (lv_at hl 1 rfl) ?_
  refine lv_iload hx hb d_Rv_tell_31 (lv_at hl 0 rfl) ?_
  refine lv_aload_n hx hb d_Rv_tell_33 rfl (lv_at hl 2 rfl) ?_
  refine va_get (D := (dC, dI)) (ci := 1) (v := .ref (a 3)) (C := R_Rv) (T := F_Rv) (N := 6) hx hb htb i_Rv hown hK hP 0 rfl rfl 1 (by decide) (htb (.fieldLink R_Rv 15 "WaterMen$River" "table" "[I") tw_61) (fun _ h9 => h9) rfl d_Rv_tell_34 ?_
  refine lv_iload hx hb d_Rv_tell_37 (lv_at hl 0 rfl) ?_
  refine lv_iload_n hx hb d_Rv_tell_39 rfl (lv_at hl 3 rfl) ?_
  refine lv_iadd hx hb d_Rv_tell_40 ?_
  refine lv_bipush (v := 12) hx hb d_Rv_tell_41 (by decide +kernel) ?_
  refine lv_irem hx hb d_Rv_tell_43 (by decide) ?_
  refine va_iald hx hb hK hP 1 0 rfl rfl (hb_rem12 (by decide +kernel) (by decide +kernel) as_0 (show ¬ (1000 < p_0) from by have e0 := as_0; rw [Int32.lt_iff_toInt_lt] at e0; have e1 := as_1; rw [Int32.le_iff_toInt_le] at e1; have z0 : (0 : Int32).toInt = 0 := (by decide +kernel); have z1 : (500 : Int32).toInt = 500 := (by decide +kernel); have z2 : (1000 : Int32).toInt = 1000 := (by decide +kernel); rw [Int32.lt_iff_toInt_lt]; omega)) d_Rv_tell_44 ?_
  refine hb_ti 0 rfl ?_
  refine va_iast hx hb hK hP hD hS 3 2 rfl rfl (by unfold vp_in; decide +kernel) d_Rv_tell_45 (fun H locs hP hD hS => ?_)
  rw [hb_upd0 0 (8 : Int32).toNatClampNeg (0) (by decide +kernel)] at hP hD
  have hP : va_P (dC, dI) vwCl [((a 1), .inr (1, [.ref (a 2), .ref (a 3), .ref (a 4), .ref (a 5), .int 0, .int (-1)])), ((a 3), .inl ((k 3), 12, .inl (fun _ => 0))), ((a 4), .inl ((k 4), 500, .inr (.inr (.inr (.inr (fun _ => none)))))), (q_1, .inl (k_2, 12, .inl (fun _ => 0)))] H := hP
  have hD : va_D A [((a 1), .inr (1, [.ref (a 2), .ref (a 3), .ref (a 4), .ref (a 5), .int 0, .int (-1)])), ((a 3), .inl ((k 3), 12, .inl (fun _ => 0))), ((a 4), .inl ((k 4), 500, .inr (.inr (.inr (.inr (fun _ => none)))))), (q_1, .inl (k_2, 12, .inl (fun _ => 0)))] := hD
  refine lv_iinc (v := 9) (lv' := [(5, .int 9), (4, .ref q_1), (0, .ref (a 1)), (1, .int p_0), (2, .int p_1), (3, .int p_2)]) hx hb d_Rv_tell_46 hl (k := 0) rfl (by decide +kernel) (by decide) rfl (fun ls hl => ?_)
  refine lv_goto (tgt := 22) hx hb d_Rv_tell_49 (by decide) ?_
  refine lv_iload hx hb d_Rv_tell_22 (lv_at hl 0 rfl) ?_
  refine lv_bipush (v := 12) hx hb d_Rv_tell_24 (by decide +kernel) ?_
  refine lv_icmp_ge (tgt := 52) hx hb d_Rv_tell_26 (by decide) (fun h => absurd h (by decide +kernel)) (fun _ => ?_)
  refine lv_aload hx hb d_Rv_tell_29 (lv_at hl 1 rfl) ?_
  refine lv_iload hx hb d_Rv_tell_31 (lv_at hl 0 rfl) ?_
  refine lv_aload_n hx hb d_Rv_tell_33 rfl (lv_at hl 2 rfl) ?_
  refine va_get (D := (dC, dI)) (ci := 1) (v := .ref (a 3)) (C := R_Rv) (T := F_Rv) (N := 6) hx hb htb i_Rv hown hK hP 0 rfl rfl 1 (by decide) (htb (.fieldLink R_Rv 15 "WaterMen$River" "table" "[I") tw_61) (fun _ h9 => h9) rfl d_Rv_tell_34 ?_
  refine lv_iload hx hb d_Rv_tell_37 (lv_at hl 0 rfl) ?_
  refine lv_iload_n hx hb d_Rv_tell_39 rfl (lv_at hl 3 rfl) ?_
  refine lv_iadd hx hb d_Rv_tell_40 ?_
  refine lv_bipush (v := 12) hx hb d_Rv_tell_41 (by decide +kernel) ?_
  refine lv_irem hx hb d_Rv_tell_43 (by decide) ?_
  refine va_iald hx hb hK hP 1 0 rfl rfl (hb_rem12 (by decide +kernel) (by decide +kernel) as_0 (show ¬ (1000 < p_0) from by have e0 := as_0; rw [Int32.lt_iff_toInt_lt] at e0; have e1 := as_1; rw [Int32.le_iff_toInt_le] at e1; have z0 : (0 : Int32).toInt = 0 := (by decide +kernel); have z1 : (500 : Int32).toInt = 500 := (by decide +kernel); have z2 : (1000 : Int32).toInt = 1000 := (by decide +kernel); rw [Int32.lt_iff_toInt_lt]; omega)) d_Rv_tell_44 ?_
  refine hb_ti 0 rfl ?_
  refine va_iast hx hb hK hP hD hS 3 2 rfl rfl (by unfold vp_in; decide +kernel) d_Rv_tell_45 (fun H locs hP hD hS => ?_)
  rw [hb_upd0 0 (9 : Int32).toNatClampNeg (0) (by decide +kernel)] at hP hD
  have hP : va_P (dC, dI) vwCl [((a 1), .inr (1, [.ref (a 2), .ref (a 3), .ref (a 4), .ref (a 5), .int 0, .int (-1)])), ((a 3), .inl ((k 3), 12, .inl (fun _ => 0))), ((a 4), .inl ((k 4), 500, .inr (.inr (.inr (.inr (fun _ => none)))))), (q_1, .inl (k_2, 12, .inl (fun _ => 0)))] H := hP
  have hD : va_D A [((a 1), .inr (1, [.ref (a 2), .ref (a 3), .ref (a 4), .ref (a 5), .int 0, .int (-1)])), ((a 3), .inl ((k 3), 12, .inl (fun _ => 0))), ((a 4), .inl ((k 4), 500, .inr (.inr (.inr (.inr (fun _ => none)))))), (q_1, .inl (k_2, 12, .inl (fun _ => 0)))] := hD
  refine lv_iinc (v := 10) (lv' := [(5, .int 10), (4, .ref q_1), (0, .ref (a 1)), (1, .int p_0), (2, .int p_1), (3, .int p_2)]) hx hb d_Rv_tell_46 hl (k := 0) rfl (by decide +kernel) (by decide) rfl (fun ls hl => ?_)
  refine lv_goto (tgt := 22) hx hb d_Rv_tell_49 (by decide) ?_
  refine lv_iload hx hb d_Rv_tell_22 (lv_at hl 0 rfl) ?_
  refine lv_bipush (v := 12) hx hb d_Rv_tell_24 (by decide +kernel) ?_
  refine lv_icmp_ge (tgt := 52) hx hb d_Rv_tell_26 (by decide) (fun h => absurd h (by decide +kernel)) (fun _ => ?_)
  refine lv_aload hx hb d_Rv_tell_29 (lv_at hl 1 rfl) ?_
  refine lv_iload hx hb d_Rv_tell_31 (lv_at hl 0 rfl) ?_
  refine lv_aload_n hx hb d_Rv_tell_33 rfl (lv_at hl 2 rfl) ?_
  refine va_get (D := (dC, dI)) (ci := 1) (v := .ref (a 3)) (C := R_Rv) (T := F_Rv) (N := 6) hx hb htb i_Rv hown hK hP 0 rfl rfl 1 (by decide) (htb (.fieldLink R_Rv 15 "WaterMen$River" "table" "[I") tw_61) (fun _ h9 => h9) rfl d_Rv_tell_34 ?_
  refine lv_iload hx hb d_Rv_tell_37 (lv_at hl 0 rfl) ?_
  refine lv_iload_n hx hb d_Rv_tell_39 rfl (lv_at hl 3 rfl) ?_
  refine lv_iadd hx hb d_Rv_tell_40 ?_
  refine lv_bipush (v := 12) hx hb d_Rv_tell_41 (by decide +kernel) ?_
  refine lv_irem hx hb d_Rv_tell_43 (by decide) ?_
  refine va_iald hx hb hK hP 1 0 rfl rfl (hb_rem12 (by decide +kernel) (by decide +kernel) as_0 (show ¬ (1000 < p_0) from by have e0 := as_0; rw [Int32.lt_iff_toInt_lt] at e0; have e1 := as_1; rw [Int32.le_iff_toInt_le] at e1; have z0 : (0 : Int32).toInt = 0 := (by decide +kernel); have z1 : (500 : Int32).toInt = 500 := (by decide +kernel); have z2 : (1000 : Int32).toInt = 1000 := (by decide +kernel); rw [Int32.lt_iff_toInt_lt]; omega)) d_Rv_tell_44 ?_
  refine hb_ti 0 rfl ?_
  refine va_iast hx hb hK hP hD hS 3 2 rfl rfl (by unfold vp_in; decide +kernel) d_Rv_tell_45 (fun H locs hP hD hS => ?_)
  rw [hb_upd0 0 (10 : Int32).toNatClampNeg (0) (by decide +kernel)] at hP hD
  have hP : va_P (dC, dI) vwCl [((a 1), .inr (1, [.ref (a 2), .ref (a 3), .ref (a 4), .ref (a 5), .int 0, .int (-1)])), ((a 3), .inl ((k 3), 12, .inl (fun _ => 0))), ((a 4), .inl ((k 4), 500, .inr (.inr (.inr (.inr (fun _ => none)))))), (q_1, .inl (k_2, 12, .inl (fun _ => 0)))] H := hP
  have hD : va_D A [((a 1), .inr (1, [.ref (a 2), .ref (a 3), .ref (a 4), .ref (a 5), .int 0, .int (-1)])), ((a 3), .inl ((k 3), 12, .inl (fun _ => 0))), ((a 4), .inl ((k 4), 500, .inr (.inr (.inr (.inr (fun _ => none)))))), (q_1, .inl (k_2, 12, .inl (fun _ => 0)))] := hD
  refine lv_iinc (v := 11) (lv' := [(5, .int 11), (4, .ref q_1), (0, .ref (a 1)), (1, .int p_0), (2, .int p_1), (3, .int p_2)]) hx hb d_Rv_tell_46 hl (k := 0) rfl (by decide +kernel) (by decide) rfl (fun ls hl => ?_)
  refine lv_goto (tgt := 22) hx hb d_Rv_tell_49 (by decide) ?_
  refine lv_iload hx hb d_Rv_tell_22 (lv_at hl 0 rfl) ?_
  refine lv_bipush (v := 12) hx hb d_Rv_tell_24 (by decide +kernel) ?_
  refine lv_icmp_ge (tgt := 52) hx hb d_Rv_tell_26 (by decide) (fun h => absurd h (by decide +kernel)) (fun _ => ?_)
  refine lv_aload hx hb d_Rv_tell_29 (lv_at hl 1 rfl) ?_
  refine lv_iload hx hb d_Rv_tell_31 (lv_at hl 0 rfl) ?_
  refine lv_aload_n hx hb d_Rv_tell_33 rfl (lv_at hl 2 rfl) ?_
  refine va_get (D := (dC, dI)) (ci := 1) (v := .ref (a 3)) (C := R_Rv) (T := F_Rv) (N := 6) hx hb htb i_Rv hown hK hP 0 rfl rfl 1 (by decide) (htb (.fieldLink R_Rv 15 "WaterMen$River" "table" "[I") tw_61) (fun _ h9 => h9) rfl d_Rv_tell_34 ?_
  refine lv_iload hx hb d_Rv_tell_37 (lv_at hl 0 rfl) ?_
  refine lv_iload_n hx hb d_Rv_tell_39 rfl (lv_at hl 3 rfl) ?_
  refine lv_iadd hx hb d_Rv_tell_40 ?_
  refine lv_bipush (v := 12) hx hb d_Rv_tell_41 (by decide +kernel) ?_
  refine lv_irem hx hb d_Rv_tell_43 (by decide) ?_
  refine va_iald hx hb hK hP 1 0 rfl rfl (hb_rem12 (by decide +kernel) (by decide +kernel) as_0 (show ¬ (1000 < p_0) from by have e0 := as_0; rw [Int32.lt_iff_toInt_lt] at e0; have e1 := as_1; rw [Int32.le_iff_toInt_le] at e1; have z0 : (0 : Int32).toInt = 0 := (by decide +kernel); have z1 : (500 : Int32).toInt = 500 := (by decide +kernel); have z2 : (1000 : Int32).toInt = 1000 := (by decide +kernel); rw [Int32.lt_iff_toInt_lt]; omega)) d_Rv_tell_44 ?_
  refine hb_ti 0 rfl ?_
  refine va_iast hx hb hK hP hD hS 3 2 rfl rfl (by unfold vp_in; decide +kernel) d_Rv_tell_45 (fun H locs hP hD hS => ?_)
  rw [hb_upd0 0 (11 : Int32).toNatClampNeg (0) (by decide +kernel)] at hP hD
  have hP : va_P (dC, dI) vwCl [((a 1), .inr (1, [.ref (a 2), .ref (a 3), .ref (a 4), .ref (a 5), .int 0, .int (-1)])), ((a 3), .inl ((k 3), 12, .inl (fun _ => 0))), ((a 4), .inl ((k 4), 500, .inr (.inr (.inr (.inr (fun _ => none)))))), (q_1, .inl (k_2, 12, .inl (fun _ => 0)))] H := hP
  have hD : va_D A [((a 1), .inr (1, [.ref (a 2), .ref (a 3), .ref (a 4), .ref (a 5), .int 0, .int (-1)])), ((a 3), .inl ((k 3), 12, .inl (fun _ => 0))), ((a 4), .inl ((k 4), 500, .inr (.inr (.inr (.inr (fun _ => none)))))), (q_1, .inl (k_2, 12, .inl (fun _ => 0)))] := hD
  refine lv_iinc (v := 12) (lv' := [(5, .int 12), (4, .ref q_1), (0, .ref (a 1)), (1, .int p_0), (2, .int p_1), (3, .int p_2)]) hx hb d_Rv_tell_46 hl (k := 0) rfl (by decide +kernel) (by decide) rfl (fun ls hl => ?_)
  refine lv_goto (tgt := 22) hx hb d_Rv_tell_49 (by decide) ?_
  refine lv_iload hx hb d_Rv_tell_22 (lv_at hl 0 rfl) ?_
  refine lv_bipush (v := 12) hx hb d_Rv_tell_24 (by decide +kernel) ?_
  refine lv_icmp_ge (tgt := 52) hx hb d_Rv_tell_26 (by decide) (fun _ => ?_) (fun h => absurd (by decide +kernel) h)
  refine lv_aload_n hx hb d_Rv_tell_52 rfl (lv_at hl 2 rfl) ?_
  refine va_get (D := (dC, dI)) (ci := 1) (v := .ref (a 4)) (C := R_Rv) (T := F_Rv) (N := 6) hx hb htb i_Rv hown hK hP 0 rfl rfl 2 (by decide) (htb (.fieldLink R_Rv 19 "WaterMen$River" "rows" "[[I") tw_63) (fun _ h9 => h9) rfl d_Rv_tell_53 ?_
  refine lv_iload_n hx hb d_Rv_tell_56 rfl (lv_at hl 3 rfl) ?_
  refine lv_aload hx hb d_Rv_tell_57 (lv_at hl 1 rfl) ?_
  refine va_astA hx hb (over_moved (Vm.Alike.refl s.vm) hN.2.2) hK hP hD hS 2 1 3 2 rfl rfl rfl rfl (hb_in as_0 as_1 (by decide +kernel)) d_Rv_tell_59 (fun H locs hP hD hS => ?_)
  have hP : va_P (dC, dI) vwCl [((a 1), .inr (1, [.ref (a 2), .ref (a 3), .ref (a 4), .ref (a 5), .int 0, .int (-1)])), ((a 3), .inl ((k 3), 12, .inl (fun _ => 0))), ((a 4), .inl ((k 4), 500, .inr (.inr (.inr (.inr (va_up (fun _ => none) (p_0 : Int32).toNatClampNeg (some q_1))))))), (q_1, .inl (k_2, 12, .inl (fun _ => 0)))] H := hP
  have hD : va_D A [((a 1), .inr (1, [.ref (a 2), .ref (a 3), .ref (a 4), .ref (a 5), .int 0, .int (-1)])), ((a 3), .inl ((k 3), 12, .inl (fun _ => 0))), ((a 4), .inl ((k 4), 500, .inr (.inr (.inr (.inr (va_up (fun _ => none) (p_0 : Int32).toNatClampNeg (some q_1))))))), (q_1, .inl (k_2, 12, .inl (fun _ => 0)))] := hD
  refine lv_aload hx hb d_Rv_tell_60 (lv_at hl 1 rfl) ?_
  refine lv_iload_n hx hb d_Rv_tell_62 rfl (lv_at hl 4 rfl) ?_
  refine lv_iload_n hx hb d_Rv_tell_63 rfl (lv_at hl 5 rfl) ?_
  refine va_iast hx hb hK hP hD hS 3 2 rfl rfl (hb_in as_2 as_3 (by decide +kernel)) d_Rv_tell_64 (fun H locs hP hD hS => ?_)
  have hP : va_P (dC, dI) vwCl [((a 1), .inr (1, [.ref (a 2), .ref (a 3), .ref (a 4), .ref (a 5), .int 0, .int (-1)])), ((a 3), .inl ((k 3), 12, .inl (fun _ => 0))), ((a 4), .inl ((k 4), 500, .inr (.inr (.inr (.inr (va_up (fun _ => none) (p_0 : Int32).toNatClampNeg (some q_1))))))), (q_1, .inl (k_2, 12, .inl (upd (fun _ => 0) (p_1 : Int32).toNatClampNeg p_2)))] H := hP
  have hD : va_D A [((a 1), .inr (1, [.ref (a 2), .ref (a 3), .ref (a 4), .ref (a 5), .int 0, .int (-1)])), ((a 3), .inl ((k 3), 12, .inl (fun _ => 0))), ((a 4), .inl ((k 4), 500, .inr (.inr (.inr (.inr (va_up (fun _ => none) (p_0 : Int32).toNatClampNeg (some q_1))))))), (q_1, .inl (k_2, 12, .inl (upd (fun _ => 0) (p_1 : Int32).toNatClampNeg p_2)))] := hD
  refine W.widen (k := 1) (n := 12) (Nat.le_of_ble_eq_true rfl) (Nat.le_of_ble_eq_true rfl) ?_
  exact W.vret hx hb hr (fun t ht hW => ⟨⟨(), rfl, trivial, trivial⟩, by rw [hAe]; exact hS.F ht⟩) (by rw [hAe]; exact hS.2.2) d_Rv_tell_65
