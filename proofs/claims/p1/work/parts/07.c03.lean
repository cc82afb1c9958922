set_option maxHeartbeats 4000000 in
set_option maxRecDepth 100000 in
theorem c_Tp_step_c6 (l : Launch) (dC : Nat → ClassId) (dI : Nat → Nat → Nat) (h_0 h_1 : Nat) (kk_1 : ClassId) (sz : Nat)   : Met l y_Tp_step (.code y_Tp_step b_Tp_step 1 none :: TB) ({ frames := 0, cells := 0, slots := 0, locals := 0 }) (va_Pc [.ref h_0] (PC dC dI [(h_0, .inr (4, [.ref h_1, .int 0, .int 0, .int 0, .int 0, .int 0])), (h_1, .inl (kk_1, 400, .inl (fun _ => 0)))] [(kk_1, .byte)] sz)) (va_Qv (fun (_ : Unit) => True) (fun (_ : Unit) t => va_P (dC, dI) vwCl [(h_0, .inr (4, [.ref h_1, .int 0, .int 0, .int 0, .int 0, .int 0])), (h_1, .inl (kk_1, 400, .inl (fun _ => 0)))] t.heap ∧ va_K (dC, dI) vwCl [(kk_1, .byte)] t ∧ va_D (va_A [(h_0, .inr (4, [.ref h_1, .int 0, .int 0, .int 0, .int 0, .int 0])), (h_1, .inl (kk_1, 400, .inl (fun _ => 0)))] sz) [(h_0, .inr (4, [.ref h_1, .int 0, .int 0, .int 0, .int 0, .int 0])), (h_1, .inl (kk_1, 400, .inl (fun _ => 0)))]) (va_A [(h_0, .inr (4, [.ref h_1, .int 0, .int 0, .int 0, .int 0, .int 0])), (h_1, .inl (kk_1, 400, .inl (fun _ => 0)))] sz)) 0 0 (va_A [(h_0, .inr (4, [.ref h_1, .int 0, .int 0, .int 0, .int 0, .int 0])), (h_1, .inl (kk_1, 400, .inl (fun _ => 0)))] sz) := by
  refine Met.ofW (cc := b_Tp_step) (maxL := 1) (ret := none) (by decide) rfl ?_
  intro p e s m args below meth c s₁ B hml hv
  obtain ⟨rfl, hsz, hP, hK, hD0, hN⟩ := hv
  have hx := B.exec
  have hb := B.bytes
  have hr := B.returns
  have hts := atoms_spec (ws := (.code y_Tp_step b_Tp_step 1 none :: TB)) B.pre
  have htb := fun w (h : w ∈ TB) => hts w (List.mem_cons_of_mem _ h)
  have hown : s.vm.findClass R_Tp = some m.cls := findClass_of_methodNamed B.named
  have hlocks := B.notSynchronized
  have hl := lv_entry ([.ref h_0]) (n := 1) (Nat.le_of_ble_eq_true rfl)
  rw [lg_entry_eq]
  generalize (lg_sl ([.ref h_0]) ++ List.replicate (1 - (lg_sl ([.ref h_0])).length) Slot.unset).toArray = ls at hl ⊢
  have hl : lv_has ls 1 [(0, .ref h_0)] := hl
  subst hsz
  have hD := hD0.self (sz := s.heap.size)
  obtain ⟨A, hAe⟩ : ∃ A, va_A [(h_0, .inr (4, [.ref h_1, .int 0, .int 0, .int 0, .int 0, .int 0])), (h_1, .inl (kk_1, 400, .inl (fun _ => 0)))] s.heap.size = A := ⟨_, rfl⟩
  rw [hAe] at hD
  have hA : ∀ q : Nat, s.heap.size ≤ q → A q := fun q h => by rw [← hAe]; exact Or.inr h
  have hS : va_S A s.heap s.heap [] := va_S.rf
  have hP := hP
  refine lv_aload_n hx hb d_Tp_step_0 rfl (lv_at hl 0 rfl) ?_
  refine lv_aload_n hx hb d_Tp_step_1 rfl (lv_at hl 0 rfl) ?_
  refine va_get (D := (dC, dI)) (ci := 4) (v := .int 0) (C := R_Tp) (T := F_Tp) (N := 6) hx hb htb i_Tp hown hK hP 0 rfl rfl 4 (by decide) (htb (.fieldLink R_Tp 24 "WaterMen$Tape" "behind" "I") tw_110) (fun _ h9 => h9) rfl d_Tp_step_2 ?_
  refine va_put (D := (dC, dI)) (ci := 4) (v := .int 0) (ty := .int) (C := R_Tp) (T := F_Tp) (N := 6) hx hb htb i_Tp t_Tp t_Tp_ok n_Tp hown hK hP hD hS 0 rfl rfl 3 (by decide) (htb (.fieldLink R_Tp 34 "WaterMen$Tape" "start" "I") tw_111) (fun _ h9 => h9) rfl (by decide +kernel) rfl rfl (Nat.le_of_ble_eq_true rfl) d_Tp_step_5 (fun H locs hP hD hS => ?_)
  have hP : va_P (dC, dI) vwCl [(h_0, .inr (4, [.ref h_1, .int 0, .int 0, .int 0, .int 0, .int 0])), (h_1, .inl (kk_1, 400, .inl (fun _ => 0)))] H := hP
  have hD : va_D A [(h_0, .inr (4, [.ref h_1, .int 0, .int 0, .int 0, .int 0, .int 0])), (h_1, .inl (kk_1, 400, .inl (fun _ => 0)))] := hD
  refine lv_aload_n hx hb d_Tp_step_8 rfl (lv_at hl 0 rfl) ?_
  refine va_get (D := (dC, dI)) (ci := 4) (v := .int 0) (C := R_Tp) (T := F_Tp) (N := 6) hx hb htb i_Tp hown hK hP 0 rfl rfl 3 (by decide) (htb (.fieldLink R_Tp 34 "WaterMen$Tape" "start" "I") tw_111) (fun _ h9 => h9) rfl d_Tp_step_9 ?_
  refine lv_aload_n hx hb d_Tp_step_12 rfl (lv_at hl 0 rfl) ?_
  refine va_get (D := (dC, dI)) (ci := 4) (v := .int 0) (C := R_Tp) (T := F_Tp) (N := 6) hx hb htb i_Tp hown hK hP 0 rfl rfl 1 (by decide) (htb (.fieldLink R_Tp 15 "WaterMen$Tape" "length" "I") tw_88) (fun _ h9 => h9) rfl d_Tp_step_13 ?_
  refine lv_icmp_ge (tgt := 46) hx hb d_Tp_step_16 (by decide) (fun _ => ?_) (fun h => absurd (by decide +kernel) h)
  refine lv_aload_n hx hb d_Tp_step_46 rfl (lv_at hl 0 rfl) ?_
  refine lv_aload_n hx hb d_Tp_step_47 rfl (lv_at hl 0 rfl) ?_
  refine va_get (D := (dC, dI)) (ci := 4) (v := .int 0) (C := R_Tp) (T := F_Tp) (N := 6) hx hb htb i_Tp hown hK hP 0 rfl rfl 3 (by decide) (htb (.fieldLink R_Tp 34 "WaterMen$Tape" "start" "I") tw_111) (fun _ h9 => h9) rfl d_Tp_step_48 ?_
  refine va_put (D := (dC, dI)) (ci := 4) (v := .int 0) (ty := .int) (C := R_Tp) (T := F_Tp) (N := 6) hx hb htb i_Tp t_Tp t_Tp_ok n_Tp hown hK hP hD hS 0 rfl rfl 4 (by decide) (htb (.fieldLink R_Tp 24 "WaterMen$Tape" "behind" "I") tw_110) (fun _ h9 => h9) rfl (by decide +kernel) rfl rfl (Nat.le_of_ble_eq_true rfl) d_Tp_step_51 (fun H locs hP hD hS => ?_)
  have hP : va_P (dC, dI) vwCl [(h_0, .inr (4, [.ref h_1, .int 0, .int 0, .int 0, .int 0, .int 0])), (h_1, .inl (kk_1, 400, .inl (fun _ => 0)))] H := hP
  have hD : va_D A [(h_0, .inr (4, [.ref h_1, .int 0, .int 0, .int 0, .int 0, .int 0])), (h_1, .inl (kk_1, 400, .inl (fun _ => 0)))] := hD
  refine lv_aload_n hx hb d_Tp_step_54 rfl (lv_at hl 0 rfl) ?_
  refine lv_iconst (v := 0) hx hb d_Tp_step_55 (by decide +kernel) ?_
  refine va_put (D := (dC, dI)) (ci := 4) (v := .int 0) (ty := .int) (C := R_Tp) (T := F_Tp) (N := 6) hx hb htb i_Tp t_Tp t_Tp_ok n_Tp hown hK hP hD hS 0 rfl rfl 5 (by decide) (htb (.fieldLink R_Tp 48 "WaterMen$Tape" "value" "I") tw_112) (fun _ h9 => h9) rfl (by decide +kernel) rfl rfl (Nat.le_of_ble_eq_true rfl) d_Tp_step_56 (fun H locs hP hD hS => ?_)
  have hP : va_P (dC, dI) vwCl [(h_0, .inr (4, [.ref h_1, .int 0, .int 0, .int 0, .int 0, .int 0])), (h_1, .inl (kk_1, 400, .inl (fun _ => 0)))] H := hP
  have hD : va_D A [(h_0, .inr (4, [.ref h_1, .int 0, .int 0, .int 0, .int 0, .int 0])), (h_1, .inl (kk_1, 400, .inl (fun _ => 0)))] := hD
  refine lv_aload_n hx hb d_Tp_step_59 rfl (lv_at hl 0 rfl) ?_
  refine va_get (D := (dC, dI)) (ci := 4) (v := .int 0) (C := R_Tp) (T := F_Tp) (N := 6) hx hb htb i_Tp hown hK hP 0 rfl rfl 3 (by decide) (htb (.fieldLink R_Tp 34 "WaterMen$Tape" "start" "I") tw_111) (fun _ h9 => h9) rfl d_Tp_step_60 ?_
  refine lv_aload_n hx hb d_Tp_step_63 rfl (lv_at hl 0 rfl) ?_
  refine va_get (D := (dC, dI)) (ci := 4) (v := .int 0) (C := R_Tp) (T := F_Tp) (N := 6) hx hb htb i_Tp hown hK hP 0 rfl rfl 1 (by decide) (htb (.fieldLink R_Tp 15 "WaterMen$Tape" "length" "I") tw_88) (fun _ h9 => h9) rfl d_Tp_step_64 ?_
  refine lv_icmp_lt (tgt := 78) hx hb d_Tp_step_67 (by decide) (fun h => absurd h (by decide +kernel)) (fun _ => ?_)
  refine lv_aload_n hx hb d_Tp_step_70 rfl (lv_at hl 0 rfl) ?_
  refine lv_iconst (v := 0) hx hb d_Tp_step_71 (by decide +kernel) ?_
  refine va_put (D := (dC, dI)) (ci := 4) (v := .int 0) (ty := .int) (C := R_Tp) (T := F_Tp) (N := 6) hx hb htb i_Tp t_Tp t_Tp_ok n_Tp hown hK hP hD hS 0 rfl rfl 2 (by decide) (htb (.fieldLink R_Tp 37 "WaterMen$Tape" "sort" "I") tw_113) (fun _ h9 => h9) rfl (by decide +kernel) rfl rfl (Nat.le_of_ble_eq_true rfl) d_Tp_step_72 (fun H locs hP hD hS => ?_)
  have hP : va_P (dC, dI) vwCl [(h_0, .inr (4, [.ref h_1, .int 0, .int 0, .int 0, .int 0, .int 0])), (h_1, .inl (kk_1, 400, .inl (fun _ => 0)))] H := hP
  have hD : va_D A [(h_0, .inr (4, [.ref h_1, .int 0, .int 0, .int 0, .int 0, .int 0])), (h_1, .inl (kk_1, 400, .inl (fun _ => 0)))] := hD
  refine lv_goto (tgt := 182) hx hb d_Tp_step_75 (by decide) ?_
  refine W.widen (k := 0) (n := 0) (Nat.le_of_ble_eq_true rfl) (Nat.le_of_ble_eq_true rfl) ?_
  exact W.vret hx hb hr (fun t ht hW => ⟨⟨(), rfl, trivial, by rw [ht]; exact hP, va_K.moved hW.alike hK, by rw [hAe]; exact hD⟩, by rw [hAe]; exact hS.F ht⟩) (by rw [hAe]; exact hS.2.2) d_Tp_step_182
def f_Tp_readLine_c7  : Int32 := 0
set_option maxHeartbeats 4000000 in
set_option maxRecDepth 100000 in
theorem c_Tp_readLine_c7 (l : Launch) (dC : Nat → ClassId) (dI : Nat → Nat → Nat) (h_0 h_1 y_1_2 y_1_3 h_2 h_3 : Nat) (kk_2 kk_3 : ClassId) (gg_3 : Nat → Int32) (sz : Nat)   : Met l y_Tp_readLine (.code y_Tp_readLine b_Tp_readLine 8 (some .boolean) :: TB) ({ frames := 0, cells := 0, slots := 0, locals := 0 }) (va_Pc [.ref h_0, .ref h_1] (PC dC dI [(h_0, .inr (4, [.ref h_2, .int 0, .int 0, .int 0, .int 0, .int 0])), (h_1, .inr (3, [.int 0, .int 0, .ref y_1_2, .ref y_1_3, .ref h_3, .int 0, .int 0, .int 0, .int 0])), (h_2, .inl (kk_2, 400, .inl (fun _ => 0))), (h_3, .inl (kk_3, 9, .inl gg_3))] [(kk_2, .byte), (kk_3, .int)] sz)) (va_Qi (fun r (_ : Unit) => r = f_Tp_readLine_c7) (fun (_ : Unit) t => va_P (dC, dI) vwCl [(h_0, .inr (4, [.ref h_2, .int 0, .int 0, .int 0, .int 0, .int 0])), (h_1, .inr (3, [.int 0, .int 0, .ref y_1_2, .ref y_1_3, .ref h_3, .int 0, .int 0, .int 0, .int 0])), (h_2, .inl (kk_2, 400, .inl (fun _ => 0))), (h_3, .inl (kk_3, 9, .inl gg_3))] t.heap ∧ va_K (dC, dI) vwCl [(kk_2, .byte), (kk_3, .int)] t ∧ va_D (va_A [(h_0, .inr (4, [.ref h_2, .int 0, .int 0, .int 0, .int 0, .int 0])), (h_1, .inr (3, [.int 0, .int 0, .ref y_1_2, .ref y_1_3, .ref h_3, .int 0, .int 0, .int 0, .int 0])), (h_2, .inl (kk_2, 400, .inl (fun _ => 0))), (h_3, .inl (kk_3, 9, .inl gg_3))] sz) [(h_0, .inr (4, [.ref h_2, .int 0, .int 0, .int 0, .int 0, .int 0])), (h_1, .inr (3, [.int 0, .int 0, .ref y_1_2, .ref y_1_3, .ref h_3, .int 0, .int 0, .int 0, .int 0])), (h_2, .inl (kk_2, 400, .inl (fun _ => 0))), (h_3, .inl (kk_3, 9, .inl gg_3))]) (va_A [(h_0, .inr (4, [.ref h_2, .int 0, .int 0, .int 0, .int 0, .int 0])), (h_1, .inr (3, [.int 0, .int 0, .ref y_1_2, .ref y_1_3, .ref h_3, .int 0, .int 0, .int 0, .int 0])), (h_2, .inl (kk_2, 400, .inl (fun _ => 0))), (h_3, .inl (kk_3, 9, .inl gg_3))] sz)) 0 0 (va_A [(h_0, .inr (4, [.ref h_2, .int 0, .int 0, .int 0, .int 0, .int 0])), (h_1, .inr (3, [.int 0, .int 0, .ref y_1_2, .ref y_1_3, .ref h_3, .int 0, .int 0, .int 0, .int 0])), (h_2, .inl (kk_2, 400, .inl (fun _ => 0))), (h_3, .inl (kk_3, 9, .inl gg_3))] sz) := by
  refine Met.ofW (cc := b_Tp_readLine) (maxL := 8) (ret := (some .boolean)) (by decide) rfl ?_
  intro p e s m args below meth c s₁ B hml hv
  obtain ⟨rfl, hsz, hP, hK, hD0, hN⟩ := hv
  have hx := B.exec
  have hb := B.bytes
  have hr := B.returns
  have hts := atoms_spec (ws := (.code y_Tp_readLine b_Tp_readLine 8 (some .boolean) :: TB)) B.pre
  have htb := fun w (h : w ∈ TB) => hts w (List.mem_cons_of_mem _ h)
  have hown : s.vm.findClass R_Tp = some m.cls := findClass_of_methodNamed B.named
  have hlocks := B.notSynchronized
  have hl := lv_entry ([.ref h_0, .ref h_1]) (n := 8) (Nat.le_of_ble_eq_true rfl)
  rw [lg_entry_eq]
  generalize (lg_sl ([.ref h_0, .ref h_1]) ++ List.replicate (8 - (lg_sl ([.ref h_0, .ref h_1])).length) Slot.unset).toArray = ls at hl ⊢
  have hl : lv_has ls 8 [(0, .ref h_0), (1, .ref h_1)] := hl
  subst hsz
  have hD := hD0.self (sz := s.heap.size)
  obtain ⟨A, hAe⟩ : ∃ A, va_A [(h_0, .inr (4, [.ref h_2, .int 0, .int 0, .int 0, .int 0, .int 0])), (h_1, .inr (3, [.int 0, .int 0, .ref y_1_2, .ref y_1_3, .ref h_3, .int 0, .int 0, .int 0, .int 0])), (h_2, .inl (kk_2, 400, .inl (fun _ => 0))), (h_3, .inl (kk_3, 9, .inl gg_3))] s.heap.size = A := ⟨_, rfl⟩
  rw [hAe] at hD
  have hA : ∀ q : Nat, s.heap.size ≤ q → A q := fun q h => by rw [← hAe]; exact Or.inr h
  have hS : va_S A s.heap s.heap [] := va_S.rf
  have hP := hP
  refine lv_aload_n hx hb d_Tp_readLine_0 rfl (lv_at hl 0 rfl) ?_
  refine va_get (D := (dC, dI)) (ci := 4) (v := .int 0) (C := R_Tp) (T := F_Tp) (N := 6) hx hb htb i_Tp hown hK hP 0 rfl rfl 2 (by decide) (htb (.fieldLink R_Tp 37 "WaterMen$Tape" "sort" "I") tw_113) (fun _ h9 => h9) rfl d_Tp_readLine_1 ?_
  refine lv_iconst (v := 1) hx hb d_Tp_readLine_4 (by decide +kernel) ?_
  refine lv_icmp_ne (tgt := 15) hx hb d_Tp_readLine_5 (by decide) (fun _ => ?_) (fun h => absurd h (by decide +kernel))
  refine lv_iconst (v := (-1)) hx hb d_Tp_readLine_15 (by decide +kernel) ?_
  refine lv_istore_n (lv' := [(2, .int (-1)), (0, .ref h_0), (1, .ref h_1)]) hx hb d_Tp_readLine_16 rfl hl (by decide) rfl (fun ls hl => ?_)
  refine lv_iload_n hx hb d_Tp_readLine_17 rfl (lv_at hl 0 rfl) ?_
  refine lv_iconst (v := (-1)) hx hb d_Tp_readLine_18 (by decide +kernel) ?_
  refine lv_icmp_eq (tgt := 30) hx hb d_Tp_readLine_19 (by decide) (fun _ => ?_) (fun h => absurd (by decide +kernel) h)
  refine lv_iconst (v := 0) hx hb d_Tp_readLine_30 (by decide +kernel) ?_
  refine W.widen (k := 0) (n := 0) (Nat.le_of_ble_eq_true rfl) (Nat.le_of_ble_eq_true rfl) ?_
  exact W.zret (v := 0) hx hb hr (by decide +kernel) (fun t ht hW => ⟨⟨0, (), rfl, rfl, by rw [ht]; exact hP, va_K.moved hW.alike hK, by rw [hAe]; exact hD⟩, by rw [hAe]; exact hS.F ht⟩) (by rw [hAe]; exact hS.2.2) d_Tp_readLine_31
def f_Tp_readInto_c5  : Int32 := 0
set_option maxHeartbeats 4000000 in
set_option maxRecDepth 100000 in
theorem c_Tp_readInto_c5 (l : Launch) (dC : Nat → ClassId) (dI : Nat → Nat → Nat) (h_0 h_1 y_1_2 y_1_3 h_2 h_3 : Nat) (kk_2 kk_3 : ClassId) (sz : Nat)   : Met l y_Tp_readInto (.code y_Tp_readInto b_Tp_readInto 3 (some .int) :: TB) ({ frames := 1, cells := 0, slots := 0, locals := 27 }) (va_Pc [.ref h_0, .ref h_1] (PC dC dI [(h_0, .inr (4, [.ref h_2, .int 0, .int 0, .int 0, .int 0, .int 0])), (h_1, .inr (3, [.int 0, .int 0, .ref y_1_2, .ref y_1_3, .ref h_3, .int 0, .int 0, .int 0, .int 0])), (h_2, .inl (kk_2, 400, .inl (fun _ => 0))), (h_3, .inl (kk_3, 9, .inl (fun _ => 0)))] [(kk_2, .byte), (kk_3, .int)] sz)) (va_Qi (fun r (_ : Unit) => r = f_Tp_readInto_c5) (fun (_ : Unit) t => ∃ (g_1 : Nat → Int32) , va_P (dC, dI) vwCl [(h_0, .inr (4, [.ref h_2, .int 0, .int 0, .int 0, .int 0, .int 0])), (h_1, .inr (3, [.int 0, .int 0, .ref y_1_2, .ref y_1_3, .ref h_3, .int 0, .int 0, .int 0, .int 0])), (h_2, .inl (kk_2, 400, .inl (fun _ => 0))), (h_3, .inl (kk_3, 9, .inl g_1))] t.heap ∧ va_K (dC, dI) vwCl [(kk_2, .byte), (kk_3, .int)] t ∧ va_D (va_A [(h_0, .inr (4, [.ref h_2, .int 0, .int 0, .int 0, .int 0, .int 0])), (h_1, .inr (3, [.int 0, .int 0, .ref y_1_2, .ref y_1_3, .ref h_3, .int 0, .int 0, .int 0, .int 0])), (h_2, .inl (kk_2, 400, .inl (fun _ => 0))), (h_3, .inl (kk_3, 9, .inl (fun _ => 0)))] sz) [(h_0, .inr (4, [.ref h_2, .int 0, .int 0, .int 0, .int 0, .int 0])), (h_1, .inr (3, [.int 0, .int 0, .ref y_1_2, .ref y_1_3, .ref h_3, .int 0, .int 0, .int 0, .int 0])), (h_2, .inl (kk_2, 400, .inl (fun _ => 0))), (h_3, .inl (kk_3, 9, .inl g_1))]) (va_A [(h_0, .inr (4, [.ref h_2, .int 0, .int 0, .int 0, .int 0, .int 0])), (h_1, .inr (3, [.int 0, .int 0, .ref y_1_2, .ref y_1_3, .ref h_3, .int 0, .int 0, .int 0, .int 0])), (h_2, .inl (kk_2, 400, .inl (fun _ => 0))), (h_3, .inl (kk_3, 9, .inl (fun _ => 0)))] sz)) 0 0 (va_A [(h_0, .inr (4, [.ref h_2, .int 0, .int 0, .int 0, .int 0, .int 0])), (h_1, .inr (3, [.int 0, .int 0, .ref y_1_2, .ref y_1_3, .ref h_3, .int 0, .int 0, .int 0, .int 0])), (h_2, .inl (kk_2, 400, .inl (fun _ => 0))), (h_3, .inl (kk_3, 9, .inl (fun _ => 0)))] sz) := by
  refine Met.ofW (cc := b_Tp_readInto) (maxL := 3) (ret := (some .int)) (by decide) rfl ?_
  intro p e s m args below meth c s₁ B hml hv
  obtain ⟨rfl, hsz, hP, hK, hD0, hN⟩ := hv
  have hx := B.exec
  have hb := B.bytes
  have hr := B.returns
  have hts := atoms_spec (ws := (.code y_Tp_readInto b_Tp_readInto 3 (some .int) :: TB)) B.pre
  have htb := fun w (h : w ∈ TB) => hts w (List.mem_cons_of_mem _ h)
  have hown : s.vm.findClass R_Tp = some m.cls := findClass_of_methodNamed B.named
  have hlocks := B.notSynchronized
  have hl := lv_entry ([.ref h_0, .ref h_1]) (n := 3) (Nat.le_of_ble_eq_true rfl)
  rw [lg_entry_eq]
  generalize (lg_sl ([.ref h_0, .ref h_1]) ++ List.replicate (3 - (lg_sl ([.ref h_0, .ref h_1])).length) Slot.unset).toArray = ls at hl ⊢
  have hl : lv_has ls 3 [(0, .ref h_0), (1, .ref h_1)] := hl
  subst hsz
  have hD := hD0.self (sz := s.heap.size)
  obtain ⟨A, hAe⟩ : ∃ A, va_A [(h_0, .inr (4, [.ref h_2, .int 0, .int 0, .int 0, .int 0, .int 0])), (h_1, .inr (3, [.int 0, .int 0, .ref y_1_2, .ref y_1_3, .ref h_3, .int 0, .int 0, .int 0, .int 0])), (h_2, .inl (kk_2, 400, .inl (fun _ => 0))), (h_3, .inl (kk_3, 9, .inl (fun _ => 0)))] s.heap.size = A := ⟨_, rfl⟩
  rw [hAe] at hD
  have hA : ∀ q : Nat, s.heap.size ≤ q → A q := fun q h => by rw [← hAe]; exact Or.inr h
  have hS : va_S A s.heap s.heap [] := va_S.rf
  have hP := hP
  refine lv_aload_n hx hb d_Tp_readInto_0 rfl (lv_at hl 1 rfl) ?_
  have hPc := hP.sub (ws' := [(h_1, .inr (3, [.int 0, .int 0, .ref y_1_2, .ref y_1_3, .ref h_3, .int 0, .int 0, .int 0, .int 0])), (h_3, .inl (kk_3, 9, .inl (fun _ => 0)))]) [1, 3] rfl
  have hDc := hD.sub (ws' := [(h_1, .inr (3, [.int 0, .int 0, .ref y_1_2, .ref y_1_3, .ref h_3, .int 0, .int 0, .int 0, .int 0])), (h_3, .inl (kk_3, 9, .inl (fun _ => 0)))]) [1, 3] (by decide) rfl
  have hKc := hK.sub (tys' := [(kk_3, .int)]) [1] rfl
  have hFc := va_free (wc := [(h_1, .inr (3, [.int 0, .int 0, .ref y_1_2, .ref y_1_3, .ref h_3, .int 0, .int 0, .int 0, .int 0])), (h_3, .inl (kk_3, 9, .inl (fun _ => 0)))]) hD hS hA [1, 3] rfl
  refine va_callv (va_runV (As := []) (rest := []) ⟨hx, hb, hml, hown, htb⟩ (c_Or_clear_c5 l dC dI h_1 y_1_2 y_1_3 h_3 kk_3 _) (cwV 0 htb (gd_V tw_107 tw_108 tw_109 tw_106 tw_105) rfl rfl rfl (by decide +kernel) ⟨Nat.le_of_ble_eq_true rfl, Nat.le_of_ble_eq_true rfl⟩) ⟨pc_blind, va_recv hKc hPc (ci := 3) (q0 := 0) rfl rfl, pc_pre hPc hKc hDc hN⟩ rfl rfl hl.1 rfl (lv_room (Nat.le_of_ble_eq_true rfl)) d_Tp_readInto_1 ⟨Nat.le_of_ble_eq_true rfl, Nat.le_of_ble_eq_true rfl⟩) hS (fun q _ h => hFc q h) hFc (fun u t H1 locs ht hvm hw hB hz1 hk1 hS => ?_)
  obtain ⟨z_1, hP1, hK1, hD1⟩ := hB
  rw [ht] at hP1
  have hK1 := va_K.moved hvm.symm hK1
  obtain ⟨hP, hD⟩ := va_join (wr := [(h_0, .inr (4, [.ref h_2, .int 0, .int 0, .int 0, .int 0, .int 0])), (h_2, .inl (kk_2, 400, .inl (fun _ => 0)))]) (w1 := [(h_1, .inr (3, [.int 0, .int 0, .ref y_1_2, .ref y_1_3, .ref h_3, .int 0, .int 0, .int 0, .int 0])), (h_3, .inl (kk_3, 9, .inl z_1))]) hP hD [1, 3] [0, 2] rfl rfl (by decide) (by decide) hk1 hFc hP1 hD1
  have hK := (hK.sub (tys' := [(kk_2, .byte)]) [0] rfl).app hK1
  generalize H1 = H at hP hS ⊢
  have hP : va_P (dC, dI) vwCl [(h_0, .inr (4, [.ref h_2, .int 0, .int 0, .int 0, .int 0, .int 0])), (h_2, .inl (kk_2, 400, .inl (fun _ => 0))), (h_1, .inr (3, [.int 0, .int 0, .ref y_1_2, .ref y_1_3, .ref h_3, .int 0, .int 0, .int 0, .int 0])), (h_3, .inl (kk_3, 9, .inl z_1))] H := hP
  have hD : va_D A [(h_0, .inr (4, [.ref h_2, .int 0, .int 0, .int 0, .int 0, .int 0])), (h_2, .inl (kk_2, 400, .inl (fun _ => 0))), (h_1, .inr (3, [.int 0, .int 0, .ref y_1_2, .ref y_1_3, .ref h_3, .int 0, .int 0, .int 0, .int 0])), (h_3, .inl (kk_3, 9, .inl z_1))] := hD
  have hK : va_K (dC, dI) vwCl [(kk_2, .byte), (kk_3, .int)] s := hK
  refine lv_aload_n hx hb d_Tp_readInto_4 rfl (lv_at hl 0 rfl) ?_
  refine lv_iconst (v := 0) hx hb d_Tp_readInto_5 (by decide +kernel) ?_
  refine va_put (D := (dC, dI)) (ci := 4) (v := .int 0) (ty := .int) (C := R_Tp) (T := F_Tp) (N := 6) hx hb htb i_Tp t_Tp t_Tp_ok n_Tp hown hK hP hD hS 0 rfl rfl 4 (by decide) (htb (.fieldLink R_Tp 24 "WaterMen$Tape" "behind" "I") tw_110) (fun _ h9 => h9) rfl (by decide +kernel) rfl rfl (Nat.le_of_ble_eq_true rfl) d_Tp_readInto_6 (fun H locs hP hD hS => ?_)
  have hP : va_P (dC, dI) vwCl [(h_0, .inr (4, [.ref h_2, .int 0, .int 0, .int 0, .int 0, .int 0])), (h_2, .inl (kk_2, 400, .inl (fun _ => 0))), (h_1, .inr (3, [.int 0, .int 0, .ref y_1_2, .ref y_1_3, .ref h_3, .int 0, .int 0, .int 0, .int 0])), (h_3, .inl (kk_3, 9, .inl z_1))] H := hP
  have hD : va_D A [(h_0, .inr (4, [.ref h_2, .int 0, .int 0, .int 0, .int 0, .int 0])), (h_2, .inl (kk_2, 400, .inl (fun _ => 0))), (h_1, .inr (3, [.int 0, .int 0, .ref y_1_2, .ref y_1_3, .ref h_3, .int 0, .int 0, .int 0, .int 0])), (h_3, .inl (kk_3, 9, .inl z_1))] := hD
  refine lv_aload_n hx hb d_Tp_readInto_9 rfl (lv_at hl 0 rfl) ?_
  have hPc := hP.sub (ws' := [(h_0, .inr (4, [.ref h_2, .int 0, .int 0, .int 0, .int 0, .int 0])), (h_2, .inl (kk_2, 400, .inl (fun _ => 0)))]) [0, 1] rfl
  have hDc := hD.sub (ws' := [(h_0, .inr (4, [.ref h_2, .int 0, .int 0, .int 0, .int 0, .int 0])), (h_2, .inl (kk_2, 400, .inl (fun _ => 0)))]) [0, 1] (by decide) rfl
  have hKc := hK.sub (tys' := [(kk_2, .byte)]) [0] rfl
  have hFc := va_free (wc := [(h_0, .inr (4, [.ref h_2, .int 0, .int 0, .int 0, .int 0, .int 0])), (h_2, .inl (kk_2, 400, .inl (fun _ => 0)))]) hD hS hA [0, 1] rfl
  refine va_callv (va_runV (As := []) (rest := []) ⟨hx, hb, hml, hown, htb⟩ (c_Tp_step_c6 l dC dI h_0 h_2 kk_2 _) (cwV 0 htb (gd_V tw_115 tw_116 tw_117 tw_90 tw_114) rfl rfl rfl (by decide +kernel) ⟨Nat.le_of_ble_eq_true rfl, Nat.le_of_ble_eq_true rfl⟩) ⟨pc_blind, va_recv hKc hPc (ci := 4) (q0 := 0) rfl rfl, pc_pre hPc hKc hDc hN⟩ rfl rfl hl.1 rfl (lv_room (Nat.le_of_ble_eq_true rfl)) d_Tp_readInto_10 ⟨Nat.le_of_ble_eq_true rfl, Nat.le_of_ble_eq_true rfl⟩) hS (fun q _ h => hFc q h) hFc (fun u t H1 locs ht hvm hw hB hz1 hk1 hS => ?_)
  obtain ⟨hP1, hK1, hD1⟩ := hB
  rw [ht] at hP1
  have hK1 := va_K.moved hvm.symm hK1
  obtain ⟨hP, hD⟩ := va_join (wr := [(h_1, .inr (3, [.int 0, .int 0, .ref y_1_2, .ref y_1_3, .ref h_3, .int 0, .int 0, .int 0, .int 0])), (h_3, .inl (kk_3, 9, .inl z_1))]) (w1 := [(h_0, .inr (4, [.ref h_2, .int 0, .int 0, .int 0, .int 0, .int 0])), (h_2, .inl (kk_2, 400, .inl (fun _ => 0)))]) hP hD [0, 1] [2, 3] rfl rfl (by decide) (by decide) hk1 hFc hP1 hD1
  have hK := (hK.sub (tys' := [(kk_3, .int)]) [1] rfl).app hK1
  generalize H1 = H at hP hS ⊢
  have hP : va_P (dC, dI) vwCl [(h_1, .inr (3, [.int 0, .int 0, .ref y_1_2, .ref y_1_3, .ref h_3, .int 0, .int 0, .int 0, .int 0])), (h_3, .inl (kk_3, 9, .inl z_1)), (h_0, .inr (4, [.ref h_2, .int 0, .int 0, .int 0, .int 0, .int 0])), (h_2, .inl (kk_2, 400, .inl (fun _ => 0)))] H := hP
  have hD : va_D A [(h_1, .inr (3, [.int 0, .int 0, .ref y_1_2, .ref y_1_3, .ref h_3, .int 0, .int 0, .int 0, .int 0])), (h_3, .inl (kk_3, 9, .inl z_1)), (h_0, .inr (4, [.ref h_2, .int 0, .int 0, .int 0, .int 0, .int 0])), (h_2, .inl (kk_2, 400, .inl (fun _ => 0)))] := hD
  have hK : va_K (dC, dI) vwCl [(kk_3, .int), (kk_2, .byte)] s := hK
  refine lv_iconst (v := 0) hx hb d_Tp_readInto_13 (by decide +kernel) ?_
  refine lv_istore_n (lv' := [(2, .int 0), (0, .ref h_0), (1, .ref h_1)]) hx hb d_Tp_readInto_14 rfl hl (by decide) rfl (fun ls hl => ?_)
  refine lv_iload_n hx hb d_Tp_readInto_15 rfl (lv_at hl 0 rfl) ?_
  refine lv_sipush (v := 400) hx hb d_Tp_readInto_16 (by decide +kernel) ?_
  refine lv_icmp_gt (tgt := 50) hx hb d_Tp_readInto_19 (by decide) (fun h => absurd h (by decide +kernel)) (fun _ => ?_)
  refine lv_aload_n hx hb d_Tp_readInto_22 rfl (lv_at hl 1 rfl) ?_
  refine lv_aload_n hx hb d_Tp_readInto_23 rfl (lv_at hl 2 rfl) ?_
  have hPc := hP.sub (ws' := [(h_0, .inr (4, [.ref h_2, .int 0, .int 0, .int 0, .int 0, .int 0])), (h_1, .inr (3, [.int 0, .int 0, .ref y_1_2, .ref y_1_3, .ref h_3, .int 0, .int 0, .int 0, .int 0])), (h_2, .inl (kk_2, 400, .inl (fun _ => 0))), (h_3, .inl (kk_3, 9, .inl z_1))]) [2, 0, 3, 1] rfl
  have hDc := hD.sub (ws' := [(h_0, .inr (4, [.ref h_2, .int 0, .int 0, .int 0, .int 0, .int 0])), (h_1, .inr (3, [.int 0, .int 0, .ref y_1_2, .ref y_1_3, .ref h_3, .int 0, .int 0, .int 0, .int 0])), (h_2, .inl (kk_2, 400, .inl (fun _ => 0))), (h_3, .inl (kk_3, 9, .inl z_1))]) [2, 0, 3, 1] (by decide) rfl
  have hKc := hK.sub (tys' := [(kk_2, .byte), (kk_3, .int)]) [1, 0] rfl
  have hFc := va_free (wc := [(h_0, .inr (4, [.ref h_2, .int 0, .int 0, .int 0, .int 0, .int 0])), (h_1, .inr (3, [.int 0, .int 0, .ref y_1_2, .ref y_1_3, .ref h_3, .int 0, .int 0, .int 0, .int 0])), (h_2, .inl (kk_2, 400, .inl (fun _ => 0))), (h_3, .inl (kk_3, 9, .inl z_1))]) hD hS hA [2, 0, 3, 1] rfl
  refine va_calli (va_runV (As := [.ref h_1]) (rest := []) ⟨hx, hb, hml, hown, htb⟩ (c_Tp_readLine_c7 l dC dI h_0 h_1 y_1_2 y_1_3 h_2 h_3 kk_2 kk_3 z_1 _) (cwV 1 htb (gd_V tw_119 tw_120 tw_121 tw_90 tw_118) rfl rfl rfl (by decide +kernel) ⟨Nat.le_of_ble_eq_true rfl, Nat.le_of_ble_eq_true rfl⟩) ⟨pc_blind, va_recv hKc hPc (ci := 4) (q0 := 0) rfl rfl, pc_pre hPc hKc hDc hN⟩ rfl rfl hl.1 rfl (lv_room (Nat.le_of_ble_eq_true rfl)) d_Tp_readInto_24 ⟨Nat.le_of_ble_eq_true rfl, Nat.le_of_ble_eq_true rfl⟩) hS (fun q _ h => hFc q h) hFc (fun r u t H1 locs ht hvm er hB hz1 hk1 hS => ?_)
  subst er
  obtain ⟨hP1, hK1, hD1⟩ := hB
  rw [ht] at hP1
  have hK1 := va_K.moved hvm.symm hK1
  obtain ⟨hP, hD⟩ := va_join (wr := []) (w1 := [(h_0, .inr (4, [.ref h_2, .int 0, .int 0, .int 0, .int 0, .int 0])), (h_1, .inr (3, [.int 0, .int 0, .ref y_1_2, .ref y_1_3, .ref h_3, .int 0, .int 0, .int 0, .int 0])), (h_2, .inl (kk_2, 400, .inl (fun _ => 0))), (h_3, .inl (kk_3, 9, .inl z_1))]) hP hD [2, 0, 3, 1] [] rfl rfl (by decide) (by decide) hk1 hFc hP1 hD1
  have hK := (hK.sub (tys' := []) [] rfl).app hK1
  generalize H1 = H at hP hS ⊢
  have hP : va_P (dC, dI) vwCl [(h_0, .inr (4, [.ref h_2, .int 0, .int 0, .int 0, .int 0, .int 0])), (h_1, .inr (3, [.int 0, .int 0, .ref y_1_2, .ref y_1_3, .ref h_3, .int 0, .int 0, .int 0, .int 0])), (h_2, .inl (kk_2, 400, .inl (fun _ => 0))), (h_3, .inl (kk_3, 9, .inl z_1))] H := hP
  have hD : va_D A [(h_0, .inr (4, [.ref h_2, .int 0, .int 0, .int 0, .int 0, .int 0])), (h_1, .inr (3, [.int 0, .int 0, .ref y_1_2, .ref y_1_3, .ref h_3, .int 0, .int 0, .int 0, .int 0])), (h_2, .inl (kk_2, 400, .inl (fun _ => 0))), (h_3, .inl (kk_3, 9, .inl z_1))] := hD
  have hK : va_K (dC, dI) vwCl [(kk_2, .byte), (kk_3, .int)] s := hK
  refine hb_ti 0 rfl ?_
  refine lv_if_ne (tgt := 35) hx hb d_Tp_readInto_27 (by decide) (fun h => absurd (by decide +kernel) h) (fun _ => ?_)
  refine lv_aload_n hx hb d_Tp_readInto_30 rfl (lv_at hl 1 rfl) ?_
  refine va_get (D := (dC, dI)) (ci := 4) (v := .int 0) (C := R_Tp) (T := F_Tp) (N := 6) hx hb htb i_Tp hown hK hP 0 rfl rfl 3 (by decide) (htb (.fieldLink R_Tp 34 "WaterMen$Tape" "start" "I") tw_111) (fun _ h9 => h9) rfl d_Tp_readInto_31 ?_
  refine W.widen (k := 0) (n := 0) (Nat.le_of_ble_eq_true rfl) (Nat.le_of_ble_eq_true rfl) ?_
  exact W.iret (v := 0) hx hb hr (fun t ht hW => ⟨⟨0, (), rfl, rfl, z_1, by rw [ht]; exact hP, va_K.moved hW.alike hK, by rw [hAe]; exact hD⟩, by rw [hAe]; exact hS.F ht⟩) (by rw [hAe]; exact hS.2.2) d_Tp_readInto_34
def f_WM_order (p_0 : Int32) : Int32 := if p_0 < 0 then ((-1)) else (if 500 ≤ p_0 then ((-1)) else ((-100)))
set_option maxHeartbeats 4000000 in
set_option maxRecDepth 100000 in
theorem c_WM_order (l : Launch) (dC : Nat → ClassId) (dI : Nat → Nat → Nat) (a : Nat → Nat) (k : Nat → ClassId) (L : List Nat) (hL : L.length = 40) (sz : Nat) (p_0 : Int32)  : Met l y_WM_order (.code y_WM_order b_WM_order 3 (some .int) :: TB) ({ frames := 2, cells := 0, slots := 0, locals := 49 }) (va_Pc [.ref (a 0), .int p_0] (PC dC dI (XW a k L) (XT k) sz)) (va_Qi (fun r (_ : Unit) => r = f_WM_order p_0) (fun (_ : Unit) (_ : State) => True) (va_A (XW a k L) sz)) 0 0 (va_A (XW a k L) sz) := by
  refine Met.ofW (cc := b_WM_order) (maxL := 3) (ret := (some .int)) (by decide) rfl ?_
  intro p e s m args below meth c s₁ B hml hv
  obtain ⟨rfl, hsz, hP, hK, hD0, hN⟩ := hv
  have hx := B.exec
  have hb := B.bytes
  have hr := B.returns
  have hts := atoms_spec (ws := (.code y_WM_order b_WM_order 3 (some .int) :: TB)) B.pre
  have htb := fun w (h : w ∈ TB) => hts w (List.mem_cons_of_mem _ h)
  have hown : s.vm.findClass R_WM = some m.cls := findClass_of_methodNamed B.named
  have hlocks := B.notSynchronized
  have hl := lv_entry ([.ref (a 0), .int p_0]) (n := 3) (Nat.le_of_ble_eq_true rfl)
  rw [lg_entry_eq]
  generalize (lg_sl ([.ref (a 0), .int p_0]) ++ List.replicate (3 - (lg_sl ([.ref (a 0), .int p_0])).length) Slot.unset).toArray = ls at hl ⊢
  have hl : lv_has ls 3 [(0, .ref (a 0)), (1, .int p_0)] := hl
  subst hsz
  have hD := hD0.self (sz := s.heap.size)
  obtain ⟨A, hAe⟩ : ∃ A, va_A (XW a k L) s.heap.size = A := ⟨_, rfl⟩
  rw [hAe] at hD
  have hA : ∀ q : Nat, s.heap.size ≤ q → A q := fun q h => by rw [← hAe]; exact Or.inr h
  have hS : va_S A s.heap s.heap [] := va_S.rf
  have hP := hP
  refine lv_iload_n hx hb d_WM_order_0 rfl (lv_at hl 1 rfl) ?_
  refine vp_callSi (va_Run.run (va_runS (As := [.int p_0]) (rest := []) ⟨hx, hb, hml, hown, htb⟩ (c_WM_isDay l p_0) (cwS 1 htb (gd_S tw_16 tw_17 tw_15 tw_14) rfl rfl rfl (by decide +kernel) ⟨Nat.le_of_ble_eq_true rfl, Nat.le_of_ble_eq_true rfl⟩) ⟨fun _ _ _ _ h => h, fun U _ _ => ⟨rfl, trivial⟩⟩ rfl rfl hl.1 rfl (lv_room (Nat.le_of_ble_eq_true rfl)) d_WM_order_1 ⟨Nat.le_of_ble_eq_true rfl, Nat.le_of_ble_eq_true rfl⟩)) (fun r er => ?_)
  subst er
  by_cases c_1 : p_0 < 0
  · refine hb_ti 0 (by unfold f_WM_isDay; rw [if_pos c_1]) ?_
    refine lv_if_ne (tgt := 9) hx hb d_WM_order_4 (by decide) (fun h => absurd (by decide +kernel) h) (fun _ => ?_)
    refine lv_iconst (v := (-1)) hx hb d_WM_order_7 (by decide +kernel) ?_
    refine W.widen (k := 0) (n := 0) (Nat.le_of_ble_eq_true rfl) (Nat.le_of_ble_eq_true rfl) ?_
    exact W.iret (v := (-1)) hx hb hr (fun t ht hW => ⟨⟨(-1), (), rfl, (by unfold f_WM_order; rw [if_pos c_1]), trivial⟩, by rw [hAe]; exact hS.F ht⟩) (by rw [hAe]; exact hS.2.2) d_WM_order_8
  · by_cases c_2 : 500 ≤ p_0
    · refine hb_ti 0 (by unfold f_WM_isDay; rw [if_neg c_1, if_pos c_2]) ?_
      refine lv_if_ne (tgt := 9) hx hb d_WM_order_4 (by decide) (fun h => absurd (by decide +kernel) h) (fun _ => ?_)
      refine lv_iconst (v := (-1)) hx hb d_WM_order_7 (by decide +kernel) ?_
      refine W.widen (k := 0) (n := 0) (Nat.le_of_ble_eq_true rfl) (Nat.le_of_ble_eq_true rfl) ?_
      exact W.iret (v := (-1)) hx hb hr (fun t ht hW => ⟨⟨(-1), (), rfl, (by unfold f_WM_order; rw [if_neg c_1, if_pos c_2]), trivial⟩, by rw [hAe]; exact hS.F ht⟩) (by rw [hAe]; exact hS.2.2) d_WM_order_8
    · refine hb_ti 1 (by unfold f_WM_isDay; rw [if_neg c_1, if_neg c_2]) ?_
      refine lv_if_ne (tgt := 9) hx hb d_WM_order_4 (by decide) (fun _ => ?_) (fun h => absurd h (by decide +kernel))
      refine lv_aload_n hx hb d_WM_order_9 rfl (lv_at hl 0 rfl) ?_
      refine va_get (D := (dC, dI)) (ci := 0) (v := .int 0) (C := R_WM) (T := F_WM) (N := 13) hx hb htb i_WM hown hK hP 0 rfl rfl 8 (by decide) (htb (.fieldLink R_WM 210 "WaterMen" "orderCount" "I") tw_100) (fun _ h9 => h9) rfl d_WM_order_10 ?_
      refine lv_bipush (v := 20) hx hb d_WM_order_13 (by decide +kernel) ?_
      refine lv_icmp_lt (tgt := 21) hx hb d_WM_order_15 (by decide) (fun _ => ?_) (fun h => absurd (by decide +kernel) h)
      have hP := hP.sub (ws' := [((a 0), .inr (0, [.ref (a 1), .ref (a 6), .ref (a 7), .ref (a 8), .ref (a 9), .ref (a 10), .ref (a 12), .int 0, .int 0, .int 0, .int 0, .int 0, .ref (a 15)])), ((a 10), .inr (4, [.ref (a 11), .int 0, .int 0, .int 0, .int 0, .int 0])), ((a 11), .inl ((k 11), 400, .inl (fun _ => 0))), ((a 15), .inr (3, [.int 0, .int 0, .ref (a 16), .ref (a 17), .ref (a 18), .int 0, .int 0, .int 0, .int 0])), ((a 18), .inl ((k 18), 9, .inl (fun _ => 0)))]) [0, 10, 11, 15, 18] rfl
      have hD := hD.sub (ws' := [((a 0), .inr (0, [.ref (a 1), .ref (a 6), .ref (a 7), .ref (a 8), .ref (a 9), .ref (a 10), .ref (a 12), .int 0, .int 0, .int 0, .int 0, .int 0, .ref (a 15)])), ((a 10), .inr (4, [.ref (a 11), .int 0, .int 0, .int 0, .int 0, .int 0])), ((a 11), .inl ((k 11), 400, .inl (fun _ => 0))), ((a 15), .inr (3, [.int 0, .int 0, .ref (a 16), .ref (a 17), .ref (a 18), .int 0, .int 0, .int 0, .int 0])), ((a 18), .inl ((k 18), 9, .inl (fun _ => 0)))]) [0, 10, 11, 15, 18] (by decide) rfl
      have hK := hK.sub (tys' := [((k 11), .byte), ((k 18), .int)]) [8, 13] rfl
      refine lv_aload_n hx hb d_WM_order_21 rfl (lv_at hl 0 rfl) ?_
      refine va_get (D := (dC, dI)) (ci := 0) (v := .ref (a 10)) (C := R_WM) (T := F_WM) (N := 13) hx hb htb i_WM hown hK hP 0 rfl rfl 5 (by decide) (htb (.fieldLink R_WM 43 "WaterMen" "tape" "LWaterMen$Tape;") tw_87) (fun _ h9 => h9) rfl d_WM_order_22 ?_
      refine lv_aload_n hx hb d_WM_order_25 rfl (lv_at hl 0 rfl) ?_
      refine va_get (D := (dC, dI)) (ci := 0) (v := .ref (a 15)) (C := R_WM) (T := F_WM) (N := 13) hx hb htb i_WM hown hK hP 0 rfl rfl 12 (by decide) (htb (.fieldLink R_WM 55 "WaterMen" "draft" "LWaterMen$Order;") tw_101) (fun _ h9 => h9) rfl d_WM_order_26 ?_
      have hPc := hP.sub (ws' := [((a 10), .inr (4, [.ref (a 11), .int 0, .int 0, .int 0, .int 0, .int 0])), ((a 15), .inr (3, [.int 0, .int 0, .ref (a 16), .ref (a 17), .ref (a 18), .int 0, .int 0, .int 0, .int 0])), ((a 11), .inl ((k 11), 400, .inl (fun _ => 0))), ((a 18), .inl ((k 18), 9, .inl (fun _ => 0)))]) [1, 3, 2, 4] rfl
      have hDc := hD.sub (ws' := [((a 10), .inr (4, [.ref (a 11), .int 0, .int 0, .int 0, .int 0, .int 0])), ((a 15), .inr (3, [.int 0, .int 0, .ref (a 16), .ref (a 17), .ref (a 18), .int 0, .int 0, .int 0, .int 0])), ((a 11), .inl ((k 11), 400, .inl (fun _ => 0))), ((a 18), .inl ((k 18), 9, .inl (fun _ => 0)))]) [1, 3, 2, 4] (by decide) rfl
      have hKc := hK.sub (tys' := [((k 11), .byte), ((k 18), .int)]) [0, 1] rfl
      have hFc := va_free (wc := [((a 10), .inr (4, [.ref (a 11), .int 0, .int 0, .int 0, .int 0, .int 0])), ((a 15), .inr (3, [.int 0, .int 0, .ref (a 16), .ref (a 17), .ref (a 18), .int 0, .int 0, .int 0, .int 0])), ((a 11), .inl ((k 11), 400, .inl (fun _ => 0))), ((a 18), .inl ((k 18), 9, .inl (fun _ => 0)))]) hD hS hA [1, 3, 2, 4] rfl
      refine va_calli (va_runV (As := [.ref (a 15)]) (rest := []) ⟨hx, hb, hml, hown, htb⟩ (c_Tp_readInto_c5 l dC dI (a 10) (a 15) (a 16) (a 17) (a 11) (a 18) (k 11) (k 18) _) (cwV 1 htb (gd_V tw_123 tw_124 tw_125 tw_90 tw_122) rfl rfl rfl (by decide +kernel) ⟨Nat.le_of_ble_eq_true rfl, Nat.le_of_ble_eq_true rfl⟩) ⟨pc_blind, va_recv hKc hPc (ci := 4) (q0 := 0) rfl rfl, pc_pre hPc hKc hDc hN⟩ rfl rfl hl.1 rfl (lv_room (Nat.le_of_ble_eq_true rfl)) d_WM_order_29 ⟨Nat.le_of_ble_eq_true rfl, Nat.le_of_ble_eq_true rfl⟩) hS (fun q _ h => hFc q h) hFc (fun r u t H1 locs ht hvm er hB hz1 hk1 hS => ?_)
      subst er
      obtain ⟨z_3, hP1, hK1, hD1⟩ := hB
      rw [ht] at hP1
      have hK1 := va_K.moved hvm.symm hK1
      obtain ⟨hP, hD⟩ := va_join (wr := [((a 0), .inr (0, [.ref (a 1), .ref (a 6), .ref (a 7), .ref (a 8), .ref (a 9), .ref (a 10), .ref (a 12), .int 0, .int 0, .int 0, .int 0, .int 0, .ref (a 15)]))]) (w1 := [((a 10), .inr (4, [.ref (a 11), .int 0, .int 0, .int 0, .int 0, .int 0])), ((a 15), .inr (3, [.int 0, .int 0, .ref (a 16), .ref (a 17), .ref (a 18), .int 0, .int 0, .int 0, .int 0])), ((a 11), .inl ((k 11), 400, .inl (fun _ => 0))), ((a 18), .inl ((k 18), 9, .inl z_3))]) hP hD [1, 3, 2, 4] [0] rfl rfl (by decide) (by decide) hk1 hFc hP1 hD1
      have hK := (hK.sub (tys' := []) [] rfl).app hK1
      generalize H1 = H at hP hS ⊢
      have hP : va_P (dC, dI) vwCl [((a 0), .inr (0, [.ref (a 1), .ref (a 6), .ref (a 7), .ref (a 8), .ref (a 9), .ref (a 10), .ref (a 12), .int 0, .int 0, .int 0, .int 0, .int 0, .ref (a 15)])), ((a 10), .inr (4, [.ref (a 11), .int 0, .int 0, .int 0, .int 0, .int 0])), ((a 15), .inr (3, [.int 0, .int 0, .ref (a 16), .ref (a 17), .ref (a 18), .int 0, .int 0, .int 0, .int 0])), ((a 11), .inl ((k 11), 400, .inl (fun _ => 0))), ((a 18), .inl ((k 18), 9, .inl z_3))] H := hP
      have hD : va_D A [((a 0), .inr (0, [.ref (a 1), .ref (a 6), .ref (a 7), .ref (a 8), .ref (a 9), .ref (a 10), .ref (a 12), .int 0, .int 0, .int 0, .int 0, .int 0, .ref (a 15)])), ((a 10), .inr (4, [.ref (a 11), .int 0, .int 0, .int 0, .int 0, .int 0])), ((a 15), .inr (3, [.int 0, .int 0, .ref (a 16), .ref (a 17), .ref (a 18), .int 0, .int 0, .int 0, .int 0])), ((a 11), .inl ((k 11), 400, .inl (fun _ => 0))), ((a 18), .inl ((k 18), 9, .inl z_3))] := hD
      have hK : va_K (dC, dI) vwCl [((k 11), .byte), ((k 18), .int)] s := hK
      refine hb_ti 0 rfl ?_
      refine lv_istore_n (lv' := [(2, .int 0), (0, .ref (a 0)), (1, .int p_0)]) hx hb d_WM_order_32 rfl hl (by decide) rfl (fun ls hl => ?_)
      refine lv_aload_n hx hb d_WM_order_33 rfl (lv_at hl 1 rfl) ?_
      refine va_get (D := (dC, dI)) (ci := 0) (v := .ref (a 10)) (C := R_WM) (T := F_WM) (N := 13) hx hb htb i_WM hown hK hP 0 rfl rfl 5 (by decide) (htb (.fieldLink R_WM 43 "WaterMen" "tape" "LWaterMen$Tape;") tw_87) (fun _ h9 => h9) rfl d_WM_order_34 ?_
      refine lv_iconst (v := 0) hx hb d_WM_order_37 (by decide +kernel) ?_
      refine va_put (D := (dC, dI)) (ci := 4) (v := .int 0) (ty := .int) (C := R_Tp) (T := F_Tp) (N := 6) hx hb htb i_Tp t_Tp t_Tp_ok n_Tp hown hK hP hD hS 1 rfl rfl 1 (by decide) (htb (.fieldLink R_WM 207 "WaterMen$Tape" "length" "I") tw_99) (fun _ h9 => h9) rfl (by decide +kernel) rfl rfl (Nat.le_of_ble_eq_true rfl) d_WM_order_38 (fun H locs hP hD hS => ?_)
      have hP : va_P (dC, dI) vwCl [((a 0), .inr (0, [.ref (a 1), .ref (a 6), .ref (a 7), .ref (a 8), .ref (a 9), .ref (a 10), .ref (a 12), .int 0, .int 0, .int 0, .int 0, .int 0, .ref (a 15)])), ((a 10), .inr (4, [.ref (a 11), .int 0, .int 0, .int 0, .int 0, .int 0])), ((a 15), .inr (3, [.int 0, .int 0, .ref (a 16), .ref (a 17), .ref (a 18), .int 0, .int 0, .int 0, .int 0])), ((a 11), .inl ((k 11), 400, .inl (fun _ => 0))), ((a 18), .inl ((k 18), 9, .inl z_3))] H := hP
      have hD : va_D A [((a 0), .inr (0, [.ref (a 1), .ref (a 6), .ref (a 7), .ref (a 8), .ref (a 9), .ref (a 10), .ref (a 12), .int 0, .int 0, .int 0, .int 0, .int 0, .ref (a 15)])), ((a 10), .inr (4, [.ref (a 11), .int 0, .int 0, .int 0, .int 0, .int 0])), ((a 15), .inr (3, [.int 0, .int 0, .ref (a 16), .ref (a 17), .ref (a 18), .int 0, .int 0, .int 0, .int 0])), ((a 11), .inl ((k 11), 400, .inl (fun _ => 0))), ((a 18), .inl ((k 18), 9, .inl z_3))] := hD
      refine lv_iload_n hx hb d_WM_order_41 rfl (lv_at hl 0 rfl) ?_
      refine lv_iconst (v := (-1)) hx hb d_WM_order_42 (by decide +kernel) ?_
      refine lv_icmp_eq (tgt := 51) hx hb d_WM_order_43 (by decide) (fun h => absurd h (by decide +kernel)) (fun _ => ?_)
      refine lv_bipush (v := (-100)) hx hb d_WM_order_46 (by decide +kernel) ?_
      refine lv_iload_n hx hb d_WM_order_48 rfl (lv_at hl 0 rfl) ?_
      refine lv_isub hx hb d_WM_order_49 ?_
      refine hb_ti (-100) (by decide +kernel) ?_
      refine W.widen (k := 0) (n := 0) (Nat.le_of_ble_eq_true rfl) (Nat.le_of_ble_eq_true rfl) ?_
      exact W.iret (v := (-100)) hx hb hr (fun t ht hW => ⟨⟨(-100), (), rfl, (by unfold f_WM_order; rw [if_neg c_1, if_neg c_2]), trivial⟩, by rw [hAe]; exact hS.F ht⟩) (by rw [hAe]; exact hS.2.2) d_WM_order_50
def f_WM_numberInForce (p_0 : Int32) (p_1 : Int32) : Int32 := (-2)
set_option maxHeartbeats 4000000 in
set_option maxRecDepth 100000 in
theorem c_WM_numberInForce (l : Launch) (dC : Nat → ClassId) (dI : Nat → Nat → Nat) (a : Nat → Nat) (k : Nat → ClassId) (L : List Nat) (hL : L.length = 40)  (p_0 : Int32) (p_1 : Int32)  : Met l y_WM_numberInForce (.code y_WM_numberInForce b_WM_numberInForce 5 (some .int) :: TB) ({ frames := 0, cells := 0, slots := 0, locals := 0 }) (va_Pc [.ref (a 0), .int p_0, .int p_1] (PR dC dI (XW a k L) (XT k))) (vp_Si (fun r => r = f_WM_numberInForce p_0 p_1)) 0 0 (fun _ => False) := by
  refine Met.ofW (cc := b_WM_numberInForce) (maxL := 5) (ret := (some .int)) (by decide) rfl ?_
  intro p e s m args below meth c s₁ B hml hv
  obtain ⟨rfl, hP, hK, hN⟩ := hv
  have hx := B.exec
  have hb := B.bytes
  have hr := B.returns
  have hts := atoms_spec (ws := (.code y_WM_numberInForce b_WM_numberInForce 5 (some .int) :: TB)) B.pre
  have htb := fun w (h : w ∈ TB) => hts w (List.mem_cons_of_mem _ h)
  have hown : s.vm.findClass R_WM = some m.cls := findClass_of_methodNamed B.named
  have hlocks := B.notSynchronized
  have hl := lv_entry ([.ref (a 0), .int p_0, .int p_1]) (n := 5) (Nat.le_of_ble_eq_true rfl)
  rw [lg_entry_eq]
  generalize (lg_sl ([.ref (a 0), .int p_0, .int p_1]) ++ List.replicate (5 - (lg_sl ([.ref (a 0), .int p_0, .int p_1])).length) Slot.unset).toArray = ls at hl ⊢
  have hl : lv_has ls 5 [(0, .ref (a 0)), (1, .int p_0), (2, .int p_1)] := hl
  refine lv_aload_n hx hb d_WM_numberInForce_0 rfl (lv_at hl 0 rfl) ?_
  refine va_get (D := (dC, dI)) (ci := 0) (v := .int 0) (C := R_WM) (T := F_WM) (N := 13) hx hb htb i_WM hown hK hP 0 rfl rfl 8 (by decide) (htb (.fieldLink R_WM 210 "WaterMen" "orderCount" "I") tw_100) (fun _ h9 => h9) rfl d_WM_numberInForce_1 ?_
  refine lv_iconst (v := 1) hx hb d_WM_numberInForce_4 (by decide +kernel) ?_
  refine lv_isub hx hb d_WM_numberInForce_5 ?_
  refine hb_ti (-1) (by decide +kernel) ?_
  refine lv_istore_n (lv' := [(3, .int (-1)), (0, .ref (a 0)), (1, .int p_0), (2, .int p_1)]) hx hb d_WM_numberInForce_6 rfl hl (by decide) rfl (fun ls hl => ?_)
  refine lv_iload_n hx hb d_WM_numberInForce_7 rfl (lv_at hl 0 rfl) ?_
  refine lv_if_lt (tgt := 49) hx hb d_WM_numberInForce_8 (by decide) (fun _ => ?_) (fun h => absurd (by decide +kernel) h)
  refine lv_bipush (v := (-2)) hx hb d_WM_numberInForce_49 (by decide +kernel) ?_
  exact W.iret (v := (-2)) hx hb hr (fun t ht hW => ⟨(-2), rfl, rfl, ht⟩) t_nil d_WM_numberInForce_51
def f_WM_inForce (p_0 : Int32) (p_1 : Int32) : Int32 := if p_0 < 0 then ((-1)) else (if 500 ≤ p_0 then ((-1)) else (if p_1 < 0 then ((-1)) else (if 500 ≤ p_1 then ((-1)) else ((-2)))))
set_option maxHeartbeats 4000000 in
set_option maxRecDepth 100000 in
theorem c_WM_inForce (l : Launch) (dC : Nat → ClassId) (dI : Nat → Nat → Nat) (a : Nat → Nat) (k : Nat → ClassId) (L : List Nat) (hL : L.length = 40)  (p_0 : Int32) (p_1 : Int32)  : Met l y_WM_inForce (.code y_WM_inForce b_WM_inForce 3 (some .int) :: TB) ({ frames := 1, cells := 0, slots := 0, locals := 24 }) (va_Pc [.ref (a 0), .int p_0, .int p_1] (PR dC dI (XW a k L) (XT k))) (vp_Si (fun r => r = f_WM_inForce p_0 p_1)) 0 0 (fun _ => False) := by
  refine Met.ofW (cc := b_WM_inForce) (maxL := 3) (ret := (some .int)) (by decide) rfl ?_
  intro p e s m args below meth c s₁ B hml hv
  obtain ⟨rfl, hP, hK, hN⟩ := hv
  have hx := B.exec
  have hb := B.bytes
  have hr := B.returns
  have hts := atoms_spec (ws := (.code y_WM_inForce b_WM_inForce 3 (some .int) :: TB)) B.pre
  have htb := fun w (h : w ∈ TB) => hts w (List.mem_cons_of_mem _ h)
  have hown : s.vm.findClass R_WM = some m.cls := findClass_of_methodNamed B.named
  have hlocks := B.notSynchronized
  have hl := lv_entry ([.ref (a 0), .int p_0, .int p_1]) (n := 3) (Nat.le_of_ble_eq_true rfl)
  rw [lg_entry_eq]
  generalize (lg_sl ([.ref (a 0), .int p_0, .int p_1]) ++ List.replicate (3 - (lg_sl ([.ref (a 0), .int p_0, .int p_1])).length) Slot.unset).toArray = ls at hl ⊢
  have hl : lv_has ls 3 [(0, .ref (a 0)), (1, .int p_0), (2, .int p_1)] := hl
  refine lv_iload_n hx hb d_WM_inForce_0 rfl (lv_at hl 1 rfl) ?_
  refine vp_callSi (va_Run.run (va_runS (As := [.int p_0]) (rest := []) ⟨hx, hb, hml, hown, htb⟩ (c_WM_isDay l p_0) (cwS 1 htb (gd_S tw_16 tw_17 tw_15 tw_14) rfl rfl rfl (by decide +kernel) ⟨Nat.le_of_ble_eq_true rfl, Nat.le_of_ble_eq_true rfl⟩) ⟨fun _ _ _ _ h => h, fun U _ _ => ⟨rfl, trivial⟩⟩ rfl rfl hl.1 rfl (lv_room (Nat.le_of_ble_eq_true rfl)) d_WM_inForce_1 ⟨Nat.le_of_ble_eq_true rfl, Nat.le_of_ble_eq_true rfl⟩)) (fun r er => ?_)
  subst er
  by_cases c_1 : p_0 < 0
  · refine hb_ti 0 (by unfold f_WM_isDay; rw [if_pos c_1]) ?_
    refine lv_if_eq (tgt := 23) hx hb d_WM_inForce_4 (by decide) (fun _ => ?_) (fun h => absurd (by decide +kernel) h)
    refine lv_iconst (v := (-1)) hx hb d_WM_inForce_23 (by decide +kernel) ?_
    exact W.iret (v := (-1)) hx hb hr (fun t ht hW => ⟨(-1), rfl, (by unfold f_WM_inForce; rw [if_pos c_1]), ht⟩) t_nil d_WM_inForce_24
  · by_cases c_2 : 500 ≤ p_0
    · refine hb_ti 0 (by unfold f_WM_isDay; rw [if_neg c_1, if_pos c_2]) ?_
      refine lv_if_eq (tgt := 23) hx hb d_WM_inForce_4 (by decide) (fun _ => ?_) (fun h => absurd (by decide +kernel) h)
      refine lv_iconst (v := (-1)) hx hb d_WM_inForce_23 (by decide +kernel) ?_
      exact W.iret (v := (-1)) hx hb hr (fun t ht hW => ⟨(-1), rfl, (by unfold f_WM_inForce; rw [if_neg c_1, if_pos c_2]), ht⟩) t_nil d_WM_inForce_24
    · refine hb_ti 1 (by unfold f_WM_isDay; rw [if_neg c_1, if_neg c_2]) ?_
      refine lv_if_eq (tgt := 23) hx hb d_WM_inForce_4 (by decide) (fun h => absurd h (by decide +kernel)) (fun _ => ?_)
      refine lv_iload_n hx hb d_WM_inForce_7 rfl (lv_at hl 2 rfl) ?_
      refine vp_callSi (va_Run.run (va_runS (As := [.int p_1]) (rest := []) ⟨hx, hb, hml, hown, htb⟩ (c_WM_isDay l p_1) (cwS 1 htb (gd_S tw_16 tw_17 tw_15 tw_14) rfl rfl rfl (by decide +kernel) ⟨Nat.le_of_ble_eq_true rfl, Nat.le_of_ble_eq_true rfl⟩) ⟨fun _ _ _ _ h => h, fun U _ _ => ⟨rfl, trivial⟩⟩ rfl rfl hl.1 rfl (lv_room (Nat.le_of_ble_eq_true rfl)) d_WM_inForce_8 ⟨Nat.le_of_ble_eq_true rfl, Nat.le_of_ble_eq_true rfl⟩)) (fun r er => ?_)
      subst er
      by_cases c_3 : p_1 < 0
      · refine hb_ti 0 (by unfold f_WM_isDay; rw [if_pos c_3]) ?_
        refine lv_if_eq (tgt := 23) hx hb d_WM_inForce_11 (by decide) (fun _ => ?_) (fun h => absurd (by decide +kernel) h)
        refine lv_iconst (v := (-1)) hx hb d_WM_inForce_23 (by decide +kernel) ?_
        exact W.iret (v := (-1)) hx hb hr (fun t ht hW => ⟨(-1), rfl, (by unfold f_WM_inForce; rw [if_neg c_1, if_neg c_2, if_pos c_3]), ht⟩) t_nil d_WM_inForce_24
      · by_cases c_4 : 500 ≤ p_1
        · refine hb_ti 0 (by unfold f_WM_isDay; rw [if_neg c_3, if_pos c_4]) ?_
          refine lv_if_eq (tgt := 23) hx hb d_WM_inForce_11 (by decide) (fun _ => ?_) (fun h => absurd (by decide +kernel) h)
          refine lv_iconst (v := (-1)) hx hb d_WM_inForce_23 (by decide +kernel) ?_
          exact W.iret (v := (-1)) hx hb hr (fun t ht hW => ⟨(-1), rfl, (by unfold f_WM_inForce; rw [if_neg c_1, if_neg c_2, if_neg c_3, if_pos c_4]), ht⟩) t_nil d_WM_inForce_24
        · refine hb_ti 1 (by unfold f_WM_isDay; rw [if_neg c_3, if_neg c_4]) ?_
          refine lv_if_eq (tgt := 23) hx hb d_WM_inForce_11 (by decide) (fun h => absurd h (by decide +kernel)) (fun _ => ?_)
          refine lv_aload_n hx hb d_WM_inForce_14 rfl (lv_at hl 0 rfl) ?_
          refine lv_iload_n hx hb d_WM_inForce_15 rfl (lv_at hl 1 rfl) ?_
          refine lv_iload_n hx hb d_WM_inForce_16 rfl (lv_at hl 2 rfl) ?_
          refine vp_callSi (va_Run.run (va_runV (As := [.int p_0, .int p_1]) (rest := []) ⟨hx, hb, hml, hown, htb⟩ (c_WM_numberInForce l dC dI a k L hL p_0 p_1) (cwV 2 htb (gd_V tw_127 tw_128 tw_129 tw_15 tw_126) rfl rfl rfl (by decide +kernel) ⟨Nat.le_of_ble_eq_true rfl, Nat.le_of_ble_eq_true rfl⟩) ⟨pr_blind, va_recv hK hP (ci := 0) (q0 := 0) rfl rfl, pr_pre hP hK hN⟩ rfl rfl hl.1 rfl (lv_room (Nat.le_of_ble_eq_true rfl)) d_WM_inForce_17 ⟨Nat.le_of_ble_eq_true rfl, Nat.le_of_ble_eq_true rfl⟩)) (fun r er => ?_)
          subst er
          refine hb_ti (-2) rfl ?_
          refine lv_goto (tgt := 24) hx hb d_WM_inForce_20 (by decide) ?_
          exact W.iret (v := (-2)) hx hb hr (fun t ht hW => ⟨(-2), rfl, (by unfold f_WM_inForce; rw [if_neg c_1, if_neg c_2, if_neg c_3, if_neg c_4]), ht⟩) t_nil d_WM_inForce_24
def f_WM_orderAt (a : Nat → Nat) (k : Nat → ClassId) (L : List Nat) (p_0 : Int32) (r : Option Nat) : Prop := if p_0 < 0 then (r = none) else (r = none)
set_option maxHeartbeats 4000000 in
set_option maxRecDepth 100000 in
theorem c_WM_orderAt (l : Launch) (dC : Nat → ClassId) (dI : Nat → Nat → Nat) (a : Nat → Nat) (k : Nat → ClassId) (L : List Nat) (hL : L.length = 40) (p_0 : Int32) : Met l y_WM_orderAt (.code y_WM_orderAt b_WM_orderAt 2 (some (.object "WaterMen$Order")) :: TB) ({ frames := 0, cells := 0, slots := 0, locals := 0 }) (va_Pc [.ref (a 0), .int p_0] (PR dC dI (XW a k L) (XT k))) (va_Sq (fun r => f_WM_orderAt a k L p_0 r)) 0 0 (fun _ => False) := by
  refine Met.ofW (cc := b_WM_orderAt) (maxL := 2) (ret := (some (.object "WaterMen$Order"))) (by decide) rfl ?_
  intro p e s m args below meth c s₁ B hml hv
  obtain ⟨rfl, hP, hK, hN⟩ := hv
  have hx := B.exec
  have hb := B.bytes
  have hr := B.returns
  have hts := atoms_spec (ws := (.code y_WM_orderAt b_WM_orderAt 2 (some (.object "WaterMen$Order")) :: TB)) B.pre
  have htb := fun w (h : w ∈ TB) => hts w (List.mem_cons_of_mem _ h)
  have hown : s.vm.findClass R_WM = some m.cls := findClass_of_methodNamed B.named
  have hlocks := B.notSynchronized
  have hl := lv_entry ([.ref (a 0), .int p_0]) (n := 2) (Nat.le_of_ble_eq_true rfl)
  rw [lg_entry_eq]
  generalize (lg_sl ([.ref (a 0), .int p_0]) ++ List.replicate (2 - (lg_sl ([.ref (a 0), .int p_0])).length) Slot.unset).toArray = ls at hl ⊢
  have hl : lv_has ls 2 [(0, .ref (a 0)), (1, .int p_0)] := hl
  refine lv_iload_n hx hb d_WM_orderAt_0 rfl (lv_at hl 1 rfl) ?_
  refine lv_if_lt (tgt := 21) hx hb d_WM_orderAt_1 (by decide) (fun c_1 => ?_) (fun c_1 => ?_)
  · refine lv_null hx hb d_WM_orderAt_21 ?_
    exact W.aret (v := .null) (rt := .object "WaterMen$Order") hx hb hr (Or.inl ⟨_, rfl⟩) (Or.inl rfl) (fun t ht hW => ⟨none, rfl, (by show f_WM_orderAt a k L p_0 none; unfold f_WM_orderAt; rw [if_pos c_1]), ht⟩) t_nil d_WM_orderAt_22
  · refine lv_iload_n hx hb d_WM_orderAt_4 rfl (lv_at hl 1 rfl) ?_
    refine lv_aload_n hx hb d_WM_orderAt_5 rfl (lv_at hl 0 rfl) ?_
    refine va_get (D := (dC, dI)) (ci := 0) (v := .int 0) (C := R_WM) (T := F_WM) (N := 13) hx hb htb i_WM hown hK hP 0 rfl rfl 8 (by decide) (htb (.fieldLink R_WM 210 "WaterMen" "orderCount" "I") tw_100) (fun _ h9 => h9) rfl d_WM_orderAt_6 ?_
    refine lv_icmp_ge (tgt := 21) hx hb d_WM_orderAt_9 (by decide) (fun _ => ?_) (fun h => absurd (show 0 ≤ p_0 from by have e0 := c_1; rw [Int32.lt_iff_toInt_lt] at e0; have z0 : (0 : Int32).toInt = 0 := (by decide +kernel); rw [Int32.le_iff_toInt_le]; omega) h)
    refine lv_null hx hb d_WM_orderAt_21 ?_
    exact W.aret (v := .null) (rt := .object "WaterMen$Order") hx hb hr (Or.inl ⟨_, rfl⟩) (Or.inl rfl) (fun t ht hW => ⟨none, rfl, (by show f_WM_orderAt a k L p_0 none; unfold f_WM_orderAt; rw [if_neg c_1]), ht⟩) t_nil d_WM_orderAt_22
def f_WM_fare (p_0 : Int32) (p_1 : Int32) (p_2 : Int32) (p_3 : Int32) (p_4 : Int32) : Int32 := if p_0 < 0 then ((-1)) else ((-1))
set_option maxHeartbeats 4000000 in
set_option maxRecDepth 100000 in
theorem c_WM_fare (l : Launch) (dC : Nat → ClassId) (dI : Nat → Nat → Nat) (a : Nat → Nat) (k : Nat → ClassId) (L : List Nat) (hL : L.length = 40)  (p_0 : Int32) (p_1 : Int32) (p_2 : Int32) (p_3 : Int32) (p_4 : Int32)  : Met l y_WM_fare (.code y_WM_fare b_WM_fare 8 (some .int) :: TB) ({ frames := 1, cells := 0, slots := 0, locals := 21 }) (va_Pc [.ref (a 0), .int p_0, .int p_1, .int p_2, .int p_3, .int p_4] (PR dC dI (XW a k L) (XT k))) (vp_Si (fun r => r = f_WM_fare p_0 p_1 p_2 p_3 p_4)) 0 0 (fun _ => False) := by
  refine Met.ofW (cc := b_WM_fare) (maxL := 8) (ret := (some .int)) (by decide) rfl ?_
  intro p e s m args below meth c s₁ B hml hv
  obtain ⟨rfl, hP, hK, hN⟩ := hv
  have hx := B.exec
  have hb := B.bytes
  have hr := B.returns
  have hts := atoms_spec (ws := (.code y_WM_fare b_WM_fare 8 (some .int) :: TB)) B.pre
  have htb := fun w (h : w ∈ TB) => hts w (List.mem_cons_of_mem _ h)
  have hown : s.vm.findClass R_WM = some m.cls := findClass_of_methodNamed B.named
  have hlocks := B.notSynchronized
  have hl := lv_entry ([.ref (a 0), .int p_0, .int p_1, .int p_2, .int p_3, .int p_4]) (n := 8) (Nat.le_of_ble_eq_true rfl)
  rw [lg_entry_eq]
  generalize (lg_sl ([.ref (a 0), .int p_0, .int p_1, .int p_2, .int p_3, .int p_4]) ++ List.replicate (8 - (lg_sl ([.ref (a 0), .int p_0, .int p_1, .int p_2, .int p_3, .int p_4])).length) Slot.unset).toArray = ls at hl ⊢
  have hl : lv_has ls 8 [(0, .ref (a 0)), (1, .int p_0), (2, .int p_1), (3, .int p_2), (4, .int p_3), (5, .int p_4)] := hl
  refine lv_aload_n hx hb d_WM_fare_0 rfl (lv_at hl 0 rfl) ?_
  refine lv_iload_n hx hb d_WM_fare_1 rfl (lv_at hl 1 rfl) ?_
  refine va_csq (va_Run.run (va_runV (As := [.int p_0]) (rest := []) ⟨hx, hb, hml, hown, htb⟩ (c_WM_orderAt l dC dI a k L hL p_0) (cwV 1 htb (gd_V tw_131 tw_132 tw_133 tw_15 tw_130) rfl rfl rfl (by decide +kernel) ⟨Nat.le_of_ble_eq_true rfl, Nat.le_of_ble_eq_true rfl⟩) ⟨pr_blind, va_recv hK hP (ci := 0) (q0 := 0) rfl rfl, pr_pre hP hK hN⟩ rfl rfl hl.1 rfl (lv_room (Nat.le_of_ble_eq_true rfl)) d_WM_fare_2 ⟨Nat.le_of_ble_eq_true rfl, Nat.le_of_ble_eq_true rfl⟩)) (fun rr_2 hq_1 => ?_)
  unfold f_WM_orderAt at hq_1
  by_cases c_3 : p_0 < 0
  · rw [if_pos c_3] at hq_1
    subst hq_1
    refine hb_tv .null rfl ?_
    refine lv_astoreN (lv' := [(6, .null), (0, .ref (a 0)), (1, .int p_0), (2, .int p_1), (3, .int p_2), (4, .int p_3), (5, .int p_4)]) hx hb d_WM_fare_5 hl (by decide) rfl (fun ls hl => ?_)
    refine lv_aloadN hx hb d_WM_fare_7 (lv_at hl 0 rfl) ?_
    refine lv_ifnullN (tgt := 39) hx hb d_WM_fare_9 (by decide) ?_
    refine lv_iconst (v := (-1)) hx hb d_WM_fare_39 (by decide +kernel) ?_
    exact W.iret (v := (-1)) hx hb hr (fun t ht hW => ⟨(-1), rfl, (by unfold f_WM_fare; rw [if_pos c_3]), ht⟩) t_nil d_WM_fare_40
  · rw [if_neg c_3] at hq_1
    subst hq_1
    refine hb_tv .null rfl ?_
    refine lv_astoreN (lv' := [(6, .null), (0, .ref (a 0)), (1, .int p_0), (2, .int p_1), (3, .int p_2), (4, .int p_3), (5, .int p_4)]) hx hb d_WM_fare_5 hl (by decide) rfl (fun ls hl => ?_)
    refine lv_aloadN hx hb d_WM_fare_7 (lv_at hl 0 rfl) ?_
    refine lv_ifnullN (tgt := 39) hx hb d_WM_fare_9 (by decide) ?_
    refine lv_iconst (v := (-1)) hx hb d_WM_fare_39 (by decide +kernel) ?_
    exact W.iret (v := (-1)) hx hb hr (fun t ht hW => ⟨(-1), rfl, (by unfold f_WM_fare; rw [if_neg c_3]), ht⟩) t_nil d_WM_fare_40
def f_WM_why (p_0 : Int32) (p_1 : Int32) (p_2 : Int32) : Int32 := if p_0 < 0 then (if p_1 < 0 then ((-1)) else (if 40 ≤ p_1 then ((-1)) else ((-1)))) else (if p_1 < 0 then ((-1)) else (if 40 ≤ p_1 then ((-1)) else ((-1))))
set_option maxHeartbeats 4000000 in
set_option maxRecDepth 100000 in
theorem c_WM_why (l : Launch) (dC : Nat → ClassId) (dI : Nat → Nat → Nat) (a : Nat → Nat) (k : Nat → ClassId) (L : List Nat) (hL : L.length = 40)  (p_0 : Int32) (p_1 : Int32) (p_2 : Int32)  : Met l y_WM_why (.code y_WM_why b_WM_why 6 (some .int) :: TB) ({ frames := 1, cells := 0, slots := 0, locals := 21 }) (va_Pc [.ref (a 0), .int p_0, .int p_1, .int p_2] (PR dC dI (XW a k L) (XT k))) (vp_Si (fun r => r = f_WM_why p_0 p_1 p_2)) 0 0 (fun _ => False) := by
  refine Met.ofW (cc := b_WM_why) (maxL := 6) (ret := (some .int)) (by decide) rfl ?_
  intro p e s m args below meth c s₁ B hml hv
  obtain ⟨rfl, hP, hK, hN⟩ := hv
  have hx := B.exec
  have hb := B.bytes
  have hr := B.returns
  have hts := atoms_spec (ws := (.code y_WM_why b_WM_why 6 (some .int) :: TB)) B.pre
  have htb := fun w (h : w ∈ TB) => hts w (List.mem_cons_of_mem _ h)
  have hown : s.vm.findClass R_WM = some m.cls := findClass_of_methodNamed B.named
  have hlocks := B.notSynchronized
  have hl := lv_entry ([.ref (a 0), .int p_0, .int p_1, .int p_2]) (n := 6) (Nat.le_of_ble_eq_true rfl)
  rw [lg_entry_eq]
  generalize (lg_sl ([.ref (a 0), .int p_0, .int p_1, .int p_2]) ++ List.replicate (6 - (lg_sl ([.ref (a 0), .int p_0, .int p_1, .int p_2])).length) Slot.unset).toArray = ls at hl ⊢
  have hl : lv_has ls 6 [(0, .ref (a 0)), (1, .int p_0), (2, .int p_1), (3, .int p_2)] := hl
  refine lv_aload_n hx hb d_WM_why_0 rfl (lv_at hl 0 rfl) ?_
  refine lv_iload_n hx hb d_WM_why_1 rfl (lv_at hl 1 rfl) ?_
  refine va_csq (va_Run.run (va_runV (As := [.int p_0]) (rest := []) ⟨hx, hb, hml, hown, htb⟩ (c_WM_boatAt l dC dI a k L hL p_0) (cwV 1 htb (gd_V tw_84 tw_85 tw_86 tw_15 tw_83) rfl rfl rfl (by decide +kernel) ⟨Nat.le_of_ble_eq_true rfl, Nat.le_of_ble_eq_true rfl⟩) ⟨pr_blind, va_recv hK hP (ci := 0) (q0 := 0) rfl rfl, pr_pre hP hK hN⟩ rfl rfl hl.1 rfl (lv_room (Nat.le_of_ble_eq_true rfl)) d_WM_why_2 ⟨Nat.le_of_ble_eq_true rfl, Nat.le_of_ble_eq_true rfl⟩)) (fun rr_2 hq_1 => ?_)
  unfold f_WM_boatAt at hq_1
  by_cases c_3 : p_0 < 0
  · rw [if_pos c_3] at hq_1
    subst hq_1
    refine hb_tv .null rfl ?_
    refine lv_astoreN (lv' := [(4, .null), (0, .ref (a 0)), (1, .int p_0), (2, .int p_1), (3, .int p_2)]) hx hb d_WM_why_5 hl (by decide) rfl (fun ls hl => ?_)
    refine lv_aload_n hx hb d_WM_why_7 rfl (lv_at hl 1 rfl) ?_
    refine lv_iload_n hx hb d_WM_why_8 rfl (lv_at hl 3 rfl) ?_
    refine va_csq (va_Run.run (va_runV (As := [.int p_1]) (rest := []) ⟨hx, hb, hml, hown, htb⟩ (c_WM_manAt l dC dI a k L hL p_1) (cwV 1 htb (gd_V tw_53 tw_54 tw_55 tw_15 tw_52) rfl rfl rfl (by decide +kernel) ⟨Nat.le_of_ble_eq_true rfl, Nat.le_of_ble_eq_true rfl⟩) ⟨pr_blind, va_recv hK hP (ci := 0) (q0 := 0) rfl rfl, pr_pre hP hK hN⟩ rfl rfl hl.1 rfl (lv_room (Nat.le_of_ble_eq_true rfl)) d_WM_why_9 ⟨Nat.le_of_ble_eq_true rfl, Nat.le_of_ble_eq_true rfl⟩)) (fun rr_5 hq_4 => ?_)
    unfold f_WM_manAt at hq_4
    by_cases c_6 : p_1 < 0
    · rw [if_pos c_6] at hq_4
      subst hq_4
      refine hb_tv .null rfl ?_
      refine lv_astoreN (lv' := [(5, .null), (4, .null), (0, .ref (a 0)), (1, .int p_0), (2, .int p_1), (3, .int p_2)]) hx hb d_WM_why_12 hl (by decide) rfl (fun ls hl => ?_)
      refine lv_aloadN hx hb d_WM_why_14 (lv_at hl 1 rfl) ?_
      refine lv_ifnullN (tgt := 34) hx hb d_WM_why_16 (by decide) ?_
      refine lv_iconst (v := (-1)) hx hb d_WM_why_34 (by decide +kernel) ?_
      exact W.iret (v := (-1)) hx hb hr (fun t ht hW => ⟨(-1), rfl, (by unfold f_WM_why; rw [if_pos c_3, if_pos c_6]), ht⟩) t_nil d_WM_why_35
    · by_cases c_7 : 40 ≤ p_1
      · rw [if_neg c_6, if_pos c_7] at hq_4
        subst hq_4
        refine hb_tv .null rfl ?_
        refine lv_astoreN (lv' := [(5, .null), (4, .null), (0, .ref (a 0)), (1, .int p_0), (2, .int p_1), (3, .int p_2)]) hx hb d_WM_why_12 hl (by decide) rfl (fun ls hl => ?_)
        refine lv_aloadN hx hb d_WM_why_14 (lv_at hl 1 rfl) ?_
        refine lv_ifnullN (tgt := 34) hx hb d_WM_why_16 (by decide) ?_
        refine lv_iconst (v := (-1)) hx hb d_WM_why_34 (by decide +kernel) ?_
        exact W.iret (v := (-1)) hx hb hr (fun t ht hW => ⟨(-1), rfl, (by unfold f_WM_why; rw [if_pos c_3, if_neg c_6, if_pos c_7]), ht⟩) t_nil d_WM_why_35
      · rw [if_neg c_6, if_neg c_7] at hq_4
        obtain ⟨q_8, x_9, rfl, hk_10⟩ := hq_4
        refine hb_tv (.ref q_8) rfl ?_
        refine lv_astore (lv' := [(5, .ref q_8), (4, .null), (0, .ref (a 0)), (1, .int p_0), (2, .int p_1), (3, .int p_2)]) hx hb d_WM_why_12 hl (by decide) rfl (fun ls hl => ?_)
        refine lv_aloadN hx hb d_WM_why_14 (lv_at hl 1 rfl) ?_
        refine lv_ifnullN (tgt := 34) hx hb d_WM_why_16 (by decide) ?_
        refine lv_iconst (v := (-1)) hx hb d_WM_why_34 (by decide +kernel) ?_
        exact W.iret (v := (-1)) hx hb hr (fun t ht hW => ⟨(-1), rfl, (by unfold f_WM_why; rw [if_pos c_3, if_neg c_6, if_neg c_7]), ht⟩) t_nil d_WM_why_35
  · rw [if_neg c_3] at hq_1
    subst hq_1
    refine hb_tv .null rfl ?_
    refine lv_astoreN (lv' := [(4, .null), (0, .ref (a 0)), (1, .int p_0), (2, .int p_1), (3, .int p_2)]) hx hb d_WM_why_5 hl (by decide) rfl (fun ls hl => ?_)
    refine lv_aload_n hx hb d_WM_why_7 rfl (lv_at hl 1 rfl) ?_
    refine lv_iload_n hx hb d_WM_why_8 rfl (lv_at hl 3 rfl) ?_
    refine va_csq (va_Run.run (va_runV (As := [.int p_1]) (rest := []) ⟨hx, hb, hml, hown, htb⟩ (c_WM_manAt l dC dI a k L hL p_1) (cwV 1 htb (gd_V tw_53 tw_54 tw_55 tw_15 tw_52) rfl rfl rfl (by decide +kernel) ⟨Nat.le_of_ble_eq_true rfl, Nat.le_of_ble_eq_true rfl⟩) ⟨pr_blind, va_recv hK hP (ci := 0) (q0 := 0) rfl rfl, pr_pre hP hK hN⟩ rfl rfl hl.1 rfl (lv_room (Nat.le_of_ble_eq_true rfl)) d_WM_why_9 ⟨Nat.le_of_ble_eq_true rfl, Nat.le_of_ble_eq_true rfl⟩)) (fun rr_12 hq_11 => ?_)
    unfold f_WM_manAt at hq_11
    by_cases c_13 : p_1 < 0
    · rw [if_pos c_13] at hq_11
      subst hq_11
      refine hb_tv .null rfl ?_
      refine lv_astoreN (lv' := [(5, .null), (4, .null), (0, .ref (a 0)), (1, .int p_0), (2, .int p_1), (3, .int p_2)]) hx hb d_WM_why_12 hl (by decide) rfl (fun ls hl => ?_)
      refine lv_aloadN hx hb d_WM_why_14 (lv_at hl 1 rfl) ?_
      refine lv_ifnullN (tgt := 34) hx hb d_WM_why_16 (by decide) ?_
      refine lv_iconst (v := (-1)) hx hb d_WM_why_34 (by decide +kernel) ?_
      exact W.iret (v := (-1)) hx hb hr (fun t ht hW => ⟨(-1), rfl, (by unfold f_WM_why; rw [if_neg c_3, if_pos c_13]), ht⟩) t_nil d_WM_why_35
    · by_cases c_14 : 40 ≤ p_1
      · rw [if_neg c_13, if_pos c_14] at hq_11
        subst hq_11
        refine hb_tv .null rfl ?_
        refine lv_astoreN (lv' := [(5, .null), (4, .null), (0, .ref (a 0)), (1, .int p_0), (2, .int p_1), (3, .int p_2)]) hx hb d_WM_why_12 hl (by decide) rfl (fun ls hl => ?_)
        refine lv_aloadN hx hb d_WM_why_14 (lv_at hl 1 rfl) ?_
        refine lv_ifnullN (tgt := 34) hx hb d_WM_why_16 (by decide) ?_
        refine lv_iconst (v := (-1)) hx hb d_WM_why_34 (by decide +kernel) ?_
        exact W.iret (v := (-1)) hx hb hr (fun t ht hW => ⟨(-1), rfl, (by unfold f_WM_why; rw [if_neg c_3, if_neg c_13, if_pos c_14]), ht⟩) t_nil d_WM_why_35
      · rw [if_neg c_13, if_neg c_14] at hq_11
        obtain ⟨q_15, x_16, rfl, hk_17⟩ := hq_11
        refine hb_tv (.ref q_15) rfl ?_
        refine lv_astore (lv' := [(5, .ref q_15), (4, .null), (0, .ref (a 0)), (1, .int p_0), (2, .int p_1), (3, .int p_2)]) hx hb d_WM_why_12 hl (by decide) rfl (fun ls hl => ?_)
        refine lv_aloadN hx hb d_WM_why_14 (lv_at hl 1 rfl) ?_
        refine lv_ifnullN (tgt := 34) hx hb d_WM_why_16 (by decide) ?_
        refine lv_iconst (v := (-1)) hx hb d_WM_why_34 (by decide +kernel) ?_
        exact W.iret (v := (-1)) hx hb hr (fun t ht hW => ⟨(-1), rfl, (by unfold f_WM_why; rw [if_neg c_3, if_neg c_13, if_neg c_14]), ht⟩) t_nil d_WM_why_35
def f_WM_row (p_0 : Int32) (p_1 : Int32) (p_2 : Int32) (p_3 : Int32) : Int32 := if p_0 < 0 then (if p_1 < 0 then ((-1)) else (if 40 ≤ p_1 then ((-1)) else ((-1)))) else (if p_1 < 0 then ((-1)) else (if 40 ≤ p_1 then ((-1)) else ((-1))))
set_option maxHeartbeats 4000000 in
set_option maxRecDepth 100000 in
theorem c_WM_row (l : Launch) (dC : Nat → ClassId) (dI : Nat → Nat → Nat) (a : Nat → Nat) (k : Nat → ClassId) (L : List Nat) (hL : L.length = 40)  (p_0 : Int32) (p_1 : Int32) (p_2 : Int32) (p_3 : Int32)  : Met l y_WM_row (.code y_WM_row b_WM_row 9 (some .int) :: TB) ({ frames := 1, cells := 0, slots := 0, locals := 21 }) (va_Pc [.ref (a 0), .int p_0, .int p_1, .int p_2, .int p_3] (PR dC dI (XW a k L) (XT k))) (vp_Si (fun r => r = f_WM_row p_0 p_1 p_2 p_3)) 0 0 (fun _ => False) := by
  refine Met.ofW (cc := b_WM_row) (maxL := 9) (ret := (some .int)) (by decide) rfl ?_
  intro p e s m args below meth c s₁ B hml hv
  obtain ⟨rfl, hP, hK, hN⟩ := hv
  have hx := B.exec
  have hb := B.bytes
  have hr := B.returns
  have hts := atoms_spec (ws := (.code y_WM_row b_WM_row 9 (some .int) :: TB)) B.pre
  have htb := fun w (h : w ∈ TB) => hts w (List.mem_cons_of_mem _ h)
  have hown : s.vm.findClass R_WM = some m.cls := findClass_of_methodNamed B.named
  have hlocks := B.notSynchronized
  have hl := lv_entry ([.ref (a 0), .int p_0, .int p_1, .int p_2, .int p_3]) (n := 9) (Nat.le_of_ble_eq_true rfl)
  rw [lg_entry_eq]
  generalize (lg_sl ([.ref (a 0), .int p_0, .int p_1, .int p_2, .int p_3]) ++ List.replicate (9 - (lg_sl ([.ref (a 0), .int p_0, .int p_1, .int p_2, .int p_3])).length) Slot.unset).toArray = ls at hl ⊢
  have hl : lv_has ls 9 [(0, .ref (a 0)), (1, .int p_0), (2, .int p_1), (3, .int p_2), (4, .int p_3)] := hl
  refine lv_aload_n hx hb d_WM_row_0 rfl (lv_at hl 0 rfl) ?_
  refine lv_iload_n hx hb d_WM_row_1 rfl (lv_at hl 1 rfl) ?_
  refine va_csq (va_Run.run (va_runV (As := [.int p_0]) (rest := []) ⟨hx, hb, hml, hown, htb⟩ (c_WM_boatAt l dC dI a k L hL p_0) (cwV 1 htb (gd_V tw_84 tw_85 tw_86 tw_15 tw_83) rfl rfl rfl (by decide +kernel) ⟨Nat.le_of_ble_eq_true rfl, Nat.le_of_ble_eq_true rfl⟩) ⟨pr_blind, va_recv hK hP (ci := 0) (q0 := 0) rfl rfl, pr_pre hP hK hN⟩ rfl rfl hl.1 rfl (lv_room (Nat.le_of_ble_eq_true rfl)) d_WM_row_2 ⟨Nat.le_of_ble_eq_true rfl, Nat.le_of_ble_eq_true rfl⟩)) (fun rr_2 hq_1 => ?_)
  unfold f_WM_boatAt at hq_1
  by_cases c_3 : p_0 < 0
  · rw [if_pos c_3] at hq_1
    subst hq_1
    refine hb_tv .null rfl ?_
    refine lv_astoreN (lv' := [(5, .null), (0, .ref (a 0)), (1, .int p_0), (2, .int p_1), (3, .int p_2), (4, .int p_3)]) hx hb d_WM_row_5 hl (by decide) rfl (fun ls hl => ?_)
    refine lv_aload_n hx hb d_WM_row_7 rfl (lv_at hl 1 rfl) ?_
    refine lv_iload_n hx hb d_WM_row_8 rfl (lv_at hl 3 rfl) ?_
    refine va_csq (va_Run.run (va_runV (As := [.int p_1]) (rest := []) ⟨hx, hb, hml, hown, htb⟩ (c_WM_manAt l dC dI a k L hL p_1) (cwV 1 htb (gd_V tw_53 tw_54 tw_55 tw_15 tw_52) rfl rfl rfl (by decide +kernel) ⟨Nat.le_of_ble_eq_true rfl, Nat.le_of_ble_eq_true rfl⟩) ⟨pr_blind, va_recv hK hP (ci := 0) (q0 := 0) rfl rfl, pr_pre hP hK hN⟩ rfl rfl hl.1 rfl (lv_room (Nat.le_of_ble_eq_true rfl)) d_WM_row_9 ⟨Nat.le_of_ble_eq_true rfl, Nat.le_of_ble_eq_true rfl⟩)) (fun rr_5 hq_4 => ?_)
    unfold f_WM_manAt at hq_4
    by_cases c_6 : p_1 < 0
    · rw [if_pos c_6] at hq_4
      subst hq_4
      refine hb_tv .null rfl ?_
      refine lv_astoreN (lv' := [(6, .null), (5, .null), (0, .ref (a 0)), (1, .int p_0), (2, .int p_1), (3, .int p_2), (4, .int p_3)]) hx hb d_WM_row_12 hl (by decide) rfl (fun ls hl => ?_)
      refine lv_aloadN hx hb d_WM_row_14 (lv_at hl 1 rfl) ?_
      refine lv_ifnullN (tgt := 46) hx hb d_WM_row_16 (by decide) ?_
      refine lv_iconst (v := (-1)) hx hb d_WM_row_46 (by decide +kernel) ?_
      exact W.iret (v := (-1)) hx hb hr (fun t ht hW => ⟨(-1), rfl, (by unfold f_WM_row; rw [if_pos c_3, if_pos c_6]), ht⟩) t_nil d_WM_row_47
    · by_cases c_7 : 40 ≤ p_1
      · rw [if_neg c_6, if_pos c_7] at hq_4
        subst hq_4
        refine hb_tv .null rfl ?_
        refine lv_astoreN (lv' := [(6, .null), (5, .null), (0, .ref (a 0)), (1, .int p_0), (2, .int p_1), (3, .int p_2), (4, .int p_3)]) hx hb d_WM_row_12 hl (by decide) rfl (fun ls hl => ?_)
        refine lv_aloadN hx hb d_WM_row_14 (lv_at hl 1 rfl) ?_
        refine lv_ifnullN (tgt := 46) hx hb d_WM_row_16 (by decide) ?_
        refine lv_iconst (v := (-1)) hx hb d_WM_row_46 (by decide +kernel) ?_
        exact W.iret (v := (-1)) hx hb hr (fun t ht hW => ⟨(-1), rfl, (by unfold f_WM_row; rw [if_pos c_3, if_neg c_6, if_pos c_7]), ht⟩) t_nil d_WM_row_47
      · rw [if_neg c_6, if_neg c_7] at hq_4
        obtain ⟨q_8, x_9, rfl, hk_10⟩ := hq_4
        refine hb_tv (.ref q_8) rfl ?_
        refine lv_astore (lv' := [(6, .ref q_8), (5, .null), (0, .ref (a 0)), (1, .int p_0), (2, .int p_1), (3, .int p_2), (4, .int p_3)]) hx hb d_WM_row_12 hl (by decide) rfl (fun ls hl => ?_)
        refine lv_aloadN hx hb d_WM_row_14 (lv_at hl 1 rfl) ?_
        refine lv_ifnullN (tgt := 46) hx hb d_WM_row_16 (by decide) ?_
        refine lv_iconst (v := (-1)) hx hb d_WM_row_46 (by decide +kernel) ?_
        exact W.iret (v := (-1)) hx hb hr (fun t ht hW => ⟨(-1), rfl, (by unfold f_WM_row; rw [if_pos c_3, if_neg c_6, if_neg c_7]), ht⟩) t_nil d_WM_row_47
  · rw [if_neg c_3] at hq_1
    subst hq_1
    refine hb_tv .null rfl ?_
    refine lv_astoreN (lv' := [(5, .null), (0, .ref (a 0)), (1, .int p_0), (2, .int p_1), (3, .int p_2), (4, .int p_3)]) hx hb d_WM_row_5 hl (by decide) rfl (fun ls hl => ?_)
    refine lv_aload_n hx hb d_WM_row_7 rfl (lv_at hl 1 rfl) ?_
    refine lv_iload_n hx hb d_WM_row_8 rfl (lv_at hl 3 rfl) ?_
    refine va_csq (va_Run.run (va_runV (As := [.int p_1]) (rest := []) ⟨hx, hb, hml, hown, htb⟩ (c_WM_manAt l dC dI a k L hL p_1) (cwV 1 htb (gd_V tw_53 tw_54 tw_55 tw_15 tw_52) rfl rfl rfl (by decide +kernel) ⟨Nat.le_of_ble_eq_true rfl, Nat.le_of_ble_eq_true rfl⟩) ⟨pr_blind, va_recv hK hP (ci := 0) (q0 := 0) rfl rfl, pr_pre hP hK hN⟩ rfl rfl hl.1 rfl (lv_room (Nat.le_of_ble_eq_true rfl)) d_WM_row_9 ⟨Nat.le_of_ble_eq_true rfl, Nat.le_of_ble_eq_true rfl⟩)) (fun rr_12 hq_11 => ?_)
    unfold f_WM_manAt at hq_11
    by_cases c_13 : p_1 < 0
    · rw [if_pos c_13] at hq_11
      subst hq_11
      refine hb_tv .null rfl ?_
      refine lv_astoreN (lv' := [(6, .null), (5, .null), (0, .ref (a 0)), (1, .int p_0), (2, .int p_1), (3, .int p_2), (4, .int p_3)]) hx hb d_WM_row_12 hl (by decide) rfl (fun ls hl => ?_)
      refine lv_aloadN hx hb d_WM_row_14 (lv_at hl 1 rfl) ?_
      refine lv_ifnullN (tgt := 46) hx hb d_WM_row_16 (by decide) ?_
      refine lv_iconst (v := (-1)) hx hb d_WM_row_46 (by decide +kernel) ?_
      exact W.iret (v := (-1)) hx hb hr (fun t ht hW => ⟨(-1), rfl, (by unfold f_WM_row; rw [if_neg c_3, if_pos c_13]), ht⟩) t_nil d_WM_row_47
    · by_cases c_14 : 40 ≤ p_1
      · rw [if_neg c_13, if_pos c_14] at hq_11
        subst hq_11
        refine hb_tv .null rfl ?_
        refine lv_astoreN (lv' := [(6, .null), (5, .null), (0, .ref (a 0)), (1, .int p_0), (2, .int p_1), (3, .int p_2), (4, .int p_3)]) hx hb d_WM_row_12 hl (by decide) rfl (fun ls hl => ?_)
        refine lv_aloadN hx hb d_WM_row_14 (lv_at hl 1 rfl) ?_
        refine lv_ifnullN (tgt := 46) hx hb d_WM_row_16 (by decide) ?_
        refine lv_iconst (v := (-1)) hx hb d_WM_row_46 (by decide +kernel) ?_
        exact W.iret (v := (-1)) hx hb hr (fun t ht hW => ⟨(-1), rfl, (by unfold f_WM_row; rw [if_neg c_3, if_neg c_13, if_pos c_14]), ht⟩) t_nil d_WM_row_47
      · rw [if_neg c_13, if_neg c_14] at hq_11
        obtain ⟨q_15, x_16, rfl, hk_17⟩ := hq_11
        refine hb_tv (.ref q_15) rfl ?_
        refine lv_astore (lv' := [(6, .ref q_15), (5, .null), (0, .ref (a 0)), (1, .int p_0), (2, .int p_1), (3, .int p_2), (4, .int p_3)]) hx hb d_WM_row_12 hl (by decide) rfl (fun ls hl => ?_)
        refine lv_aloadN hx hb d_WM_row_14 (lv_at hl 1 rfl) ?_
        refine lv_ifnullN (tgt := 46) hx hb d_WM_row_16 (by decide) ?_
        refine lv_iconst (v := (-1)) hx hb d_WM_row_46 (by decide +kernel) ?_
        exact W.iret (v := (-1)) hx hb hr (fun t ht hW => ⟨(-1), rfl, (by unfold f_WM_row; rw [if_neg c_3, if_neg c_13, if_neg c_14]), ht⟩) t_nil d_WM_row_47
def f_WM_isSunday (p_0 : Int32) : Int32 := if (p_0 - p_0 / 7 * 7) = 0 then (1) else (0)
set_option maxHeartbeats 4000000 in
set_option maxRecDepth 100000 in
theorem c_WM_isSunday (l : Launch)  (p_0 : Int32)  : Met l y_WM_isSunday (.code y_WM_isSunday b_WM_isSunday 1 (some .boolean) :: TB) ({ frames := 0, cells := 0, slots := 0, locals := 0 }) (va_Pc [.int p_0] (fun _ => True)) (vp_Si (fun r => r = f_WM_isSunday p_0)) 0 0 (fun _ => False) := by
  refine Met.ofW (cc := b_WM_isSunday) (maxL := 1) (ret := (some .boolean)) (by decide) rfl ?_
  intro p e s m args below meth c s₁ B hml hv
  obtain ⟨rfl, -⟩ := hv
  have hx := B.exec
  have hb := B.bytes
  have hr := B.returns
  have hts := atoms_spec (ws := (.code y_WM_isSunday b_WM_isSunday 1 (some .boolean) :: TB)) B.pre
  have htb := fun w (h : w ∈ TB) => hts w (List.mem_cons_of_mem _ h)
  have hown : s.vm.findClass R_WM = some m.cls := findClass_of_methodNamed B.named
  have hlocks := B.notSynchronized
  have hl := lv_entry ([.int p_0]) (n := 1) (Nat.le_of_ble_eq_true rfl)
  rw [lg_entry_eq]
  generalize (lg_sl ([.int p_0]) ++ List.replicate (1 - (lg_sl ([.int p_0])).length) Slot.unset).toArray = ls at hl ⊢
  have hl : lv_has ls 1 [(0, .int p_0)] := hl
  refine lv_iload_n hx hb d_WM_isSunday_0 rfl (lv_at hl 0 rfl) ?_
  refine lv_bipush (v := 7) hx hb d_WM_isSunday_1 (by decide +kernel) ?_
  refine lv_irem hx hb d_WM_isSunday_3 (by decide) ?_
  refine lv_if_ne (tgt := 11) hx hb d_WM_isSunday_4 (by decide) (fun c_1 => ?_) (fun c_1 => ?_)
  · refine lv_iconst (v := 0) hx hb d_WM_isSunday_11 (by decide +kernel) ?_
    exact W.zret (v := 0) hx hb hr (by decide +kernel) (fun t ht hW => ⟨0, rfl, (by unfold f_WM_isSunday; rw [if_neg c_1]), ht⟩) t_nil d_WM_isSunday_12
  · refine lv_iconst (v := 1) hx hb d_WM_isSunday_7 (by decide +kernel) ?_
    refine lv_goto (tgt := 12) hx hb d_WM_isSunday_8 (by decide) ?_
    exact W.zret (v := 1) hx hb hr (by decide +kernel) (fun t ht hW => ⟨1, rfl, (by unfold f_WM_isSunday; rw [if_pos c_1]), ht⟩) t_nil d_WM_isSunday_12
set_option maxHeartbeats 4000000 in
set_option maxRecDepth 100000 in
theorem c_WM_partPot_0 (l : Launch) (dC : Nat → ClassId) (dI : Nat → Nat → Nat) (a : Nat → Nat) (k : Nat → ClassId) (L : List Nat) (hL : L.length = 40)    : Met l y_WM_partPot (.code y_WM_partPot b_WM_partPot 6 none :: TB) ({ frames := 1, cells := 0, slots := 0, locals := 20 }) (va_Pc [.ref (a 0), .int 0] (PR dC dI (XW a k L) (XT k))) (va_Sv (fun _ => True)) 0 0 (fun _ => False) := by
  refine Met.ofW (cc := b_WM_partPot) (maxL := 6) (ret := none) (by decide) rfl ?_
  intro p e s m args below meth c s₁ B hml hv
  obtain ⟨rfl, hP, hK, hN⟩ := hv
  have hx := B.exec
  have hb := B.bytes
  have hr := B.returns
  have hts := atoms_spec (ws := (.code y_WM_partPot b_WM_partPot 6 none :: TB)) B.pre
  have htb := fun w (h : w ∈ TB) => hts w (List.mem_cons_of_mem _ h)
  have hown : s.vm.findClass R_WM = some m.cls := findClass_of_methodNamed B.named
  have hlocks := B.notSynchronized
  have hl := lv_entry ([.ref (a 0), .int 0]) (n := 6) (Nat.le_of_ble_eq_true rfl)
  rw [lg_entry_eq]
  generalize (lg_sl ([.ref (a 0), .int 0]) ++ List.replicate (6 - (lg_sl ([.ref (a 0), .int 0])).length) Slot.unset).toArray = ls at hl ⊢
  have hl : lv_has ls 6 [(0, .ref (a 0)), (1, .int 0)] := hl
  refine lv_iload_n hx hb d_WM_partPot_0 rfl (lv_at hl 1 rfl) ?_
  refine vp_callSi (va_Run.run (va_runS (As := [.int 0]) (rest := []) ⟨hx, hb, hml, hown, htb⟩ (c_WM_isSunday l 0) (cwS 1 htb (gd_S tw_136 tw_137 tw_15 tw_135) rfl rfl rfl (by decide +kernel) ⟨Nat.le_of_ble_eq_true rfl, Nat.le_of_ble_eq_true rfl⟩) ⟨fun _ _ _ _ h => h, fun U _ _ => ⟨rfl, trivial⟩⟩ rfl rfl hl.1 rfl (lv_room (Nat.le_of_ble_eq_true rfl)) d_WM_partPot_1 ⟨Nat.le_of_ble_eq_true rfl, Nat.le_of_ble_eq_true rfl⟩)) (fun r er => ?_)
  subst er
  refine hb_ti 1 (by unfold f_WM_isSunday; rw [if_pos (by decide +kernel : ((0 : Int32) - 0 / 7 * 7) = 0)]) ?_
  refine lv_if_ne (tgt := 8) hx hb d_WM_partPot_4 (by decide) (fun _ => ?_) (fun h => absurd h (by decide +kernel))
  refine lv_iconst (v := 0) hx hb d_WM_partPot_8 (by decide +kernel) ?_
  refine lv_istore_n (lv' := [(2, .int 0), (0, .ref (a 0)), (1, .int 0)]) hx hb d_WM_partPot_9 rfl hl (by decide) rfl (fun ls hl => ?_)
  refine lv_iconst (v := 0) hx hb d_WM_partPot_10 (by decide +kernel) ?_
  refine lv_istore_n (lv' := [(3, .int 0), (2, .int 0), (0, .ref (a 0)), (1, .int 0)]) hx hb d_WM_partPot_11 rfl hl (by decide) rfl (fun ls hl => ?_)
  refine lv_iload_n hx hb d_WM_partPot_12 rfl (lv_at hl 0 rfl) ?_
  refine lv_bipush (v := 40) hx hb d_WM_partPot_13 (by decide +kernel) ?_
  refine lv_icmp_ge (tgt := 49) hx hb d_WM_partPot_15 (by decide) (fun h => absurd h (by decide +kernel)) (fun _ => ?_)
  refine lv_aload_n hx hb d_WM_partPot_18 rfl (lv_at hl 2 rfl) ?_
  refine va_get (D := (dC, dI)) (ci := 0) (v := .ref (a 6)) (C := R_WM) (T := F_WM) (N := 13) hx hb htb i_WM hown hK hP 0 rfl rfl 1 (by decide) (htb (.fieldLink R_WM 18 "WaterMen" "men" "[LWaterMen$Man;") tw_51) (fun _ h9 => h9) rfl d_WM_partPot_19 ?_
  refine lv_iload_n hx hb d_WM_partPot_22 rfl (lv_at hl 0 rfl) ?_
  refine va_aldq hx hb hK hP 6 4 rfl rfl (by unfold vp_in; decide +kernel) d_WM_partPot_23 ?_
  obtain ⟨q_1, x_2, hq_3, hk_4⟩ := xw_man (a := a) (k := k) (i := 0) hL (by unfold vp_in; decide +kernel)
  refine hb_tv (.ref q_1) (by show va_rf (L[_]?) = _; rw [hq_3]; rfl) ?_
  refine lv_astore (lv' := [(4, .ref q_1), (3, .int 0), (2, .int 0), (0, .ref (a 0)), (1, .int 0)]) hx hb d_WM_partPot_24 hl (by decide) rfl (fun ls hl => ?_)
  refine lv_aload hx hb d_WM_partPot_26 (lv_at hl 0 rfl) ?_
  refine lv_ifnull hx hb d_WM_partPot_28 ?_
  refine lv_aload hx hb d_WM_partPot_31 (lv_at hl 0 rfl) ?_
  refine va_get (D := (dC, dI)) (ci := 2) (v := .int (-1)) (C := R_Mn) (T := F_Mn) (N := 8) hx hb htb i_Mn hown hK hP x_2 hk_4 rfl 7 (by decide) (htb (.fieldLink R_WM 394 "WaterMen$Man" "lastSunday" "I") tw_138) (fun _ h9 => h9) rfl d_WM_partPot_33 ?_
  refine lv_iload_n hx hb d_WM_partPot_36 rfl (lv_at hl 4 rfl) ?_
  refine lv_icmp_ne (tgt := 43) hx hb d_WM_partPot_37 (by decide) (fun _ => ?_) (fun h => absurd h (by decide +kernel))
  refine lv_iinc (v := 1) (lv' := [(3, .int 1), (4, .ref q_1), (2, .int 0), (0, .ref (a 0)), (1, .int 0)]) hx hb d_WM_partPot_43 hl (k := 1) rfl (by decide +kernel) (by decide) rfl (fun ls hl => ?_)
  refine lv_goto (tgt := 12) hx hb d_WM_partPot_46 (by decide) ?_
  refine lv_iload_n hx hb d_WM_partPot_12 rfl (lv_at hl 0 rfl) ?_
  refine lv_bipush (v := 40) hx hb d_WM_partPot_13 (by decide +kernel) ?_
  refine lv_icmp_ge (tgt := 49) hx hb d_WM_partPot_15 (by decide) (fun h => absurd h (by decide +kernel)) (fun _ => ?_)
  refine lv_aload_n hx hb d_WM_partPot_18 rfl (lv_at hl 3 rfl) ?_
  refine va_get (D := (dC, dI)) (ci := 0) (v := .ref (a 6)) (C := R_WM) (T := F_WM) (N := 13) hx hb htb i_WM hown hK hP 0 rfl rfl 1 (by decide) (htb (.fieldLink R_WM 18 "WaterMen" "men" "[LWaterMen$Man;") tw_51) (fun _ h9 => h9) rfl d_WM_partPot_19 ?_
  refine lv_iload_n hx hb d_WM_partPot_22 rfl (lv_at hl 0 rfl) ?_
  refine va_aldq hx hb hK hP 6 4 rfl rfl (by unfold vp_in; decide +kernel) d_WM_partPot_23 ?_
  obtain ⟨q_5, x_6, hq_7, hk_8⟩ := xw_man (a := a) (k := k) (i := 1) hL (by unfold vp_in; decide +kernel)
  refine hb_tv (.ref q_5) (by show va_rf (L[_]?) = _; rw [hq_7]; rfl) ?_
  refine lv_astore (lv' := [(4, .ref q_5), (3, .int 1), (2, .int 0), (0, .ref (a 0)), (1, .int 0)]) hx hb d_WM_partPot_24 hl (by decide) rfl (fun ls hl => ?_)
  refine lv_aload hx hb d_WM_partPot_26 (lv_at hl 0 rfl) ?_
  refine lv_ifnull hx hb d_WM_partPot_28 ?_
  refine lv_aload hx hb d_WM_partPot_31 (lv_at hl 0 rfl) ?_
  refine va_get (D := (dC, dI)) (ci := 2) (v := .int (-1)) (C := R_Mn) (T := F_Mn) (N := 8) hx hb htb i_Mn hown hK hP x_6 hk_8 rfl 7 (by decide) (htb (.fieldLink R_WM 394 "WaterMen$Man" "lastSunday" "I") tw_138) (fun _ h9 => h9) rfl d_WM_partPot_33 ?_
  refine lv_iload_n hx hb d_WM_partPot_36 rfl (lv_at hl 4 rfl) ?_
  refine lv_icmp_ne (tgt := 43) hx hb d_WM_partPot_37 (by decide) (fun _ => ?_) (fun h => absurd h (by decide +kernel))
  refine lv_iinc (v := 2) (lv' := [(3, .int 2), (4, .ref q_5), (2, .int 0), (0, .ref (a 0)), (1, .int 0)]) hx hb d_WM_partPot_43 hl (k := 1) rfl (by decide +kernel) (by decide) rfl (fun ls hl => ?_)
  refine lv_goto (tgt := 12) hx hb d_WM_partPot_46 (by decide) ?_
  refine lv_iload_n hx hb d_WM_partPot_12 rfl (lv_at hl 0 rfl) ?_
  refine lv_bipush (v := 40) hx hb d_WM_partPot_13 (by decide +kernel) ?_
  refine lv_icmp_ge (tgt := 49) hx hb d_WM_partPot_15 (by decide) (fun h => absurd h (by decide +kernel)) (fun _ => ?_)
  refine lv_aload_n hx hb d_WM_partPot_18 rfl (lv_at hl 3 rfl) ?_
  refine va_get (D := (dC, dI)) (ci := 0) (v := .ref (a 6)) (C := R_WM) (T := F_WM) (N := 13) hx hb htb i_WM hown hK hP 0 rfl rfl 1 (by decide) (htb (.fieldLink R_WM 18 "WaterMen" "men" "[LWaterMen$Man;") tw_51) (fun _ h9 => h9) rfl d_WM_partPot_19 ?_
  refine lv_iload_n hx hb d_WM_partPot_22 rfl (lv_at hl 0 rfl) ?_
  refine va_aldq hx hb hK hP 6 4 rfl rfl (by unfold vp_in; decide +kernel) d_WM_partPot_23 ?_
  obtain ⟨q_9, x_10, hq_11, hk_12⟩ := xw_man (a := a) (k := k) (i := 2) hL (by unfold vp_in; decide +kernel)
  refine hb_tv (.ref q_9) (by show va_rf (L[_]?) = _; rw [hq_11]; rfl) ?_
  refine lv_astore (lv' := [(4, .ref q_9), (3, .int 2), (2, .int 0), (0, .ref (a 0)), (1, .int 0)]) hx hb d_WM_partPot_24 hl (by decide) rfl (fun ls hl => ?_)
  refine lv_aload hx hb d_WM_partPot_26 (lv_at hl 0 rfl) ?_
  refine lv_ifnull hx hb d_WM_partPot_28 ?_
  refine lv_aload hx hb d_WM_partPot_31 (lv_at hl 0 rfl) ?_
  refine va_get (D := (dC, dI)) (ci := 2) (v := .int (-1)) (C := R_Mn) (T := F_Mn) (N := 8) hx hb htb i_Mn hown hK hP x_10 hk_12 rfl 7 (by decide) (htb (.fieldLink R_WM 394 "WaterMen$Man" "lastSunday" "I") tw_138) (fun _ h9 => h9) rfl d_WM_partPot_33 ?_
  refine lv_iload_n hx hb d_WM_partPot_36 rfl (lv_at hl 4 rfl) ?_
  refine lv_icmp_ne (tgt := 43) hx hb d_WM_partPot_37 (by decide) (fun _ => ?_) (fun h => absurd h (by decide +kernel))
  refine lv_iinc (v := 3) (lv' := [(3, .int 3), (4, .ref q_9), (2, .int 0), (0, .ref (a 0)), (1, .int 0)]) hx hb d_WM_partPot_43 hl (k := 1) rfl (by decide +kernel) (by decide) rfl (fun ls hl => ?_)
  refine lv_goto (tgt := 12) hx hb d_WM_partPot_46 (by decide) ?_
  refine lv_iload_n hx hb d_WM_partPot_12 rfl (lv_at hl 0 rfl) ?_
  refine lv_bipush (v := 40) hx hb d_WM_partPot_13 (by decide +kernel) ?_
  refine lv_icmp_ge (tgt := 49) hx hb d_WM_partPot_15 (by decide) (fun h => absurd h (by decide +kernel)) (fun _ => ?_)
  refine lv_aload_n hx hb d_WM_partPot_18 rfl (lv_at hl 3 rfl) ?_
  refine va_get (D := (dC, dI)) (ci := 0) (v := .ref (a 6)) (C := R_WM) (T := F_WM) (N := 13) hx hb htb i_WM hown hK hP 0 rfl rfl 1 (by decide) (htb (.fieldLink R_WM 18 "WaterMen" "men" "[LWaterMen$Man;") tw_51) (fun _ h9 => h9) rfl d_WM_partPot_19 ?_
  refine lv_iload_n hx hb d_WM_partPot_22 rfl (lv_at hl 0 rfl) ?_
  refine va_aldq hx hb hK hP 6 4 rfl rfl (by unfold vp_in; decide +kernel) d_WM_partPot_23 ?_
  obtain ⟨q_13, x_14, hq_15, hk_16⟩ := xw_man (a := a) (k := k) (i := 3) hL (by unfold vp_in; decide +kernel)
  refine hb_tv (.ref q_13) (by show va_rf (L[_]?) = _; rw [hq_15]; rfl) ?_
  refine lv_astore (lv' := [(4, .ref q_13), (3, .int 3), (2, .int 0), (0, .ref (a 0)), (1, .int 0)]) hx hb d_WM_partPot_24 hl (by decide) rfl (fun ls hl => ?_)
  refine lv_aload hx hb d_WM_partPot_26 (lv_at hl 0 rfl) ?_
  refine lv_ifnull hx hb d_WM_partPot_28 ?_
  refine lv_aload hx hb d_WM_partPot_31 (lv_at hl 0 rfl) ?_
  refine va_get (D := (dC, dI)) (ci := 2) (v := .int (-1)) (C := R_Mn) (T := F_Mn) (N := 8) hx hb htb i_Mn hown hK hP x_14 hk_16 rfl 7 (by decide) (htb (.fieldLink R_WM 394 "WaterMen$Man" "lastSunday" "I") tw_138) (fun _ h9 => h9) rfl d_WM_partPot_33 ?_
  refine lv_iload_n hx hb d_WM_partPot_36 rfl (lv_at hl 4 rfl) ?_
  refine lv_icmp_ne (tgt := 43) hx hb d_WM_partPot_37 (by decide) (fun _ => ?_) (fun h => absurd h (by decide +kernel))
  refine lv_iinc (v := 4) (lv' := [(3, .int 4), (4, .ref q_13), (2, .int 0), (0, .ref (a 0)), (1, .int 0)]) hx hb d_WM_partPot_43 hl (k := 1) rfl (by decide +kernel) (by decide) rfl (fun ls hl => ?_)
  refine lv_goto (tgt := 12) hx hb d_WM_partPot_46 (by decide) ?_
  refine lv_iload_n hx hb d_WM_partPot_12 rfl (lv_at hl 0 rfl) ?_
  refine lv_bipush (v := 40) hx hb d_WM_partPot_13 (by decide +kernel) ?_
  refine lv_icmp_ge (tgt := 49) hx hb d_WM_partPot_15 (by decide) (fun h => absurd h (by decide +kernel)) (fun _ => ?_)
  refine lv_aload_n hx hb d_WM_partPot_18 rfl (lv_at hl 3 rfl) ?_
  refine va_get (D := (dC, dI)) (ci := 0) (v := .ref (a 6)) (C := R_WM) (T := F_WM) (N := 13) hx hb htb i_WM hown hK hP 0 rfl rfl 1 (by decide) (htb (.fieldLink R_WM 18 "WaterMen" "men" "[LWaterMen$Man;") tw_51) (fun _ h9 => h9) rfl d_WM_partPot_19 ?_
  refine lv_iload_n hx hb d_WM_partPot_22 rfl (lv_at hl 0 rfl) ?_
  refine va_aldq hx hb hK hP 6 4 rfl rfl (by unfold vp_in; decide +kernel) d_WM_partPot_23 ?_
  obtain ⟨q_17, x_18, hq_19, hk_20⟩ := xw_man (a := a) (k := k) (i := 4) hL (by unfold vp_in; decide +kernel)
  refine hb_tv (.ref q_17) (by show va_rf (L[_]?) = _; rw [hq_19]; rfl) ?_
  refine lv_astore (lv' := [(4, .ref q_17), (3, .int 4), (2, .int 0), (0, .ref (a 0)), (1, .int 0)]) hx hb d_WM_partPot_24 hl (by decide) rfl (fun ls hl => ?_)
  refine lv_aload hx hb d_WM_partPot_26 (lv_at hl 0 rfl) ?_
  refine lv_ifnull hx hb d_WM_partPot_28 ?_
  refine lv_aload hx hb d_WM_partPot_31 (lv_at hl 0 rfl) ?_
  refine va_get (D := (dC, dI)) (ci := 2) (v := .int (-1)) (C := R_Mn) (T := F_Mn) (N := 8) hx hb htb i_Mn hown hK hP x_18 hk_20 rfl 7 (by decide) (htb (.fieldLink R_WM 394 "WaterMen$Man" "lastSunday" "I") tw_138) (fun _ h9 => h9) rfl d_WM_partPot_33 ?_
  refine lv_iload_n hx hb d_WM_partPot_36 rfl (lv_at hl 4 rfl) ?_
  refine lv_icmp_ne (tgt := 43) hx hb d_WM_partPot_37 (by decide) (fun _ => ?_) (fun h => absurd h (by decide +kernel))
  refine lv_iinc (v := 5) (lv' := [(3, .int 5), (4, .ref q_17), (2, .int 0), (0, .ref (a 0)), (1, .int 0)]) hx hb d_WM_partPot_43 hl (k := 1) rfl (by decide +kernel) (by decide) rfl (fun ls hl => ?_)
  refine lv_goto (tgt := 12) hx hb d_WM_partPot_46 (by decide) ?_
  refine lv_iload_n hx hb d_WM_partPot_12 rfl (lv_at hl 0 rfl) ?_
  refine lv_bipush (v := 40) hx hb d_WM_partPot_13 (by decide +kernel) ?_
  refine lv_icmp_ge (tgt := 49) hx hb d_WM_partPot_15 (by decide) (fun h => absurd h (by decide +kernel)) (fun _ => ?_)
  refine lv_aload_n hx hb d_WM_partPot_18 rfl (lv_at hl 3 rfl) ?_
  refine va_get (D := (dC, dI)) (ci := 0) (v := .ref (a 6)) (C := R_WM) (T := F_WM) (N := 13) hx hb htb i_WM hown hK hP 0 rfl rfl 1 (by decide) (htb (.fieldLink R_WM 18 "WaterMen" "men" "[LWaterMen$Man;") tw_51) (fun _ h9 => h9) rfl d_WM_partPot_19 ?_
  refine lv_iload_n hx hb d_WM_partPot_22 rfl (lv_at hl 0 rfl) ?_
  refine va_aldq hx hb hK hP 6 4 rfl rfl (by unfold vp_in; decide +kernel) d_WM_partPot_23 ?_
  obtain ⟨q_21, x_22, hq_23, hk_24⟩ := xw_man (a := a) (k := k) (i := 5) hL (by unfold vp_in; decide +kernel)
  refine hb_tv (.ref q_21) (by show va_rf (L[_]?) = _; rw [hq_23]; rfl) ?_
  refine lv_astore (lv' := [(4, .ref q_21), (3, .int 5), (2, .int 0), (0, .ref (a 0)), (1, .int 0)]) hx hb d_WM_partPot_24 hl (by decide) rfl (fun ls hl => ?_)
  refine lv_aload hx hb d_WM_partPot_26 (lv_at hl 0 rfl) ?_
  refine lv_ifnull hx hb d_WM_partPot_28 ?_
  refine lv_aload hx hb d_WM_partPot_31 (lv_at hl 0 rfl) ?_
  refine va_get (D := (dC, dI)) (ci := 2) (v := .int (-1)) (C := R_Mn) (T := F_Mn) (N := 8) hx hb htb i_Mn hown hK hP x_22 hk_24 rfl 7 (by decide) (htb (.fieldLink R_WM 394 "WaterMen$Man" "lastSunday" "I") tw_138) (fun _ h9 => h9) rfl d_WM_partPot_33 ?_
  refine lv_iload_n hx hb d_WM_partPot_36 rfl (lv_at hl 4 rfl) ?_
  refine lv_icmp_ne (tgt := 43) hx hb d_WM_partPot_37 (by decide) (fun _ => ?_) (fun h => absurd h (by decide +kernel))
  refine lv_iinc (v := 6) (lv' := [(3, .int 6), (4, .ref q_21), (2, .int 0), (0, .ref (a 0)), (1, .int 0)]) hx hb d_WM_partPot_43 hl (k := 1) rfl (by decide +kernel) (by decide) rfl (fun ls hl => ?_)
  refine lv_goto (tgt := 12) hx hb d_WM_partPot_46 (by decide) ?_
  refine lv_iload_n hx hb d_WM_partPot_12 rfl (lv_at hl 0 rfl) ?_
  refine lv_bipush (v := 40) hx hb d_WM_partPot_13 (by decide +kernel) ?_
  refine lv_icmp_ge (tgt := 49) hx hb d_WM_partPot_15 (by decide) (fun h => absurd h (by decide +kernel)) (fun _ => ?_)
  refine lv_aload_n hx hb d_WM_partPot_18 rfl (lv_at hl 3 rfl) ?_
  refine va_get (D := (dC, dI)) (ci := 0) (v := .ref (a 6)) (C := R_WM) (T := F_WM) (N := 13) hx hb htb i_WM hown hK hP 0 rfl rfl 1 (by decide) (htb (.fieldLink R_WM 18 "WaterMen" "men" "[LWaterMen$Man;") tw_51) (fun _ h9 => h9) rfl d_WM_partPot_19 ?_
  refine lv_iload_n hx hb d_WM_partPot_22 rfl (lv_at hl 0 rfl) ?_
  refine va_aldq hx hb hK hP 6 4 rfl rfl (by unfold vp_in; decide +kernel) d_WM_partPot_23 ?_
  obtain ⟨q_25, x_26, hq_27, hk_28⟩ := xw_man (a := a) (k := k) (i := 6) hL (by unfold vp_in; decide +kernel)
  refine hb_tv (.ref q_25) (by show va_rf (L[_]?) = _; rw [hq_27]; rfl) ?_
  refine lv_astore (lv' := [(4, .ref q_25), (3, .int 6), (2, .int 0), (0, .ref (a 0)), (1, .int 0)]) hx hb d_WM_partPot_24 hl (by decide) rfl (fun ls hl => ?_)
  refine lv_aload hx hb d_WM_partPot_26 (lv_at hl 0 rfl) ?_
  refine lv_ifnull hx hb d_WM_partPot_28 ?_
  refine lv_aload hx hb d_WM_partPot_31 (lv_at hl 0 rfl) ?_
  refine va_get (D := (dC, dI)) (ci := 2) (v := .int (-1)) (C := R_Mn) (T := F_Mn) (N := 8) hx hb htb i_Mn hown hK hP x_26 hk_28 rfl 7 (by decide) (htb (.fieldLink R_WM 394 "WaterMen$Man" "lastSunday" "I") tw_138) (fun _ h9 => h9) rfl d_WM_partPot_33 ?_
  refine lv_iload_n hx hb d_WM_partPot_36 rfl (lv_at hl 4 rfl) ?_
  refine lv_icmp_ne (tgt := 43) hx hb d_WM_partPot_37 (by decide) (fun _ => ?_) (fun h => absurd h (by decide +kernel))
  refine lv_iinc (v := 7) (lv' := [(3, .int 7), (4, .ref q_25), (2, .int 0), (0, .ref (a 0)), (1, .int 0)]) hx hb d_WM_partPot_43 hl (k := 1) rfl (by decide +kernel) (by decide) rfl (fun ls hl => ?_)
  refine lv_goto (tgt := 12) hx hb d_WM_partPot_46 (by decide) ?_
  refine lv_iload_n hx hb d_WM_partPot_12 rfl (lv_at hl 0 rfl) ?_
  refine lv_bipush (v := 40) hx hb d_WM_partPot_13 (by decide +kernel) ?_
  refine lv_icmp_ge (tgt := 49) hx hb d_WM_partPot_15 (by decide) (fun h => absurd h (by decide +kernel)) (fun _ => ?_)
  refine lv_aload_n hx hb d_WM_partPot_18 rfl (lv_at hl 3 rfl) ?_
  refine va_get (D := (dC, dI)) (ci := 0) (v := .ref (a 6)) (C := R_WM) (T := F_WM) (N := 13) hx hb htb i_WM hown hK hP 0 rfl rfl 1 (by decide) (htb (.fieldLink R_WM 18 "WaterMen" "men" "[LWaterMen$Man;") tw_51) (fun _ h9 => h9) rfl d_WM_partPot_19 ?_
  refine lv_iload_n hx hb d_WM_partPot_22 rfl (lv_at hl 0 rfl) ?_
  refine va_aldq hx hb hK hP 6 4 rfl rfl (by unfold vp_in; decide +kernel) d_WM_partPot_23 ?_
  obtain ⟨q_29, x_30, hq_31, hk_32⟩ := xw_man (a := a) (k := k) (i := 7) hL (by unfold vp_in; decide +kernel)
  refine hb_tv (.ref q_29) (by show va_rf (L[_]?) = _; rw [hq_31]; rfl) ?_
  refine lv_astore (lv' := [(4, .ref q_29), (3, .int 7), (2, .int 0), (0, .ref (a 0)), (1, .int 0)]) hx hb d_WM_partPot_24 hl (by decide) rfl (fun ls hl => ?_)
  refine lv_aload hx hb d_WM_partPot_26 (lv_at hl 0 rfl) ?_
  refine lv_ifnull hx hb d_WM_partPot_28 ?_
  refine lv_aload hx hb d_WM_partPot_31 (lv_at hl 0 rfl) ?_
  refine va_get (D := (dC, dI)) (ci := 2) (v := .int (-1)) (C := R_Mn) (T := F_Mn) (N := 8) hx hb htb i_Mn hown hK hP x_30 hk_32 rfl 7 (by decide) (htb (.fieldLink R_WM 394 "WaterMen$Man" "lastSunday" "I") tw_138) (fun _ h9 => h9) rfl d_WM_partPot_33 ?_
  refine lv_iload_n hx hb d_WM_partPot_36 rfl (lv_at hl 4 rfl) ?_
  refine lv_icmp_ne (tgt := 43) hx hb d_WM_partPot_37 (by decide) (fun _ => ?_) (fun h => absurd h (by decide +kernel))
  refine lv_iinc (v := 8) (lv' := [(3, .int 8), (4, .ref q_29), (2, .int 0), (0, .ref (a 0)), (1, .int 0)]) hx hb d_WM_partPot_43 hl (k := 1) rfl (by decide +kernel) (by decide) rfl (fun ls hl => ?_)
  refine lv_goto (tgt := 12) hx hb d_WM_partPot_46 (by decide) ?_
  refine lv_iload_n hx hb d_WM_partPot_12 rfl (lv_at hl 0 rfl) ?_
  refine lv_bipush (v := 40) hx hb d_WM_partPot_13 (by decide +kernel) ?_
  refine lv_icmp_ge (tgt := 49) hx hb d_WM_partPot_15 (by decide) (fun h => absurd h (by decide +kernel)) (fun _ => ?_)
  refine lv_aload_n hx hb d_WM_partPot_18 rfl (lv_at hl 3 rfl) ?_
  refine va_get (D := (dC, dI)) (ci := 0) (v := .ref (a 6)) (C := R_WM) (T := F_WM) (N := 13) hx hb htb i_WM hown hK hP 0 rfl rfl 1 (by decide) (htb (.fieldLink R_WM 18 "WaterMen" "men" "[LWaterMen$Man;") tw_51) (fun _ h9 => h9) rfl d_WM_partPot_19 ?_
  refine lv_iload_n hx hb d_WM_partPot_22 rfl (lv_at hl 0 rfl) ?_
  refine va_aldq hx hb hK hP 6 4 rfl rfl (by unfold vp_in; decide +kernel) d_WM_partPot_23 ?_
  obtain ⟨q_33, x_34, hq_35, hk_36⟩ := xw_man (a := a) (k := k) (i := 8) hL (by unfold vp_in; decide +kernel)
  refine hb_tv (.ref q_33) (by show va_rf (L[_]?) = _; rw [hq_35]; rfl) ?_
  refine lv_astore (lv' := [(4, .ref q_33), (3, .int 8), (2, .int 0), (0, .ref (a 0)), (1, .int 0)]) hx hb d_WM_partPot_24 hl (by decide) rfl (fun ls hl => ?_)
  refine lv_aload hx hb d_WM_partPot_26 (lv_at hl 0 rfl) ?_
  refine lv_ifnull hx hb d_WM_partPot_28 ?_
  refine lv_aload hx hb d_WM_partPot_31 (lv_at hl 0 rfl) ?_
  refine va_get (D := (dC, dI)) (ci := 2) (v := .int (-1)) (C := R_Mn) (T := F_Mn) (N := 8) hx hb htb i_Mn hown hK hP x_34 hk_36 rfl 7 (by decide) (htb (.fieldLink R_WM 394 "WaterMen$Man" "lastSunday" "I") tw_138) (fun _ h9 => h9) rfl d_WM_partPot_33 ?_
  refine lv_iload_n hx hb d_WM_partPot_36 rfl (lv_at hl 4 rfl) ?_
  refine lv_icmp_ne (tgt := 43) hx hb d_WM_partPot_37 (by decide) (fun _ => ?_) (fun h => absurd h (by decide +kernel))
  refine lv_iinc (v := 9) (lv' := [(3, .int 9), (4, .ref q_33), (2, .int 0), (0, .ref (a 0)), (1, .int 0)]) hx hb d_WM_partPot_43 hl (k := 1) rfl (by decide +kernel) (by decide) rfl (fun ls hl => ?_)
  refine lv_goto (tgt := 12) hx hb d_WM_partPot_46 (by decide) ?_
  refine lv_iload_n hx hb d_WM_partPot_12 rfl (lv_at hl 0 rfl) ?_
  refine lv_bipush (v := 40) hx hb d_WM_partPot_13 (by decide +kernel) ?_
  refine lv_icmp_ge (tgt := 49) hx hb d_WM_partPot_15 (by decide) (fun h => absurd h (by decide +kernel)) (fun _ => ?_)
  refine lv_aload_n hx hb d_WM_partPot_18 rfl (lv_at hl 3 rfl) ?_
  refine va_get (D := (dC, dI)) (ci := 0) (v := .ref (a 6)) (C := R_WM) (T := F_WM) (N := 13) hx hb htb i_WM hown hK hP 0 rfl rfl 1 (by decide) (htb (.fieldLink R_WM 18 "WaterMen" "men" "[LWaterMen$Man;") tw_51) (fun _ h9 => h9) rfl d_WM_partPot_19 ?_
  refine lv_iload_n hx hb d_WM_partPot_22 rfl (lv_at hl 0 rfl) ?_
  refine va_aldq hx hb hK hP 6 4 rfl rfl (by unfold vp_in; decide +kernel) d_WM_partPot_23 ?_
  obtain ⟨q_37, x_38, hq_39, hk_40⟩ := xw_man (a := a) (k := k) (i := 9) hL (by unfold vp_in; decide +kernel)
  refine hb_tv (.ref q_37) (by show va_rf (L[_]?) = _; rw [hq_39]; rfl) ?_
  refine lv_astore (lv' := [(4, .ref q_37), (3, .int 9), (2, .int 0), (0, .ref (a 0)), (1, .int 0)]) hx hb d_WM_partPot_24 hl (by decide) rfl (fun ls hl => ?_)
  refine lv_aload hx hb d_WM_partPot_26 (lv_at hl 0 rfl) ?_
  refine lv_ifnull hx hb d_WM_partPot_28 ?_
  refine lv_aload hx hb d_WM_partPot_31 (lv_at hl 0 rfl) ?_
  refine va_get (D := (dC, dI)) (ci := 2) (v := .int (-1)) (C := R_Mn) (T := F_Mn) (N := 8) hx hb htb i_Mn hown hK hP x_38 hk_40 rfl 7 (by decide) (htb (.fieldLink R_WM 394 "WaterMen$Man" "lastSunday" "I") tw_138) (fun _ h9 => h9) rfl d_WM_partPot_33 ?_
  refine lv_iload_n hx hb d_WM_partPot_36 rfl (lv_at hl 4 rfl) ?_
  refine lv_icmp_ne (tgt := 43) hx hb d_WM_partPot_37 (by decide) (fun _ => ?_) (fun h => absurd h (by decide +kernel))
  refine lv_iinc (v := 10) (lv' := [(3, .int 10), (4, .ref q_37), (2, .int 0), (0, .ref (a 0)), (1, .int 0)]) hx hb d_WM_partPot_43 hl (k := 1) rfl (by decide +kernel) (by decide) rfl (fun ls hl => ?_)
  refine lv_goto (tgt := 12) hx hb d_WM_partPot_46 (by decide) ?_
  refine lv_iload_n hx hb d_WM_partPot_12 rfl (lv_at hl 0 rfl) ?_
  refine lv_bipush (v := 40) hx hb d_WM_partPot_13 (by decide +kernel) ?_
  refine lv_icmp_ge (tgt := 49) hx hb d_WM_partPot_15 (by decide) (fun h => absurd h (by decide +kernel)) (fun _ => ?_)
  refine lv_aload_n hx hb d_WM_partPot_18 rfl (lv_at hl 3 rfl) ?_
  refine va_get (D := (dC, dI)) (ci := 0) (v := .ref (a 6)) (C := R_WM) (T := F_WM) (N := 13) hx hb htb i_WM hown hK hP 0 rfl rfl 1 (by decide) (htb (.fieldLink R_WM 18 "WaterMen" "men" "[LWaterMen$Man;") tw_51) (fun _ h9 => h9) rfl d_WM_partPot_19 ?_
  refine lv_iload_n hx hb d_WM_partPot_22 rfl (lv_at hl 0 rfl) ?_
  refine va_aldq hx hb hK hP 6 4 rfl rfl (by unfold vp_in; decide +kernel) d_WM_partPot_23 ?_
  obtain ⟨q_41, x_42, hq_43, hk_44⟩ := xw_man (a := a) (k := k) (i := 10) hL (by unfold vp_in; decide +kernel)
  refine hb_tv (.ref q_41) (by show va_rf (L[_]?) = _; rw [hq_43]; rfl) ?_
  refine lv_astore (lv' := [(4, .ref q_41), (3, .int 10), (2, .int 0), (0, .ref (a 0)), (1, .int 0)]) hx hb d_WM_partPot_24 hl (by decide) rfl (fun ls hl => ?_)
  refine lv_aload hx hb d_WM_partPot_26 (lv_at hl 0 rfl) ?_
  refine lv_ifnull hx hb d_WM_partPot_28 ?_
  refine lv_aload hx hb d_WM_partPot_31 (lv_at hl 0 rfl) ?_
  refine va_get (D := (dC, dI)) (ci := 2) (v := .int (-1)) (C := R_Mn) (T := F_Mn) (N := 8) hx hb htb i_Mn hown hK hP x_42 hk_44 rfl 7 (by decide) (htb (.fieldLink R_WM 394 "WaterMen$Man" "lastSunday" "I") tw_138) (fun _ h9 => h9) rfl d_WM_partPot_33 ?_
  refine lv_iload_n hx hb d_WM_partPot_36 rfl (lv_at hl 4 rfl) ?_
  refine lv_icmp_ne (tgt := 43) hx hb d_WM_partPot_37 (by decide) (fun _ => ?_) (fun h => absurd h (by decide +kernel))
  refine lv_iinc (v := 11) (lv' := [(3, .int 11), (4, .ref q_41), (2, .int 0), (0, .ref (a 0)), (1, .int 0)]) hx hb d_WM_partPot_43 hl (k := 1) rfl (by decide +kernel) (by decide) rfl (fun ls hl => ?_)
  refine lv_goto (tgt := 12) hx hb d_WM_partPot_46 (by decide) ?_
  refine lv_iload_n hx hb d_WM_partPot_12 rfl (lv_at hl 0 rfl) ?_
  refine lv_bipush (v := 40) hx hb d_WM_partPot_13 (by decide +kernel) ?_
  refine lv_icmp_ge (tgt := 49) hx hb d_WM_partPot_15 (by decide) (fun h => absurd h (by decide +kernel)) (fun _ => ?_)
  refine lv_aload_n hx hb d_WM_partPot_18 rfl (lv_at hl 3 rfl) ?_
  refine va_get (D := (dC, dI)) (ci := 0) (v := .ref (a 6)) (C := R_WM) (T := F_WM) (N := 13) hx hb htb i_WM hown hK hP 0 rfl rfl 1 (by decide) (htb (.fieldLink R_WM 18 "WaterMen" "men" "[LWaterMen$Man;") tw_51) (fun _ h9 => h9) rfl d_WM_partPot_19 ?_
  refine lv_iload_n hx hb d_WM_partPot_22 rfl (lv_at hl 0 rfl) ?_
  refine va_aldq hx hb hK hP 6 4 rfl rfl (by unfold vp_in; decide +kernel) d_WM_partPot_23 ?_
  obtain ⟨q_45, x_46, hq_47, hk_48⟩ := xw_man (a := a) (k := k) (i := 11) hL (by unfold vp_in; decide +kernel)
  refine hb_tv (.ref q_45) (by show va_rf (L[_]?) = _; rw [hq_47]; rfl) ?_
  refine lv_astore (lv' := [(4, .ref q_45), (3, .int 11), (2, .int 0), (0, .ref (a 0)), (1, .int 0)]) hx hb d_WM_partPot_24 hl (by decide) rfl (fun ls hl => ?_)
  refine lv_aload hx hb d_WM_partPot_26 (lv_at hl 0 rfl) ?_
  refine lv_ifnull hx hb d_WM_partPot_28 ?_
  refine lv_aload hx hb d_WM_partPot_31 (lv_at hl 0 rfl) ?_
  refine va_get (D := (dC, dI)) (ci := 2) (v := .int (-1)) (C := R_Mn) (T := F_Mn) (N := 8) hx hb htb i_Mn hown hK hP x_46 hk_48 rfl 7 (by decide) (htb (.fieldLink R_WM 394 "WaterMen$Man" "lastSunday" "I") tw_138) (fun _ h9 => h9) rfl d_WM_partPot_33 ?_
  refine lv_iload_n hx hb d_WM_partPot_36 rfl (lv_at hl 4 rfl) ?_
  refine lv_icmp_ne (tgt := 43) hx hb d_WM_partPot_37 (by decide) (fun _ => ?_) (fun h => absurd h (by decide +kernel))
  refine lv_iinc (v := 12) (lv' := [(3, .int 12), (4, .ref q_45), (2, .int 0), (0, .ref (a 0)), (1, .int 0)]) hx hb d_WM_partPot_43 hl (k := 1) rfl (by decide +kernel) (by decide) rfl (fun ls hl => ?_)
  refine lv_goto (tgt := 12) hx hb d_WM_partPot_46 (by decide) ?_
  refine lv_iload_n hx hb d_WM_partPot_12 rfl (lv_at hl 0 rfl) ?_
  refine lv_bipush (v := 40) hx hb d_WM_partPot_13 (by decide +kernel) ?_
  refine lv_icmp_ge (tgt := 49) hx hb d_WM_partPot_15 (by decide) (fun h => absurd h (by decide +kernel)) (fun _ => ?_)
  refine lv_aload_n hx hb d_WM_partPot_18 rfl (lv_at hl 3 rfl) ?_
  refine va_get (D := (dC, dI)) (ci := 0) (v := .ref (a 6)) (C := R_WM) (T := F_WM) (N := 13) hx hb htb i_WM hown hK hP 0 rfl rfl 1 (by decide) (htb (.fieldLink R_WM 18 "WaterMen" "men" "[LWaterMen$Man;") tw_51) (fun _ h9 => h9) rfl d_WM_partPot_19 ?_
  refine lv_iload_n hx hb d_WM_partPot_22 rfl (lv_at hl 0 rfl) ?_
  refine va_aldq hx hb hK hP 6 4 rfl rfl (by unfold vp_in; decide +kernel) d_WM_partPot_23 ?_
  obtain ⟨q_49, x_50, hq_51, hk_52⟩ := xw_man (a := a) (k := k) (i := 12) hL (by unfold vp_in; decide +kernel)
  refine hb_tv (.ref q_49) (by show va_rf (L[_]?) = _; rw [hq_51]; rfl) ?_
  refine lv_astore (lv' := [(4, .ref q_49), (3, .int 12), (2, .int 0), (0, .ref (a 0)), (1, .int 0)]) hx hb d_WM_partPot_24 hl (by decide) rfl (fun ls hl => ?_)
  refine lv_aload hx hb d_WM_partPot_26 (lv_at hl 0 rfl) ?_
  refine lv_ifnull hx hb d_WM_partPot_28 ?_
  refine lv_aload hx hb d_WM_partPot_31 (lv_at hl 0 rfl) ?_
  refine va_get (D := (dC, dI)) (ci := 2) (v := .int (-1)) (C := R_Mn) (T := F_Mn) (N := 8) hx hb htb i_Mn hown hK hP x_50 hk_52 rfl 7 (by decide) (htb (.fieldLink R_WM 394 "WaterMen$Man" "lastSunday" "I") tw_138) (fun _ h9 => h9) rfl d_WM_partPot_33 ?_
  refine lv_iload_n hx hb d_WM_partPot_36 rfl (lv_at hl 4 rfl) ?_
  refine lv_icmp_ne (tgt := 43) hx hb d_WM_partPot_37 (by decide) (fun _ => ?_) (fun h => absurd h (by decide +kernel))
  refine lv_iinc (v := 13) (lv' := [(3, .int 13), (4, .ref q_49), (2, .int 0), (0, .ref (a 0)), (1, .int 0)]) hx hb d_WM_partPot_43 hl (k := 1) rfl (by decide +kernel) (by decide) rfl (fun ls hl => ?_)
  refine lv_goto (tgt := 12) hx hb d_WM_partPot_46 (by decide) ?_
  refine lv_iload_n hx hb d_WM_partPot_12 rfl (lv_at hl 0 rfl) ?_
  refine lv_bipush (v := 40) hx hb d_WM_partPot_13 (by decide +kernel) ?_
  refine lv_icmp_ge (tgt := 49) hx hb d_WM_partPot_15 (by decide) (fun h => absurd h (by decide +kernel)) (fun _ => ?_)
  refine lv_aload_n hx hb d_WM_partPot_18 rfl (lv_at hl 3 rfl) ?_
  refine va_get (D := (dC, dI)) (ci := 0) (v := .ref (a 6)) (C := R_WM) (T := F_WM) (N := 13) hx hb htb i_WM hown hK hP 0 rfl rfl 1 (by decide) (htb (.fieldLink R_WM 18 "WaterMen" "men" "[LWaterMen$Man;") tw_51) (fun _ h9 => h9) rfl d_WM_partPot_19 ?_
  refine lv_iload_n hx hb d_WM_partPot_22 rfl (lv_at hl 0 rfl) ?_
  refine va_aldq hx hb hK hP 6 4 rfl rfl (by unfold vp_in; decide +kernel) d_WM_partPot_23 ?_
  obtain ⟨q_53, x_54, hq_55, hk_56⟩ := xw_man (a := a) (k := k) (i := 13) hL (by unfold vp_in; decide +kernel)
  refine hb_tv (.ref q_53) (by show va_rf (L[_]?) = _; rw [hq_55]; rfl) ?_
  refine lv_astore (lv' := [(4, .ref q_53), (3, .int 13), (2, .int 0), (0, .ref (a 0)), (1, .int 0)]) hx hb d_WM_partPot_24 hl (by decide) rfl (fun ls hl => ?_)
  refine lv_aload hx hb d_WM_partPot_26 (lv_at hl 0 rfl) ?_
  refine lv_ifnull hx hb d_WM_partPot_28 ?_
  refine lv_aload hx hb d_WM_partPot_31 (lv_at hl 0 rfl) ?_
  refine va_get (D := (dC, dI)) (ci := 2) (v := .int (-1)) (C := R_Mn) (T := F_Mn) (N := 8) hx hb htb i_Mn hown hK hP x_54 hk_56 rfl 7 (by decide) (htb (.fieldLink R_WM 394 "WaterMen$Man" "lastSunday" "I") tw_138) (fun _ h9 => h9) rfl d_WM_partPot_33 ?_
  refine lv_iload_n hx hb d_WM_partPot_36 rfl (lv_at hl 4 rfl) ?_
  refine lv_icmp_ne (tgt := 43) hx hb d_WM_partPot_37 (by decide) (fun _ => ?_) (fun h => absurd h (by decide +kernel))
  refine lv_iinc (v := 14) (lv' := [(3, .int 14), (4, .ref q_53), (2, .int 0), (0, .ref (a 0)), (1, .int 0)]) hx hb d_WM_partPot_43 hl (k := 1) rfl (by decide +kernel) (by decide) rfl (fun ls hl => ?_)
  refine lv_goto (tgt := 12) hx hb d_WM_partPot_46 (by decide) ?_
  refine lv_iload_n hx hb d_WM_partPot_12 rfl (lv_at hl 0 rfl) ?_
  refine lv_bipush (v := 40) hx hb d_WM_partPot_13 (by decide +kernel) ?_
  refine lv_icmp_ge (tgt := 49) hx hb d_WM_partPot_15 (by decide) (fun h => absurd h (by decide +kernel)) (fun _ => ?_)
  refine lv_aload_n hx hb d_WM_partPot_18 rfl (lv_at hl 3 rfl) ?_
  refine va_get (D := (dC, dI)) (ci := 0) (v := .ref (a 6)) (C := R_WM) (T := F_WM) (N := 13) hx hb htb i_WM hown hK hP 0 rfl rfl 1 (by decide) (htb (.fieldLink R_WM 18 "WaterMen" "men" "[LWaterMen$Man;") tw_51) (fun _ h9 => h9) rfl d_WM_partPot_19 ?_
  refine lv_iload_n hx hb d_WM_partPot_22 rfl (lv_at hl 0 rfl) ?_
  refine va_aldq hx hb hK hP 6 4 rfl rfl (by unfold vp_in; decide +kernel) d_WM_partPot_23 ?_
  obtain ⟨q_57, x_58, hq_59, hk_60⟩ := xw_man (a := a) (k := k) (i := 14) hL (by unfold vp_in; decide +kernel)
  refine hb_tv (.ref q_57) (by show va_rf (L[_]?) = _; rw [hq_59]; rfl) ?_
  refine lv_astore (lv' := [(4, .ref q_57), (3, .int 14), (2, .int 0), (0, .ref (a 0)), (1, .int 0)]) hx hb d_WM_partPot_24 hl (by decide) rfl (fun ls hl => ?_)
  refine lv_aload hx hb d_WM_partPot_26 (lv_at hl 0 rfl) ?_
  refine lv_ifnull hx hb d_WM_partPot_28 ?_
  refine lv_aload hx hb d_WM_partPot_31 (lv_at hl 0 rfl) ?_
  refine va_get (D := (dC, dI)) (ci := 2) (v := .int (-1)) (C := R_Mn) (T := F_Mn) (N := 8) hx hb htb i_Mn hown hK hP x_58 hk_60 rfl 7 (by decide) (htb (.fieldLink R_WM 394 "WaterMen$Man" "lastSunday" "I") tw_138) (fun _ h9 => h9) rfl d_WM_partPot_33 ?_
  refine lv_iload_n hx hb d_WM_partPot_36 rfl (lv_at hl 4 rfl) ?_
  refine lv_icmp_ne (tgt := 43) hx hb d_WM_partPot_37 (by decide) (fun _ => ?_) (fun h => absurd h (by decide +kernel))
  refine lv_iinc (v := 15) (lv' := [(3, .int 15), (4, .ref q_57), (2, .int 0), (0, .ref (a 0)), (1, .int 0)]) hx hb d_WM_partPot_43 hl (k := 1) rfl (by decide +kernel) (by decide) rfl (fun ls hl => ?_)
  refine lv_goto (tgt := 12) hx hb d_WM_partPot_46 (by decide) ?_
  refine lv_iload_n hx hb d_WM_partPot_12 rfl (lv_at hl 0 rfl) ?_
  refine lv_bipush (v := 40) hx hb d_WM_partPot_13 (by decide +kernel) ?_
  refine lv_icmp_ge (tgt := 49) hx hb d_WM_partPot_15 (by decide) (fun h => absurd h (by decide +kernel)) (fun _ => ?_)
  refine lv_aload_n hx hb d_WM_partPot_18 rfl (lv_at hl 3 rfl) ?_
  refine va_get (D := (dC, dI)) (ci := 0) (v := .ref (a 6)) (C := R_WM) (T := F_WM) (N := 13) hx hb htb i_WM hown hK hP 0 rfl rfl 1 (by decide) (htb (.fieldLink R_WM 18 "WaterMen" "men" "[LWaterMen$Man;") tw_51) (fun _ h9 => h9) rfl d_WM_partPot_19 ?_
  refine lv_iload_n hx hb d_WM_partPot_22 rfl (lv_at hl 0 rfl) ?_
  refine va_aldq hx hb hK hP 6 4 rfl rfl (by unfold vp_in; decide +kernel) d_WM_partPot_23 ?_
  obtain ⟨q_61, x_62, hq_63, hk_64⟩ := xw_man (a := a) (k := k) (i := 15) hL (by unfold vp_in; decide +kernel)
  refine hb_tv (.ref q_61) (by show va_rf (L[_]?) = _; rw [hq_63]; rfl) ?_
  refine lv_astore (lv' := [(4, .ref q_61), (3, .int 15), (2, .int 0), (0, .ref (a 0)), (1, .int 0)]) hx hb d_WM_partPot_24 hl (by decide) rfl (fun ls hl => ?_)
  refine lv_aload hx hb d_WM_partPot_26 (lv_at hl 0 rfl) ?_
  refine lv_ifnull hx hb d_WM_partPot_28 ?_
  refine lv_aload hx hb d_WM_partPot_31 (lv_at hl 0 rfl) ?_
  refine va_get (D := (dC, dI)) (ci := 2) (v := .int (-1)) (C := R_Mn) (T := F_Mn) (N := 8) hx hb htb i_Mn hown hK hP x_62 hk_64 rfl 7 (by decide) (htb (.fieldLink R_WM 394 "WaterMen$Man" "lastSunday" "I") tw_138) (fun _ h9 => h9) rfl d_WM_partPot_33 ?_
  refine lv_iload_n hx hb d_WM_partPot_36 rfl (lv_at hl 4 rfl) ?_
  refine lv_icmp_ne (tgt := 43) hx hb d_WM_partPot_37 (by decide) (fun _ => ?_) (fun h => absurd h (by decide +kernel))
  refine lv_iinc (v := 16) (lv' := [(3, .int 16), (4, .ref q_61), (2, .int 0), (0, .ref (a 0)), (1, .int 0)]) hx hb d_WM_partPot_43 hl (k := 1) rfl (by decide +kernel) (by decide) rfl (fun ls hl => ?_)
  refine lv_goto (tgt := 12) hx hb d_WM_partPot_46 (by decide) ?_
  refine lv_iload_n hx hb d_WM_partPot_12 rfl (lv_at hl 0 rfl) ?_
  refine lv_bipush (v := 40) hx hb d_WM_partPot_13 (by decide +kernel) ?_
  refine lv_icmp_ge (tgt := 49) hx hb d_WM_partPot_15 (by decide) (fun h => absurd h (by decide +kernel)) (fun _ => ?_)
  refine lv_aload_n hx hb d_WM_partPot_18 rfl (lv_at hl 3 rfl) ?_
  refine va_get (D := (dC, dI)) (ci := 0) (v := .ref (a 6)) (C := R_WM) (T := F_WM) (N := 13) hx hb htb i_WM hown hK hP 0 rfl rfl 1 (by decide) (htb (.fieldLink R_WM 18 "WaterMen" "men" "[LWaterMen$Man;") tw_51) (fun _ h9 => h9) rfl d_WM_partPot_19 ?_
  refine lv_iload_n hx hb d_WM_partPot_22 rfl (lv_at hl 0 rfl) ?_
  refine va_aldq hx hb hK hP 6 4 rfl rfl (by unfold vp_in; decide +kernel) d_WM_partPot_23 ?_
  obtain ⟨q_65, x_66, hq_67, hk_68⟩ := xw_man (a := a) (k := k) (i := 16) hL (by unfold vp_in; decide +kernel)
  refine hb_tv (.ref q_65) (by show va_rf (L[_]?) = _; rw [hq_67]; rfl) ?_
  refine lv_astore (lv' := [(4, .ref q_65), (3, .int 16), (2, .int 0), (0, .ref (a 0)), (1, .int 0)]) hx hb d_WM_partPot_24 hl (by decide) rfl (fun ls hl => ?_)
  refine lv_aload hx hb d_WM_partPot_26 (lv_at hl 0 rfl) ?_
  refine lv_ifnull hx hb d_WM_partPot_28 ?_
  refine lv_aload hx hb d_WM_partPot_31 (lv_at hl 0 rfl) ?_
  refine va_get (D := (dC, dI)) (ci := 2) (v := .int (-1)) (C := R_Mn) (T := F_Mn) (N := 8) hx hb htb i_Mn hown hK hP x_66 hk_68 rfl 7 (by decide) (htb (.fieldLink R_WM 394 "WaterMen$Man" "lastSunday" "I") tw_138) (fun _ h9 => h9) rfl d_WM_partPot_33 ?_
  refine lv_iload_n hx hb d_WM_partPot_36 rfl (lv_at hl 4 rfl) ?_
  refine lv_icmp_ne (tgt := 43) hx hb d_WM_partPot_37 (by decide) (fun _ => ?_) (fun h => absurd h (by decide +kernel))
  refine lv_iinc (v := 17) (lv' := [(3, .int 17), (4, .ref q_65), (2, .int 0), (0, .ref (a 0)), (1, .int 0)]) hx hb d_WM_partPot_43 hl (k := 1) rfl (by decide +kernel) (by decide) rfl (fun ls hl => ?_)
  refine lv_goto (tgt := 12) hx hb d_WM_partPot_46 (by decide) ?_
  refine lv_iload_n hx hb d_WM_partPot_12 rfl (lv_at hl 0 rfl) ?_
  refine lv_bipush (v := 40) hx hb d_WM_partPot_13 (by decide +kernel) ?_
  refine lv_icmp_ge (tgt := 49) hx hb d_WM_partPot_15 (by decide) (fun h => absurd h (by decide +kernel)) (fun _ => ?_)
  refine lv_aload_n hx hb d_WM_partPot_18 rfl (lv_at hl 3 rfl) ?_
  refine va_get (D := (dC, dI)) (ci := 0) (v := .ref (a 6)) (C := R_WM) (T := F_WM) (N := 13) hx hb htb i_WM hown hK hP 0 rfl rfl 1 (by decide) (htb (.fieldLink R_WM 18 "WaterMen" "men" "[LWaterMen$Man;") tw_51) (fun _ h9 => h9) rfl d_WM_partPot_19 ?_
  refine lv_iload_n hx hb d_WM_partPot_22 rfl (lv_at hl 0 rfl) ?_
  refine va_aldq hx hb hK hP 6 4 rfl rfl (by unfold vp_in; decide +kernel) d_WM_partPot_23 ?_
  obtain ⟨q_69, x_70, hq_71, hk_72⟩ := xw_man (a := a) (k := k) (i := 17) hL (by unfold vp_in; decide +kernel)
  refine hb_tv (.ref q_69) (by show va_rf (L[_]?) = _; rw [hq_71]; rfl) ?_
  refine lv_astore (lv' := [(4, .ref q_69), (3, .int 17), (2, .int 0), (0, .ref (a 0)), (1, .int 0)]) hx hb d_WM_partPot_24 hl (by decide) rfl (fun ls hl => ?_)
  refine lv_aload hx hb d_WM_partPot_26 (lv_at hl 0 rfl) ?_
  refine lv_ifnull hx hb d_WM_partPot_28 ?_
  refine lv_aload hx hb d_WM_partPot_31 (lv_at hl 0 rfl) ?_
  refine va_get (D := (dC, dI)) (ci := 2) (v := .int (-1)) (C := R_Mn) (T := F_Mn) (N := 8) hx hb htb i_Mn hown hK hP x_70 hk_72 rfl 7 (by decide) (htb (.fieldLink R_WM 394 "WaterMen$Man" "lastSunday" "I") tw_138) (fun _ h9 => h9) rfl d_WM_partPot_33 ?_
  refine lv_iload_n hx hb d_WM_partPot_36 rfl (lv_at hl 4 rfl) ?_
  refine lv_icmp_ne (tgt := 43) hx hb d_WM_partPot_37 (by decide) (fun _ => ?_) (fun h => absurd h (by decide +kernel))
  refine lv_iinc (v := 18) (lv' := [(3, .int 18), (4, .ref q_69), (2, .int 0), (0, .ref (a 0)), (1, .int 0)]) hx hb d_WM_partPot_43 hl (k := 1) rfl (by decide +kernel) (by decide) rfl (fun ls hl => ?_)
  refine lv_goto (tgt := 12) hx hb d_WM_partPot_46 (by decide) ?_
  refine lv_iload_n hx hb d_WM_partPot_12 rfl (lv_at hl 0 rfl) ?_
  refine lv_bipush (v := 40) hx hb d_WM_partPot_13 (by decide +kernel) ?_
  refine lv_icmp_ge (tgt := 49) hx hb d_WM_partPot_15 (by decide) (fun h => absurd h (by decide +kernel)) (fun _ => ?_)
  refine lv_aload_n hx hb d_WM_partPot_18 rfl (lv_at hl 3 rfl) ?_
  refine va_get (D := (dC, dI)) (ci := 0) (v := .ref (a 6)) (C := R_WM) (T := F_WM) (N := 13) hx hb htb i_WM hown hK hP 0 rfl rfl 1 (by decide) (htb (.fieldLink R_WM 18 "WaterMen" "men" "[LWaterMen$Man;") tw_51) (fun _ h9 => h9) rfl d_WM_partPot_19 ?_
  refine lv_iload_n hx hb d_WM_partPot_22 rfl (lv_at hl 0 rfl) ?_
  refine va_aldq hx hb hK hP 6 4 rfl rfl (by unfold vp_in; decide +kernel) d_WM_partPot_23 ?_
  obtain ⟨q_73, x_74, hq_75, hk_76⟩ := xw_man (a := a) (k := k) (i := 18) hL (by unfold vp_in; decide +kernel)
  refine hb_tv (.ref q_73) (by show va_rf (L[_]?) = _; rw [hq_75]; rfl) ?_
  refine lv_astore (lv' := [(4, .ref q_73), (3, .int 18), (2, .int 0), (0, .ref (a 0)), (1, .int 0)]) hx hb d_WM_partPot_24 hl (by decide) rfl (fun ls hl => ?_)
  refine lv_aload hx hb d_WM_partPot_26 (lv_at hl 0 rfl) ?_
  refine lv_ifnull hx hb d_WM_partPot_28 ?_
  refine lv_aload hx hb d_WM_partPot_31 (lv_at hl 0 rfl) ?_
  refine va_get (D := (dC, dI)) (ci := 2) (v := .int (-1)) (C := R_Mn) (T := F_Mn) (N := 8) hx hb htb i_Mn hown hK hP x_74 hk_76 rfl 7 (by decide) (htb (.fieldLink R_WM 394 "WaterMen$Man" "lastSunday" "I") tw_138) (fun _ h9 => h9) rfl d_WM_partPot_33 ?_
  refine lv_iload_n hx hb d_WM_partPot_36 rfl (lv_at hl 4 rfl) ?_
  refine lv_icmp_ne (tgt := 43) hx hb d_WM_partPot_37 (by decide) (fun _ => ?_) (fun h => absurd h (by decide +kernel))
  refine lv_iinc (v := 19) (lv' := [(3, .int 19), (4, .ref q_73), (2, .int 0), (0, .ref (a 0)), (1, .int 0)]) hx hb d_WM_partPot_43 hl (k := 1) rfl (by decide +kernel) (by decide) rfl (fun ls hl => ?_)
  refine lv_goto (tgt := 12) hx hb d_WM_partPot_46 (by decide) ?_
  refine lv_iload_n hx hb d_WM_partPot_12 rfl (lv_at hl 0 rfl) ?_
  refine lv_bipush (v := 40) hx hb d_WM_partPot_13 (by decide +kernel) ?_
  refine lv_icmp_ge (tgt := 49) hx hb d_WM_partPot_15 (by decide) (fun h => absurd h (by decide +kernel)) (fun _ => ?_)
  refine lv_aload_n hx hb d_WM_partPot_18 rfl (lv_at hl 3 rfl) ?_
  refine va_get (D := (dC, dI)) (ci := 0) (v := .ref (a 6)) (C := R_WM) (T := F_WM) (N := 13) hx hb htb i_WM hown hK hP 0 rfl rfl 1 (by decide) (htb (.fieldLink R_WM 18 "WaterMen" "men" "[LWaterMen$Man;") tw_51) (fun _ h9 => h9) rfl d_WM_partPot_19 ?_
  refine lv_iload_n hx hb d_WM_partPot_22 rfl (lv_at hl 0 rfl) ?_
  refine va_aldq hx hb hK hP 6 4 rfl rfl (by unfold vp_in; decide +kernel) d_WM_partPot_23 ?_
  obtain ⟨q_77, x_78, hq_79, hk_80⟩ := xw_man (a := a) (k := k) (i := 19) hL (by unfold vp_in; decide +kernel)
  refine hb_tv (.ref q_77) (by show va_rf (L[_]?) = _; rw [hq_79]; rfl) ?_
  refine lv_astore (lv' := [(4, .ref q_77), (3, .int 19), (2, .int 0), (0, .ref (a 0)), (1, .int 0)]) hx hb d_WM_partPot_24 hl (by decide) rfl (fun ls hl => ?_)
  refine lv_aload hx hb d_WM_partPot_26 (lv_at hl 0 rfl) ?_
  refine lv_ifnull hx hb d_WM_partPot_28 ?_
  refine lv_aload hx hb d_WM_partPot_31 (lv_at hl 0 rfl) ?_
  refine va_get (D := (dC, dI)) (ci := 2) (v := .int (-1)) (C := R_Mn) (T := F_Mn) (N := 8) hx hb htb i_Mn hown hK hP x_78 hk_80 rfl 7 (by decide) (htb (.fieldLink R_WM 394 "WaterMen$Man" "lastSunday" "I") tw_138) (fun _ h9 => h9) rfl d_WM_partPot_33 ?_
  refine lv_iload_n hx hb d_WM_partPot_36 rfl (lv_at hl 4 rfl) ?_
  refine lv_icmp_ne (tgt := 43) hx hb d_WM_partPot_37 (by decide) (fun _ => ?_) (fun h => absurd h (by decide +kernel))
  refine lv_iinc (v := 20) (lv' := [(3, .int 20), (4, .ref q_77), (2, .int 0), (0, .ref (a 0)), (1, .int 0)]) hx hb d_WM_partPot_43 hl (k := 1) rfl (by decide +kernel) (by decide) rfl (fun ls hl => ?_)
  refine lv_goto (tgt := 12) hx hb d_WM_partPot_46 (by decide) ?_
  refine lv_iload_n hx hb d_WM_partPot_12 rfl (lv_at hl 0 rfl) ?_
  refine lv_bipush (v := 40) hx hb d_WM_partPot_13 (by decide +kernel) ?_
  refine lv_icmp_ge (tgt := 49) hx hb d_WM_partPot_15 (by decide) (fun h => absurd h (by decide +kernel)) (fun _ => ?_)
  refine lv_aload_n hx hb d_WM_partPot_18 rfl (lv_at hl 3 rfl) ?_
  refine va_get (D := (dC, dI)) (ci := 0) (v := .ref (a 6)) (C := R_WM) (T := F_WM) (N := 13) hx hb htb i_WM hown hK hP 0 rfl rfl 1 (by decide) (htb (.fieldLink R_WM 18 "WaterMen" "men" "[LWaterMen$Man;") tw_51) (fun _ h9 => h9) rfl d_WM_partPot_19 ?_
  refine lv_iload_n hx hb d_WM_partPot_22 rfl (lv_at hl 0 rfl) ?_
  refine va_aldq hx hb hK hP 6 4 rfl rfl (by unfold vp_in; decide +kernel) d_WM_partPot_23 ?_
  obtain ⟨q_81, x_82, hq_83, hk_84⟩ := xw_man (a := a) (k := k) (i := 20) hL (by unfold vp_in; decide +kernel)
  refine hb_tv (.ref q_81) (by show va_rf (L[_]?) = _; rw [hq_83]; rfl) ?_
  refine lv_astore (lv' := [(4, .ref q_81), (3, .int 20), (2, .int 0), (0, .ref (a 0)), (1, .int 0)]) hx hb d_WM_partPot_24 hl (by decide) rfl (fun ls hl => ?_)
  refine lv_aload hx hb d_WM_partPot_26 (lv_at hl 0 rfl) ?_
  refine lv_ifnull hx hb d_WM_partPot_28 ?_
  refine lv_aload hx hb d_WM_partPot_31 (lv_at hl 0 rfl) ?_
  refine va_get (D := (dC, dI)) (ci := 2) (v := .int (-1)) (C := R_Mn) (T := F_Mn) (N := 8) hx hb htb i_Mn hown hK hP x_82 hk_84 rfl 7 (by decide) (htb (.fieldLink R_WM 394 "WaterMen$Man" "lastSunday" "I") tw_138) (fun _ h9 => h9) rfl d_WM_partPot_33 ?_
  refine lv_iload_n hx hb d_WM_partPot_36 rfl (lv_at hl 4 rfl) ?_
  refine lv_icmp_ne (tgt := 43) hx hb d_WM_partPot_37 (by decide) (fun _ => ?_) (fun h => absurd h (by decide +kernel))
  refine lv_iinc (v := 21) (lv' := [(3, .int 21), (4, .ref q_81), (2, .int 0), (0, .ref (a 0)), (1, .int 0)]) hx hb d_WM_partPot_43 hl (k := 1) rfl (by decide +kernel) (by decide) rfl (fun ls hl => ?_)
  refine lv_goto (tgt := 12) hx hb d_WM_partPot_46 (by decide) ?_
  refine lv_iload_n hx hb d_WM_partPot_12 rfl (lv_at hl 0 rfl) ?_
  refine lv_bipush (v := 40) hx hb d_WM_partPot_13 (by decide +kernel) ?_
  refine lv_icmp_ge (tgt := 49) hx hb d_WM_partPot_15 (by decide) (fun h => absurd h (by decide +kernel)) (fun _ => ?_)
  refine lv_aload_n hx hb d_WM_partPot_18 rfl (lv_at hl 3 rfl) ?_
  refine va_get (D := (dC, dI)) (ci := 0) (v := .ref (a 6)) (C := R_WM) (T := F_WM) (N := 13) hx hb htb i_WM hown hK hP 0 rfl rfl 1 (by decide) (htb (.fieldLink R_WM 18 "WaterMen" "men" "[LWaterMen$Man;") tw_51) (fun _ h9 => h9) rfl d_WM_partPot_19 ?_
  refine lv_iload_n hx hb d_WM_partPot_22 rfl (lv_at hl 0 rfl) ?_
  refine va_aldq hx hb hK hP 6 4 rfl rfl (by unfold vp_in; decide +kernel) d_WM_partPot_23 ?_
  obtain ⟨q_85, x_86, hq_87, hk_88⟩ := xw_man (a := a) (k := k) (i := 21) hL (by unfold vp_in; decide +kernel)
  refine hb_tv (.ref q_85) (by show va_rf (L[_]?) = _; rw [hq_87]; rfl) ?_
  refine lv_astore (lv' := [(4, .ref q_85), (3, .int 21), (2, .int 0), (0, .ref (a 0)), (1, .int 0)]) hx hb d_WM_partPot_24 hl (by decide) rfl (fun ls hl => ?_)
  refine lv_aload hx hb d_WM_partPot_26 (lv_at hl 0 rfl) ?_
  refine lv_ifnull hx hb d_WM_partPot_28 ?_
  refine lv_aload hx hb d_WM_partPot_31 (lv_at hl 0 rfl) ?_
  refine va_get (D := (dC, dI)) (ci := 2) (v := .int (-1)) (C := R_Mn) (T := F_Mn) (N := 8) hx hb htb i_Mn hown hK hP x_86 hk_88 rfl 7 (by decide) (htb (.fieldLink R_WM 394 "WaterMen$Man" "lastSunday" "I") tw_138) (fun _ h9 => h9) rfl d_WM_partPot_33 ?_
  refine lv_iload_n hx hb d_WM_partPot_36 rfl (lv_at hl 4 rfl) ?_
  refine lv_icmp_ne (tgt := 43) hx hb d_WM_partPot_37 (by decide) (fun _ => ?_) (fun h => absurd h (by decide +kernel))
  refine lv_iinc (v := 22) (lv' := [(3, .int 22), (4, .ref q_85), (2, .int 0), (0, .ref (a 0)), (1, .int 0)]) hx hb d_WM_partPot_43 hl (k := 1) rfl (by decide +kernel) (by decide) rfl (fun ls hl => ?_)
  refine lv_goto (tgt := 12) hx hb d_WM_partPot_46 (by decide) ?_
  refine lv_iload_n hx hb d_WM_partPot_12 rfl (lv_at hl 0 rfl) ?_
  refine lv_bipush (v := 40) hx hb d_WM_partPot_13 (by decide +kernel) ?_
  refine lv_icmp_ge (tgt := 49) hx hb d_WM_partPot_15 (by decide) (fun h => absurd h (by decide +kernel)) (fun _ => ?_)
  refine lv_aload_n hx hb d_WM_partPot_18 rfl (lv_at hl 3 rfl) ?_
  refine va_get (D := (dC, dI)) (ci := 0) (v := .ref (a 6)) (C := R_WM) (T := F_WM) (N := 13) hx hb htb i_WM hown hK hP 0 rfl rfl 1 (by decide) (htb (.fieldLink R_WM 18 "WaterMen" "men" "[LWaterMen$Man;") tw_51) (fun _ h9 => h9) rfl d_WM_partPot_19 ?_
  refine lv_iload_n hx hb d_WM_partPot_22 rfl (lv_at hl 0 rfl) ?_
  refine va_aldq hx hb hK hP 6 4 rfl rfl (by unfold vp_in; decide +kernel) d_WM_partPot_23 ?_
  obtain ⟨q_89, x_90, hq_91, hk_92⟩ := xw_man (a := a) (k := k) (i := 22) hL (by unfold vp_in; decide +kernel)
  refine hb_tv (.ref q_89) (by show va_rf (L[_]?) = _; rw [hq_91]; rfl) ?_
  refine lv_astore (lv' := [(4, .ref q_89), (3, .int 22), (2, .int 0), (0, .ref (a 0)), (1, .int 0)]) hx hb d_WM_partPot_24 hl (by decide) rfl (fun ls hl => ?_)
  refine lv_aload hx hb d_WM_partPot_26 (lv_at hl 0 rfl) ?_
  refine lv_ifnull hx hb d_WM_partPot_28 ?_
  refine lv_aload hx hb d_WM_partPot_31 (lv_at hl 0 rfl) ?_
  refine va_get (D := (dC, dI)) (ci := 2) (v := .int (-1)) (C := R_Mn) (T := F_Mn) (N := 8) hx hb htb i_Mn hown hK hP x_90 hk_92 rfl 7 (by decide) (htb (.fieldLink R_WM 394 "WaterMen$Man" "lastSunday" "I") tw_138) (fun _ h9 => h9) rfl d_WM_partPot_33 ?_
  refine lv_iload_n hx hb d_WM_partPot_36 rfl (lv_at hl 4 rfl) ?_
  refine lv_icmp_ne (tgt := 43) hx hb d_WM_partPot_37 (by decide) (fun _ => ?_) (fun h => absurd h (by decide +kernel))
  refine lv_iinc (v := 23) (lv' := [(3, .int 23), (4, .ref q_89), (2, .int 0), (0, .ref (a 0)), (1, .int 0)]) hx hb d_WM_partPot_43 hl (k := 1) rfl (by decide +kernel) (by decide) rfl (fun ls hl => ?_)
  refine lv_goto (tgt := 12) hx hb d_WM_partPot_46 (by decide) ?_
  refine lv_iload_n hx hb d_WM_partPot_12 rfl (lv_at hl 0 rfl) ?_
  refine lv_bipush (v := 40) hx hb d_WM_partPot_13 (by decide +kernel) ?_
  refine lv_icmp_ge (tgt := 49) hx hb d_WM_partPot_15 (by decide) (fun h => absurd h (by decide +kernel)) (fun _ => ?_)
  refine lv_aload_n hx hb d_WM_partPot_18 rfl (lv_at hl 3 rfl) ?_
  refine va_get (D := (dC, dI)) (ci := 0) (v := .ref (a 6)) (C := R_WM) (T := F_WM) (N := 13) hx hb htb i_WM hown hK hP 0 rfl rfl 1 (by decide) (htb (.fieldLink R_WM 18 "WaterMen" "men" "[LWaterMen$Man;") tw_51) (fun _ h9 => h9) rfl d_WM_partPot_19 ?_
  refine lv_iload_n hx hb d_WM_partPot_22 rfl (lv_at hl 0 rfl) ?_
  refine va_aldq hx hb hK hP 6 4 rfl rfl (by unfold vp_in; decide +kernel) d_WM_partPot_23 ?_
  obtain ⟨q_93, x_94, hq_95, hk_96⟩ := xw_man (a := a) (k := k) (i := 23) hL (by unfold vp_in; decide +kernel)
  refine hb_tv (.ref q_93) (by show va_rf (L[_]?) = _; rw [hq_95]; rfl) ?_
  refine lv_astore (lv' := [(4, .ref q_93), (3, .int 23), (2, .int 0), (0, .ref (a 0)), (1, .int 0)]) hx hb d_WM_partPot_24 hl (by decide) rfl (fun ls hl => ?_)
  refine lv_aload hx hb d_WM_partPot_26 (lv_at hl 0 rfl) ?_
  refine lv_ifnull hx hb d_WM_partPot_28 ?_
  refine lv_aload hx hb d_WM_partPot_31 (lv_at hl 0 rfl) ?_
  refine va_get (D := (dC, dI)) (ci := 2) (v := .int (-1)) (C := R_Mn) (T := F_Mn) (N := 8) hx hb htb i_Mn hown hK hP x_94 hk_96 rfl 7 (by decide) (htb (.fieldLink R_WM 394 "WaterMen$Man" "lastSunday" "I") tw_138) (fun _ h9 => h9) rfl d_WM_partPot_33 ?_
  refine lv_iload_n hx hb d_WM_partPot_36 rfl (lv_at hl 4 rfl) ?_
  refine lv_icmp_ne (tgt := 43) hx hb d_WM_partPot_37 (by decide) (fun _ => ?_) (fun h => absurd h (by decide +kernel))
  refine lv_iinc (v := 24) (lv' := [(3, .int 24), (4, .ref q_93), (2, .int 0), (0, .ref (a 0)), (1, .int 0)]) hx hb d_WM_partPot_43 hl (k := 1) rfl (by decide +kernel) (by decide) rfl (fun ls hl => ?_)
  refine lv_goto (tgt := 12) hx hb d_WM_partPot_46 (by decide) ?_
  refine lv_iload_n hx hb d_WM_partPot_12 rfl (lv_at hl 0 rfl) ?_
  refine lv_bipush (v := 40) hx hb d_WM_partPot_13 (by decide +kernel) ?_
  refine lv_icmp_ge (tgt := 49) hx hb d_WM_partPot_15 (by decide) (fun h => absurd h (by decide +kernel)) (fun _ => ?_)
  refine lv_aload_n hx hb d_WM_partPot_18 rfl (lv_at hl 3 rfl) ?_
  refine va_get (D := (dC, dI)) (ci := 0) (v := .ref (a 6)) (C := R_WM) (T := F_WM) (N := 13) hx hb htb i_WM hown hK hP 0 rfl rfl 1 (by decide) (htb (.fieldLink R_WM 18 "WaterMen" "men" "[LWaterMen$Man;") tw_51) (fun _ h9 => h9) rfl d_WM_partPot_19 ?_
  refine lv_iload_n hx hb d_WM_partPot_22 rfl (lv_at hl 0 rfl) ?_
  refine va_aldq hx hb hK hP 6 4 rfl rfl (by unfold vp_in; decide +kernel) d_WM_partPot_23 ?_
  obtain ⟨q_97, x_98, hq_99, hk_100⟩ := xw_man (a := a) (k := k) (i := 24) hL (by unfold vp_in; decide +kernel)
  refine hb_tv (.ref q_97) (by show va_rf (L[_]?) = _; rw [hq_99]; rfl) ?_
  refine lv_astore (lv' := [(4, .ref q_97), (3, .int 24), (2, .int 0), (0, .ref (a 0)), (1, .int 0)]) hx hb d_WM_partPot_24 hl (by decide) rfl (fun ls hl => ?_)
  refine lv_aload hx hb d_WM_partPot_26 (lv_at hl 0 rfl) ?_
  refine lv_ifnull hx hb d_WM_partPot_28 ?_
  refine lv_aload hx hb d_WM_partPot_31 (lv_at hl 0 rfl) ?_
  refine va_get (D := (dC, dI)) (ci := 2) (v := .int (-1)) (C := R_Mn) (T := F_Mn) (N := 8) hx hb htb i_Mn hown hK hP x_98 hk_100 rfl 7 (by decide) (htb (.fieldLink R_WM 394 "WaterMen$Man" "lastSunday" "I") tw_138) (fun _ h9 => h9) rfl d_WM_partPot_33 ?_
  refine lv_iload_n hx hb d_WM_partPot_36 rfl (lv_at hl 4 rfl) ?_
  refine lv_icmp_ne (tgt := 43) hx hb d_WM_partPot_37 (by decide) (fun _ => ?_) (fun h => absurd h (by decide +kernel))
  refine lv_iinc (v := 25) (lv' := [(3, .int 25), (4, .ref q_97), (2, .int 0), (0, .ref (a 0)), (1, .int 0)]) hx hb d_WM_partPot_43 hl (k := 1) rfl (by decide +kernel) (by decide) rfl (fun ls hl => ?_)
  refine lv_goto (tgt := 12) hx hb d_WM_partPot_46 (by decide) ?_
  refine lv_iload_n hx hb d_WM_partPot_12 rfl (lv_at hl 0 rfl) ?_
  refine lv_bipush (v := 40) hx hb d_WM_partPot_13 (by decide +kernel) ?_
  refine lv_icmp_ge (tgt := 49) hx hb d_WM_partPot_15 (by decide) (fun h => absurd h (by decide +kernel)) (fun _ => ?_)
  refine lv_aload_n hx hb d_WM_partPot_18 rfl (lv_at hl 3 rfl) ?_
  refine va_get (D := (dC, dI)) (ci := 0) (v := .ref (a 6)) (C := R_WM) (T := F_WM) (N := 13) hx hb htb i_WM hown hK hP 0 rfl rfl 1 (by decide) (htb (.fieldLink R_WM 18 "WaterMen" "men" "[LWaterMen$Man;") tw_51) (fun _ h9 => h9) rfl d_WM_partPot_19 ?_
  refine lv_iload_n hx hb d_WM_partPot_22 rfl (lv_at hl 0 rfl) ?_
  refine va_aldq hx hb hK hP 6 4 rfl rfl (by unfold vp_in; decide +kernel) d_WM_partPot_23 ?_
  obtain ⟨q_101, x_102, hq_103, hk_104⟩ := xw_man (a := a) (k := k) (i := 25) hL (by unfold vp_in; decide +kernel)
  refine hb_tv (.ref q_101) (by show va_rf (L[_]?) = _; rw [hq_103]; rfl) ?_
  refine lv_astore (lv' := [(4, .ref q_101), (3, .int 25), (2, .int 0), (0, .ref (a 0)), (1, .int 0)]) hx hb d_WM_partPot_24 hl (by decide) rfl (fun ls hl => ?_)
  refine lv_aload hx hb d_WM_partPot_26 (lv_at hl 0 rfl) ?_
  refine lv_ifnull hx hb d_WM_partPot_28 ?_
  refine lv_aload hx hb d_WM_partPot_31 (lv_at hl 0 rfl) ?_
  refine va_get (D := (dC, dI)) (ci := 2) (v := .int (-1)) (C := R_Mn) (T := F_Mn) (N := 8) hx hb htb i_Mn hown hK hP x_102 hk_104 rfl 7 (by decide) (htb (.fieldLink R_WM 394 "WaterMen$Man" "lastSunday" "I") tw_138) (fun _ h9 => h9) rfl d_WM_partPot_33 ?_
  refine lv_iload_n hx hb d_WM_partPot_36 rfl (lv_at hl 4 rfl) ?_
  refine lv_icmp_ne (tgt := 43) hx hb d_WM_partPot_37 (by decide) (fun _ => ?_) (fun h => absurd h (by decide +kernel))
  refine lv_iinc (v := 26) (lv' := [(3, .int 26), (4, .ref q_101), (2, .int 0), (0, .ref (a 0)), (1, .int 0)]) hx hb d_WM_partPot_43 hl (k := 1) rfl (by decide +kernel) (by decide) rfl (fun ls hl => ?_)
  refine lv_goto (tgt := 12) hx hb d_WM_partPot_46 (by decide) ?_
  refine lv_iload_n hx hb d_WM_partPot_12 rfl (lv_at hl 0 rfl) ?_
  refine lv_bipush (v := 40) hx hb d_WM_partPot_13 (by decide +kernel) ?_
  refine lv_icmp_ge (tgt := 49) hx hb d_WM_partPot_15 (by decide) (fun h => absurd h (by decide +kernel)) (fun _ => ?_)
  refine lv_aload_n hx hb d_WM_partPot_18 rfl (lv_at hl 3 rfl) ?_
  refine va_get (D := (dC, dI)) (ci := 0) (v := .ref (a 6)) (C := R_WM) (T := F_WM) (N := 13) hx hb htb i_WM hown hK hP 0 rfl rfl 1 (by decide) (htb (.fieldLink R_WM 18 "WaterMen" "men" "[LWaterMen$Man;") tw_51) (fun _ h9 => h9) rfl d_WM_partPot_19 ?_
  refine lv_iload_n hx hb d_WM_partPot_22 rfl (lv_at hl 0 rfl) ?_
  refine va_aldq hx hb hK hP 6 4 rfl rfl (by unfold vp_in; decide +kernel) d_WM_partPot_23 ?_
  obtain ⟨q_105, x_106, hq_107, hk_108⟩ := xw_man (a := a) (k := k) (i := 26) hL (by unfold vp_in; decide +kernel)
  refine hb_tv (.ref q_105) (by show va_rf (L[_]?) = _; rw [hq_107]; rfl) ?_
  refine lv_astore (lv' := [(4, .ref q_105), (3, .int 26), (2, .int 0), (0, .ref (a 0)), (1, .int 0)]) hx hb d_WM_partPot_24 hl (by decide) rfl (fun ls hl => ?_)
  refine lv_aload hx hb d_WM_partPot_26 (lv_at hl 0 rfl) ?_
  refine lv_ifnull hx hb d_WM_partPot_28 ?_
  refine lv_aload hx hb d_WM_partPot_31 (lv_at hl 0 rfl) ?_
  refine va_get (D := (dC, dI)) (ci := 2) (v := .int (-1)) (C := R_Mn) (T := F_Mn) (N := 8) hx hb htb i_Mn hown hK hP x_106 hk_108 rfl 7 (by decide) (htb (.fieldLink R_WM 394 "WaterMen$Man" "lastSunday" "I") tw_138) (fun _ h9 => h9) rfl d_WM_partPot_33 ?_
  refine lv_iload_n hx hb d_WM_partPot_36 rfl (lv_at hl 4 rfl) ?_
  refine lv_icmp_ne (tgt := 43) hx hb d_WM_partPot_37 (by decide) (fun _ => ?_) (fun h => absurd h (by decide +kernel))
  refine lv_iinc (v := 27) (lv' := [(3, .int 27), (4, .ref q_105), (2, .int 0), (0, .ref (a 0)), (1, .int 0)]) hx hb d_WM_partPot_43 hl (k := 1) rfl (by decide +kernel) (by decide) rfl (fun ls hl => ?_)
  refine lv_goto (tgt := 12) hx hb d_WM_partPot_46 (by decide) ?_
  refine lv_iload_n hx hb d_WM_partPot_12 rfl (lv_at hl 0 rfl) ?_
  refine lv_bipush (v := 40) hx hb d_WM_partPot_13 (by decide +kernel) ?_
  refine lv_icmp_ge (tgt := 49) hx hb d_WM_partPot_15 (by decide) (fun h => absurd h (by decide +kernel)) (fun _ => ?_)
  refine lv_aload_n hx hb d_WM_partPot_18 rfl (lv_at hl 3 rfl) ?_
  refine va_get (D := (dC, dI)) (ci := 0) (v := .ref (a 6)) (C := R_WM) (T := F_WM) (N := 13) hx hb htb i_WM hown hK hP 0 rfl rfl 1 (by decide) (htb (.fieldLink R_WM 18 "WaterMen" "men" "[LWaterMen$Man;") tw_51) (fun _ h9 => h9) rfl d_WM_partPot_19 ?_
  refine lv_iload_n hx hb d_WM_partPot_22 rfl (lv_at hl 0 rfl) ?_
  refine va_aldq hx hb hK hP 6 4 rfl rfl (by unfold vp_in; decide +kernel) d_WM_partPot_23 ?_
  obtain ⟨q_109, x_110, hq_111, hk_112⟩ := xw_man (a := a) (k := k) (i := 27) hL (by unfold vp_in; decide +kernel)
  refine hb_tv (.ref q_109) (by show va_rf (L[_]?) = _; rw [hq_111]; rfl) ?_
  refine lv_astore (lv' := [(4, .ref q_109), (3, .int 27), (2, .int 0), (0, .ref (a 0)), (1, .int 0)]) hx hb d_WM_partPot_24 hl (by decide) rfl (fun ls hl => ?_)
  refine lv_aload hx hb d_WM_partPot_26 (lv_at hl 0 rfl) ?_
  refine lv_ifnull hx hb d_WM_partPot_28 ?_
  refine lv_aload hx hb d_WM_partPot_31 (lv_at hl 0 rfl) ?_
  refine va_get (D := (dC, dI)) (ci := 2) (v := .int (-1)) (C := R_Mn) (T := F_Mn) (N := 8) hx hb htb i_Mn hown hK hP x_110 hk_112 rfl 7 (by decide) (htb (.fieldLink R_WM 394 "WaterMen$Man" "lastSunday" "I") tw_138) (fun _ h9 => h9) rfl d_WM_partPot_33 ?_
  refine lv_iload_n hx hb d_WM_partPot_36 rfl (lv_at hl 4 rfl) ?_
  refine lv_icmp_ne (tgt := 43) hx hb d_WM_partPot_37 (by decide) (fun _ => ?_) (fun h => absurd h (by decide +kernel))
  refine lv_iinc (v := 28) (lv' := [(3, .int 28), (4, .ref q_109), (2, .int 0), (0, .ref (a 0)), (1, .int 0)]) hx hb d_WM_partPot_43 hl (k := 1) rfl (by decide +kernel) (by decide) rfl (fun ls hl => ?_)
  refine lv_goto (tgt := 12) hx hb d_WM_partPot_46 (by decide) ?_
  refine lv_iload_n hx hb d_WM_partPot_12 rfl (lv_at hl 0 rfl) ?_
  refine lv_bipush (v := 40) hx hb d_WM_partPot_13 (by decide +kernel) ?_
  refine lv_icmp_ge (tgt := 49) hx hb d_WM_partPot_15 (by decide) (fun h => absurd h (by decide +kernel)) (fun _ => ?_)
  refine lv_aload_n hx hb d_WM_partPot_18 rfl (lv_at hl 3 rfl) ?_
  refine va_get (D := (dC, dI)) (ci := 0) (v := .ref (a 6)) (C := R_WM) (T := F_WM) (N := 13) hx hb htb i_WM hown hK hP 0 rfl rfl 1 (by decide) (htb (.fieldLink R_WM 18 "WaterMen" "men" "[LWaterMen$Man;") tw_51) (fun _ h9 => h9) rfl d_WM_partPot_19 ?_
  refine lv_iload_n hx hb d_WM_partPot_22 rfl (lv_at hl 0 rfl) ?_
  refine va_aldq hx hb hK hP 6 4 rfl rfl (by unfold vp_in; decide +kernel) d_WM_partPot_23 ?_
  obtain ⟨q_113, x_114, hq_115, hk_116⟩ := xw_man (a := a) (k := k) (i := 28) hL (by unfold vp_in; decide +kernel)
  refine hb_tv (.ref q_113) (by show va_rf (L[_]?) = _; rw [hq_115]; rfl) ?_
  refine lv_astore (lv' := [(4, .ref q_113), (3, .int 28), (2, .int 0), (0, .ref (a 0)), (1, .int 0)]) hx hb d_WM_partPot_24 hl (by decide) rfl (fun ls hl => ?_)
  refine lv_aload hx hb d_WM_partPot_26 (lv_at hl 0 rfl) ?_
  refine lv_ifnull hx hb d_WM_partPot_28 ?_
  refine lv_aload hx hb d_WM_partPot_31 (lv_at hl 0 rfl) ?_
  refine va_get (D := (dC, dI)) (ci := 2) (v := .int (-1)) (C := R_Mn) (T := F_Mn) (N := 8) hx hb htb i_Mn hown hK hP x_114 hk_116 rfl 7 (by decide) (htb (.fieldLink R_WM 394 "WaterMen$Man" "lastSunday" "I") tw_138) (fun _ h9 => h9) rfl d_WM_partPot_33 ?_
  refine lv_iload_n hx hb d_WM_partPot_36 rfl (lv_at hl 4 rfl) ?_
  refine lv_icmp_ne (tgt := 43) hx hb d_WM_partPot_37 (by decide) (fun _ => ?_) (fun h => absurd h (by decide +kernel))
  refine lv_iinc (v := 29) (lv' := [(3, .int 29), (4, .ref q_113), (2, .int 0), (0, .ref (a 0)), (1, .int 0)]) hx hb d_WM_partPot_43 hl (k := 1) rfl (by decide +kernel) (by decide) rfl (fun ls hl => ?_)
  refine lv_goto (tgt := 12) hx hb d_WM_partPot_46 (by decide) ?_
  refine lv_iload_n hx hb d_WM_partPot_12 rfl (lv_at hl 0 rfl) ?_
  refine lv_bipush (v := 40) hx hb d_WM_partPot_13 (by decide +kernel) ?_
  refine lv_icmp_ge (tgt := 49) hx hb d_WM_partPot_15 (by decide) (fun h => absurd h (by decide +kernel)) (fun _ => ?_)
  refine lv_aload_n hx hb d_WM_partPot_18 rfl (lv_at hl 3 rfl) ?_
  refine va_get (D := (dC, dI)) (ci := 0) (v := .ref (a 6)) (C := R_WM) (T := F_WM) (N := 13) hx hb htb i_WM hown hK hP 0 rfl rfl 1 (by decide) (htb (.fieldLink R_WM 18 "WaterMen" "men" "[LWaterMen$Man;") tw_51) (fun _ h9 => h9) rfl d_WM_partPot_19 ?_
  refine lv_iload_n hx hb d_WM_partPot_22 rfl (lv_at hl 0 rfl) ?_
  refine va_aldq hx hb hK hP 6 4 rfl rfl (by unfold vp_in; decide +kernel) d_WM_partPot_23 ?_
  obtain ⟨q_117, x_118, hq_119, hk_120⟩ := xw_man (a := a) (k := k) (i := 29) hL (by unfold vp_in; decide +kernel)
  refine hb_tv (.ref q_117) (by show va_rf (L[_]?) = _; rw [hq_119]; rfl) ?_
  refine lv_astore (lv' := [(4, .ref q_117), (3, .int 29), (2, .int 0), (0, .ref (a 0)), (1, .int 0)]) hx hb d_WM_partPot_24 hl (by decide) rfl (fun ls hl => ?_)
  refine lv_aload hx hb d_WM_partPot_26 (lv_at hl 0 rfl) ?_
  refine lv_ifnull hx hb d_WM_partPot_28 ?_
  refine lv_aload hx hb d_WM_partPot_31 (lv_at hl 0 rfl) ?_
  refine va_get (D := (dC, dI)) (ci := 2) (v := .int (-1)) (C := R_Mn) (T := F_Mn) (N := 8) hx hb htb i_Mn hown hK hP x_118 hk_120 rfl 7 (by decide) (htb (.fieldLink R_WM 394 "WaterMen$Man" "lastSunday" "I") tw_138) (fun _ h9 => h9) rfl d_WM_partPot_33 ?_
  refine lv_iload_n hx hb d_WM_partPot_36 rfl (lv_at hl 4 rfl) ?_
  refine lv_icmp_ne (tgt := 43) hx hb d_WM_partPot_37 (by decide) (fun _ => ?_) (fun h => absurd h (by decide +kernel))
  refine lv_iinc (v := 30) (lv' := [(3, .int 30), (4, .ref q_117), (2, .int 0), (0, .ref (a 0)), (1, .int 0)]) hx hb d_WM_partPot_43 hl (k := 1) rfl (by decide +kernel) (by decide) rfl (fun ls hl => ?_)
  refine lv_goto (tgt := 12) hx hb d_WM_partPot_46 (by decide) ?_
  refine lv_iload_n hx hb d_WM_partPot_12 rfl (lv_at hl 0 rfl) ?_
  refine lv_bipush (v := 40) hx hb d_WM_partPot_13 (by decide +kernel) ?_
  refine lv_icmp_ge (tgt := 49) hx hb d_WM_partPot_15 (by decide) (fun h => absurd h (by decide +kernel)) (fun _ => ?_)
  refine lv_aload_n hx hb d_WM_partPot_18 rfl (lv_at hl 3 rfl) ?_
  refine va_get (D := (dC, dI)) (ci := 0) (v := .ref (a 6)) (C := R_WM) (T := F_WM) (N := 13) hx hb htb i_WM hown hK hP 0 rfl rfl 1 (by decide) (htb (.fieldLink R_WM 18 "WaterMen" "men" "[LWaterMen$Man;") tw_51) (fun _ h9 => h9) rfl d_WM_partPot_19 ?_
  refine lv_iload_n hx hb d_WM_partPot_22 rfl (lv_at hl 0 rfl) ?_
  refine va_aldq hx hb hK hP 6 4 rfl rfl (by unfold vp_in; decide +kernel) d_WM_partPot_23 ?_
  obtain ⟨q_121, x_122, hq_123, hk_124⟩ := xw_man (a := a) (k := k) (i := 30) hL (by unfold vp_in; decide +kernel)
  refine hb_tv (.ref q_121) (by show va_rf (L[_]?) = _; rw [hq_123]; rfl) ?_
  refine lv_astore (lv' := [(4, .ref q_121), (3, .int 30), (2, .int 0), (0, .ref (a 0)), (1, .int 0)]) hx hb d_WM_partPot_24 hl (by decide) rfl (fun ls hl => ?_)
  refine lv_aload hx hb d_WM_partPot_26 (lv_at hl 0 rfl) ?_
  refine lv_ifnull hx hb d_WM_partPot_28 ?_
  refine lv_aload hx hb d_WM_partPot_31 (lv_at hl 0 rfl) ?_
  refine va_get (D := (dC, dI)) (ci := 2) (v := .int (-1)) (C := R_Mn) (T := F_Mn) (N := 8) hx hb htb i_Mn hown hK hP x_122 hk_124 rfl 7 (by decide) (htb (.fieldLink R_WM 394 "WaterMen$Man" "lastSunday" "I") tw_138) (fun _ h9 => h9) rfl d_WM_partPot_33 ?_
  refine lv_iload_n hx hb d_WM_partPot_36 rfl (lv_at hl 4 rfl) ?_
  refine lv_icmp_ne (tgt := 43) hx hb d_WM_partPot_37 (by decide) (fun _ => ?_) (fun h => absurd h (by decide +kernel))
  refine lv_iinc (v := 31) (lv' := [(3, .int 31), (4, .ref q_121), (2, .int 0), (0, .ref (a 0)), (1, .int 0)]) hx hb d_WM_partPot_43 hl (k := 1) rfl (by decide +kernel) (by decide) rfl (fun ls hl => ?_)
  refine lv_goto (tgt := 12) hx hb d_WM_partPot_46 (by decide) ?_
  refine lv_iload_n hx hb d_WM_partPot_12 rfl (lv_at hl 0 rfl) ?_
  refine lv_bipush (v := 40) hx hb d_WM_partPot_13 (by decide +kernel) ?_
  refine lv_icmp_ge (tgt := 49) hx hb d_WM_partPot_15 (by decide) (fun h => absurd h (by decide +kernel)) (fun _ => ?_)
  refine lv_aload_n hx hb d_WM_partPot_18 rfl (lv_at hl 3 rfl) ?_
  refine va_get (D := (dC, dI)) (ci := 0) (v := .ref (a 6)) (C := R_WM) (T := F_WM) (N := 13) hx hb htb i_WM hown hK hP 0 rfl rfl 1 (by decide) (htb (.fieldLink R_WM 18 "WaterMen" "men" "[LWaterMen$Man;") tw_51) (fun _ h9 => h9) rfl d_WM_partPot_19 ?_
  refine lv_iload_n hx hb d_WM_partPot_22 rfl (lv_at hl 0 rfl) ?_
  refine va_aldq hx hb hK hP 6 4 rfl rfl (by unfold vp_in; decide +kernel) d_WM_partPot_23 ?_
  obtain ⟨q_125, x_126, hq_127, hk_128⟩ := xw_man (a := a) (k := k) (i := 31) hL (by unfold vp_in; decide +kernel)
  refine hb_tv (.ref q_125) (by show va_rf (L[_]?) = _; rw [hq_127]; rfl) ?_
  refine lv_astore (lv' := [(4, .ref q_125), (3, .int 31), (2, .int 0), (0, .ref (a 0)), (1, .int 0)]) hx hb d_WM_partPot_24 hl (by decide) rfl (fun ls hl => ?_)
  refine lv_aload hx hb d_WM_partPot_26 (lv_at hl 0 rfl) ?_
  refine lv_ifnull hx hb d_WM_partPot_28 ?_
  refine lv_aload hx hb d_WM_partPot_31 (lv_at hl 0 rfl) ?_
  refine va_get (D := (dC, dI)) (ci := 2) (v := .int (-1)) (C := R_Mn) (T := F_Mn) (N := 8) hx hb htb i_Mn hown hK hP x_126 hk_128 rfl 7 (by decide) (htb (.fieldLink R_WM 394 "WaterMen$Man" "lastSunday" "I") tw_138) (fun _ h9 => h9) rfl d_WM_partPot_33 ?_
  refine lv_iload_n hx hb d_WM_partPot_36 rfl (lv_at hl 4 rfl) ?_
  refine lv_icmp_ne (tgt := 43) hx hb d_WM_partPot_37 (by decide) (fun _ => ?_) (fun h => absurd h (by decide +kernel))
  refine lv_iinc (v := 32) (lv' := [(3, .int 32), (4, .ref q_125), (2, .int 0), (0, .ref (a 0)), (1, .int 0)]) hx hb d_WM_partPot_43 hl (k := 1) rfl (by decide +kernel) (by decide) rfl (fun ls hl => ?_)
  refine lv_goto (tgt := 12) hx hb d_WM_partPot_46 (by decide) ?_
  refine lv_iload_n hx hb d_WM_partPot_12 rfl (lv_at hl 0 rfl) ?_
  refine lv_bipush (v := 40) hx hb d_WM_partPot_13 (by decide +kernel) ?_
  refine lv_icmp_ge (tgt := 49) hx hb d_WM_partPot_15 (by decide) (fun h => absurd h (by decide +kernel)) (fun _ => ?_)
  refine lv_aload_n hx hb d_WM_partPot_18 rfl (lv_at hl 3 rfl) ?_
  refine va_get (D := (dC, dI)) (ci := 0) (v := .ref (a 6)) (C := R_WM) (T := F_WM) (N := 13) hx hb htb i_WM hown hK hP 0 rfl rfl 1 (by decide) (htb (.fieldLink R_WM 18 "WaterMen" "men" "[LWaterMen$Man;") tw_51) (fun _ h9 => h9) rfl d_WM_partPot_19 ?_
  refine lv_iload_n hx hb d_WM_partPot_22 rfl (lv_at hl 0 rfl) ?_
  refine va_aldq hx hb hK hP 6 4 rfl rfl (by unfold vp_in; decide +kernel) d_WM_partPot_23 ?_
  obtain ⟨q_129, x_130, hq_131, hk_132⟩ := xw_man (a := a) (k := k) (i := 32) hL (by unfold vp_in; decide +kernel)
  refine hb_tv (.ref q_129) (by show va_rf (L[_]?) = _; rw [hq_131]; rfl) ?_
  refine lv_astore (lv' := [(4, .ref q_129), (3, .int 32), (2, .int 0), (0, .ref (a 0)), (1, .int 0)]) hx hb d_WM_partPot_24 hl (by decide) rfl (fun ls hl => ?_)
  refine lv_aload hx hb d_WM_partPot_26 (lv_at hl 0 rfl) ?_
  refine lv_ifnull hx hb d_WM_partPot_28 ?_
  refine lv_aload hx hb d_WM_partPot_31 (lv_at hl 0 rfl) ?_
  refine va_get (D := (dC, dI)) (ci := 2) (v := .int (-1)) (C := R_Mn) (T := F_Mn) (N := 8) hx hb htb i_Mn hown hK hP x_130 hk_132 rfl 7 (by decide) (htb (.fieldLink R_WM 394 "WaterMen$Man" "lastSunday" "I") tw_138) (fun _ h9 => h9) rfl d_WM_partPot_33 ?_
  refine lv_iload_n hx hb d_WM_partPot_36 rfl (lv_at hl 4 rfl) ?_
  refine lv_icmp_ne (tgt := 43) hx hb d_WM_partPot_37 (by decide) (fun _ => ?_) (fun h => absurd h (by decide +kernel))
  refine lv_iinc (v := 33) (lv' := [(3, .int 33), (4, .ref q_129), (2, .int 0), (0, .ref (a 0)), (1, .int 0)]) hx hb d_WM_partPot_43 hl (k := 1) rfl (by decide +kernel) (by decide) rfl (fun ls hl => ?_)
  refine lv_goto (tgt := 12) hx hb d_WM_partPot_46 (by decide) ?_
  refine lv_iload_n hx hb d_WM_partPot_12 rfl (lv_at hl 0 rfl) ?_
  refine lv_bipush (v := 40) hx hb d_WM_partPot_13 (by decide +kernel) ?_
  refine lv_icmp_ge (tgt := 49) hx hb d_WM_partPot_15 (by decide) (fun h => absurd h (by decide +kernel)) (fun _ => ?_)
  refine lv_aload_n hx hb d_WM_partPot_18 rfl (lv_at hl 3 rfl) ?_
  refine va_get (D := (dC, dI)) (ci := 0) (v := .ref (a 6)) (C := R_WM) (T := F_WM) (N := 13) hx hb htb i_WM hown hK hP 0 rfl rfl 1 (by decide) (htb (.fieldLink R_WM 18 "WaterMen" "men" "[LWaterMen$Man;") tw_51) (fun _ h9 => h9) rfl d_WM_partPot_19 ?_
  refine lv_iload_n hx hb d_WM_partPot_22 rfl (lv_at hl 0 rfl) ?_
  refine va_aldq hx hb hK hP 6 4 rfl rfl (by unfold vp_in; decide +kernel) d_WM_partPot_23 ?_
  obtain ⟨q_133, x_134, hq_135, hk_136⟩ := xw_man (a := a) (k := k) (i := 33) hL (by unfold vp_in; decide +kernel)
  refine hb_tv (.ref q_133) (by show va_rf (L[_]?) = _; rw [hq_135]; rfl) ?_
  refine lv_astore (lv' := [(4, .ref q_133), (3, .int 33), (2, .int 0), (0, .ref (a 0)), (1, .int 0)]) hx hb d_WM_partPot_24 hl (by decide) rfl (fun ls hl => ?_)
  refine lv_aload hx hb d_WM_partPot_26 (lv_at hl 0 rfl) ?_
  refine lv_ifnull hx hb d_WM_partPot_28 ?_
  refine lv_aload hx hb d_WM_partPot_31 (lv_at hl 0 rfl) ?_
  refine va_get (D := (dC, dI)) (ci := 2) (v := .int (-1)) (C := R_Mn) (T := F_Mn) (N := 8) hx hb htb i_Mn hown hK hP x_134 hk_136 rfl 7 (by decide) (htb (.fieldLink R_WM 394 "WaterMen$Man" "lastSunday" "I") tw_138) (fun _ h9 => h9) rfl d_WM_partPot_33 ?_
  refine lv_iload_n hx hb d_WM_partPot_36 rfl (lv_at hl 4 rfl) ?_
  refine lv_icmp_ne (tgt := 43) hx hb d_WM_partPot_37 (by decide) (fun _ => ?_) (fun h => absurd h (by decide +kernel))
  refine lv_iinc (v := 34) (lv' := [(3, .int 34), (4, .ref q_133), (2, .int 0), (0, .ref (a 0)), (1, .int 0)]) hx hb d_WM_partPot_43 hl (k := 1) rfl (by decide +kernel) (by decide) rfl (fun ls hl => ?_)
  refine lv_goto (tgt := 12) hx hb d_WM_partPot_46 (by decide) ?_
  refine lv_iload_n hx hb d_WM_partPot_12 rfl (lv_at hl 0 rfl) ?_
  refine lv_bipush (v := 40) hx hb d_WM_partPot_13 (by decide +kernel) ?_
  refine lv_icmp_ge (tgt := 49) hx hb d_WM_partPot_15 (by decide) (fun h => absurd h (by decide +kernel)) (fun _ => ?_)
  refine lv_aload_n hx hb d_WM_partPot_18 rfl (lv_at hl 3 rfl) ?_
  refine va_get (D := (dC, dI)) (ci := 0) (v := .ref (a 6)) (C := R_WM) (T := F_WM) (N := 13) hx hb htb i_WM hown hK hP 0 rfl rfl 1 (by decide) (htb (.fieldLink R_WM 18 "WaterMen" "men" "[LWaterMen$Man;") tw_51) (fun _ h9 => h9) rfl d_WM_partPot_19 ?_
  refine lv_iload_n hx hb d_WM_partPot_22 rfl (lv_at hl 0 rfl) ?_
  refine va_aldq hx hb hK hP 6 4 rfl rfl (by unfold vp_in; decide +kernel) d_WM_partPot_23 ?_
  obtain ⟨q_137, x_138, hq_139, hk_140⟩ := xw_man (a := a) (k := k) (i := 34) hL (by unfold vp_in; decide +kernel)
  refine hb_tv (.ref q_137) (by show va_rf (L[_]?) = _; rw [hq_139]; rfl) ?_
  refine lv_astore (lv' := [(4, .ref q_137), (3, .int 34), (2, .int 0), (0, .ref (a 0)), (1, .int 0)]) hx hb d_WM_partPot_24 hl (by decide) rfl (fun ls hl => ?_)
  refine lv_aload hx hb d_WM_partPot_26 (lv_at hl 0 rfl) ?_
  refine lv_ifnull hx hb d_WM_partPot_28 ?_
  refine lv_aload hx hb d_WM_partPot_31 (lv_at hl 0 rfl) ?_
  refine va_get (D := (dC, dI)) (ci := 2) (v := .int (-1)) (C := R_Mn) (T := F_Mn) (N := 8) hx hb htb i_Mn hown hK hP x_138 hk_140 rfl 7 (by decide) (htb (.fieldLink R_WM 394 "WaterMen$Man" "lastSunday" "I") tw_138) (fun _ h9 => h9) rfl d_WM_partPot_33 ?_
  refine lv_iload_n hx hb d_WM_partPot_36 rfl (lv_at hl 4 rfl) ?_
  refine lv_icmp_ne (tgt := 43) hx hb d_WM_partPot_37 (by decide) (fun _ => ?_) (fun h => absurd h (by decide +kernel))
  refine lv_iinc (v := 35) (lv' := [(3, .int 35), (4, .ref q_137), (2, .int 0), (0, .ref (a 0)), (1, .int 0)]) hx hb d_WM_partPot_43 hl (k := 1) rfl (by decide +kernel) (by decide) rfl (fun ls hl => ?_)
  refine lv_goto (tgt := 12) hx hb d_WM_partPot_46 (by decide) ?_
  refine lv_iload_n hx hb d_WM_partPot_12 rfl (lv_at hl 0 rfl) ?_
  refine lv_bipush (v := 40) hx hb d_WM_partPot_13 (by decide +kernel) ?_
  refine lv_icmp_ge (tgt := 49) hx hb d_WM_partPot_15 (by decide) (fun h => absurd h (by decide +kernel)) (fun _ => ?_)
  refine lv_aload_n hx hb d_WM_partPot_18 rfl (lv_at hl 3 rfl) ?_
  refine va_get (D := (dC, dI)) (ci := 0) (v := .ref (a 6)) (C := R_WM) (T := F_WM) (N := 13) hx hb htb i_WM hown hK hP 0 rfl rfl 1 (by decide) (htb (.fieldLink R_WM 18 "WaterMen" "men" "[LWaterMen$Man;") tw_51) (fun _ h9 => h9) rfl d_WM_partPot_19 ?_
  refine lv_iload_n hx hb d_WM_partPot_22 rfl (lv_at hl 0 rfl) ?_
  refine va_aldq hx hb hK hP 6 4 rfl rfl (by unfold vp_in; decide +kernel) d_WM_partPot_23 ?_
  obtain ⟨q_141, x_142, hq_143, hk_144⟩ := xw_man (a := a) (k := k) (i := 35) hL (by unfold vp_in; decide +kernel)
  refine hb_tv (.ref q_141) (by show va_rf (L[_]?) = _; rw [hq_143]; rfl) ?_
  refine lv_astore (lv' := [(4, .ref q_141), (3, .int 35), (2, .int 0), (0, .ref (a 0)), (1, .int 0)]) hx hb d_WM_partPot_24 hl (by decide) rfl (fun ls hl => ?_)
  refine lv_aload hx hb d_WM_partPot_26 (lv_at hl 0 rfl) ?_
  refine lv_ifnull hx hb d_WM_partPot_28 ?_
  refine lv_aload hx hb d_WM_partPot_31 (lv_at hl 0 rfl) ?_
  refine va_get (D := (dC, dI)) (ci := 2) (v := .int (-1)) (C := R_Mn) (T := F_Mn) (N := 8) hx hb htb i_Mn hown hK hP x_142 hk_144 rfl 7 (by decide) (htb (.fieldLink R_WM 394 "WaterMen$Man" "lastSunday" "I") tw_138) (fun _ h9 => h9) rfl d_WM_partPot_33 ?_
  refine lv_iload_n hx hb d_WM_partPot_36 rfl (lv_at hl 4 rfl) ?_
  refine lv_icmp_ne (tgt := 43) hx hb d_WM_partPot_37 (by decide) (fun _ => ?_) (fun h => absurd h (by decide +kernel))
  refine lv_iinc (v := 36) (lv' := [(3, .int 36), (4, .ref q_141), (2, .int 0), (0, .ref (a 0)), (1, .int 0)]) hx hb d_WM_partPot_43 hl (k := 1) rfl (by decide +kernel) (by decide) rfl (fun ls hl => ?_)
  refine lv_goto (tgt := 12) hx hb d_WM_partPot_46 (by decide) ?_
  refine lv_iload_n hx hb d_WM_partPot_12 rfl (lv_at hl 0 rfl) ?_
  refine lv_bipush (v := 40) hx hb d_WM_partPot_13 (by decide +kernel) ?_
  refine lv_icmp_ge (tgt := 49) hx hb d_WM_partPot_15 (by decide) (fun h => absurd h (by decide +kernel)) (fun _ => ?_)
  refine lv_aload_n hx hb d_WM_partPot_18 rfl (lv_at hl 3 rfl) ?_
  refine va_get (D := (dC, dI)) (ci := 0) (v := .ref (a 6)) (C := R_WM) (T := F_WM) (N := 13) hx hb htb i_WM hown hK hP 0 rfl rfl 1 (by decide) (htb (.fieldLink R_WM 18 "WaterMen" "men" "[LWaterMen$Man;") tw_51) (fun _ h9 => h9) rfl d_WM_partPot_19 ?_
  refine lv_iload_n hx hb d_WM_partPot_22 rfl (lv_at hl 0 rfl) ?_
  refine va_aldq hx hb hK hP 6 4 rfl rfl (by unfold vp_in; decide +kernel) d_WM_partPot_23 ?_
  obtain ⟨q_145, x_146, hq_147, hk_148⟩ := xw_man (a := a) (k := k) (i := 36) hL (by unfold vp_in; decide +kernel)
  refine hb_tv (.ref q_145) (by show va_rf (L[_]?) = _; rw [hq_147]; rfl) ?_
  refine lv_astore (lv' := [(4, .ref q_145), (3, .int 36), (2, .int 0), (0, .ref (a 0)), (1, .int 0)]) hx hb d_WM_partPot_24 hl (by decide) rfl (fun ls hl => ?_)
  refine lv_aload hx hb d_WM_partPot_26 (lv_at hl 0 rfl) ?_
  refine lv_ifnull hx hb d_WM_partPot_28 ?_
  refine lv_aload hx hb d_WM_partPot_31 (lv_at hl 0 rfl) ?_
  refine va_get (D := (dC, dI)) (ci := 2) (v := .int (-1)) (C := R_Mn) (T := F_Mn) (N := 8) hx hb htb i_Mn hown hK hP x_146 hk_148 rfl 7 (by decide) (htb (.fieldLink R_WM 394 "WaterMen$Man" "lastSunday" "I") tw_138) (fun _ h9 => h9) rfl d_WM_partPot_33 ?_
  refine lv_iload_n hx hb d_WM_partPot_36 rfl (lv_at hl 4 rfl) ?_
  refine lv_icmp_ne (tgt := 43) hx hb d_WM_partPot_37 (by decide) (fun _ => ?_) (fun h => absurd h (by decide +kernel))
  refine lv_iinc (v := 37) (lv' := [(3, .int 37), (4, .ref q_145), (2, .int 0), (0, .ref (a 0)), (1, .int 0)]) hx hb d_WM_partPot_43 hl (k := 1) rfl (by decide +kernel) (by decide) rfl (fun ls hl => ?_)
  refine lv_goto (tgt := 12) hx hb d_WM_partPot_46 (by decide) ?_
  refine lv_iload_n hx hb d_WM_partPot_12 rfl (lv_at hl 0 rfl) ?_
  refine lv_bipush (v := 40) hx hb d_WM_partPot_13 (by decide +kernel) ?_
  refine lv_icmp_ge (tgt := 49) hx hb d_WM_partPot_15 (by decide) (fun h => absurd h (by decide +kernel)) (fun _ => ?_)
  refine lv_aload_n hx hb d_WM_partPot_18 rfl (lv_at hl 3 rfl) ?_
  refine va_get (D := (dC, dI)) (ci := 0) (v := .ref (a 6)) (C := R_WM) (T := F_WM) (N := 13) hx hb htb i_WM hown hK hP 0 rfl rfl 1 (by decide) (htb (.fieldLink R_WM 18 "WaterMen" "men" "[LWaterMen$Man;") tw_51) (fun _ h9 => h9) rfl d_WM_partPot_19 ?_
  refine lv_iload_n hx hb d_WM_partPot_22 rfl (lv_at hl 0 rfl) ?_
  refine va_aldq hx hb hK hP 6 4 rfl rfl (by unfold vp_in; decide +kernel) d_WM_partPot_23 ?_
  obtain ⟨q_149, x_150, hq_151, hk_152⟩ := xw_man (a := a) (k := k) (i := 37) hL (by unfold vp_in; decide +kernel)
  refine hb_tv (.ref q_149) (by show va_rf (L[_]?) = _; rw [hq_151]; rfl) ?_
  refine lv_astore (lv' := [(4, .ref q_149), (3, .int 37), (2, .int 0), (0, .ref (a 0)), (1, .int 0)]) hx hb d_WM_partPot_24 hl (by decide) rfl (fun ls hl => ?_)
  refine lv_aload hx hb d_WM_partPot_26 (lv_at hl 0 rfl) ?_
  refine lv_ifnull hx hb d_WM_partPot_28 ?_
  refine lv_aload hx hb d_WM_partPot_31 (lv_at hl 0 rfl) ?_
  refine va_get (D := (dC, dI)) (ci := 2) (v := .int (-1)) (C := R_Mn) (T := F_Mn) (N := 8) hx hb htb i_Mn hown hK hP x_150 hk_152 rfl 7 (by decide) (htb (.fieldLink R_WM 394 "WaterMen$Man" "lastSunday" "I") tw_138) (fun _ h9 => h9) rfl d_WM_partPot_33 ?_
  refine lv_iload_n hx hb d_WM_partPot_36 rfl (lv_at hl 4 rfl) ?_
  refine lv_icmp_ne (tgt := 43) hx hb d_WM_partPot_37 (by decide) (fun _ => ?_) (fun h => absurd h (by decide +kernel))
  refine lv_iinc (v := 38) (lv' := [(3, .int 38), (4, .ref q_149), (2, .int 0), (0, .ref (a 0)), (1, .int 0)]) hx hb d_WM_partPot_43 hl (k := 1) rfl (by decide +kernel) (by decide) rfl (fun ls hl => ?_)
  refine lv_goto (tgt := 12) hx hb d_WM_partPot_46 (by decide) ?_
  refine lv_iload_n hx hb d_WM_partPot_12 rfl (lv_at hl 0 rfl) ?_
  refine lv_bipush (v := 40) hx hb d_WM_partPot_13 (by decide +kernel) ?_
  refine lv_icmp_ge (tgt := 49) hx hb d_WM_partPot_15 (by decide) (fun h => absurd h (by decide +kernel)) (fun _ => ?_)
  refine lv_aload_n hx hb d_WM_partPot_18 rfl (lv_at hl 3 rfl) ?_
  refine va_get (D := (dC, dI)) (ci := 0) (v := .ref (a 6)) (C := R_WM) (T := F_WM) (N := 13) hx hb htb i_WM hown hK hP 0 rfl rfl 1 (by decide) (htb (.fieldLink R_WM 18 "WaterMen" "men" "[LWaterMen$Man;") tw_51) (fun _ h9 => h9) rfl d_WM_partPot_19 ?_
  refine lv_iload_n hx hb d_WM_partPot_22 rfl (lv_at hl 0 rfl) ?_
  refine va_aldq hx hb hK hP 6 4 rfl rfl (by unfold vp_in; decide +kernel) d_WM_partPot_23 ?_
  obtain ⟨q_153, x_154, hq_155, hk_156⟩ := xw_man (a := a) (k := k) (i := 38) hL (by unfold vp_in; decide +kernel)
  refine hb_tv (.ref q_153) (by show va_rf (L[_]?) = _; rw [hq_155]; rfl) ?_
  refine lv_astore (lv' := [(4, .ref q_153), (3, .int 38), (2, .int 0), (0, .ref (a 0)), (1, .int 0)]) hx hb d_WM_partPot_24 hl (by decide) rfl (fun ls hl => ?_)
  refine lv_aload hx hb d_WM_partPot_26 (lv_at hl 0 rfl) ?_
  refine lv_ifnull hx hb d_WM_partPot_28 ?_
  refine lv_aload hx hb d_WM_partPot_31 (lv_at hl 0 rfl) ?_
  refine va_get (D := (dC, dI)) (ci := 2) (v := .int (-1)) (C := R_Mn) (T := F_Mn) (N := 8) hx hb htb i_Mn hown hK hP x_154 hk_156 rfl 7 (by decide) (htb (.fieldLink R_WM 394 "WaterMen$Man" "lastSunday" "I") tw_138) (fun _ h9 => h9) rfl d_WM_partPot_33 ?_
  refine lv_iload_n hx hb d_WM_partPot_36 rfl (lv_at hl 4 rfl) ?_
  refine lv_icmp_ne (tgt := 43) hx hb d_WM_partPot_37 (by decide) (fun _ => ?_) (fun h => absurd h (by decide +kernel))
  refine lv_iinc (v := 39) (lv' := [(3, .int 39), (4, .ref q_153), (2, .int 0), (0, .ref (a 0)), (1, .int 0)]) hx hb d_WM_partPot_43 hl (k := 1) rfl (by decide +kernel) (by decide) rfl (fun ls hl => ?_)
  refine lv_goto (tgt := 12) hx hb d_WM_partPot_46 (by decide) ?_
  refine lv_iload_n hx hb d_WM_partPot_12 rfl (lv_at hl 0 rfl) ?_
  refine lv_bipush (v := 40) hx hb d_WM_partPot_13 (by decide +kernel) ?_
  refine lv_icmp_ge (tgt := 49) hx hb d_WM_partPot_15 (by decide) (fun h => absurd h (by decide +kernel)) (fun _ => ?_)
  refine lv_aload_n hx hb d_WM_partPot_18 rfl (lv_at hl 3 rfl) ?_
  refine va_get (D := (dC, dI)) (ci := 0) (v := .ref (a 6)) (C := R_WM) (T := F_WM) (N := 13) hx hb htb i_WM hown hK hP 0 rfl rfl 1 (by decide) (htb (.fieldLink R_WM 18 "WaterMen" "men" "[LWaterMen$Man;") tw_51) (fun _ h9 => h9) rfl d_WM_partPot_19 ?_
  refine lv_iload_n hx hb d_WM_partPot_22 rfl (lv_at hl 0 rfl) ?_
  refine va_aldq hx hb hK hP 6 4 rfl rfl (by unfold vp_in; decide +kernel) d_WM_partPot_23 ?_
  obtain ⟨q_157, x_158, hq_159, hk_160⟩ := xw_man (a := a) (k := k) (i := 39) hL (by unfold vp_in; decide +kernel)
  refine hb_tv (.ref q_157) (by show va_rf (L[_]?) = _; rw [hq_159]; rfl) ?_
  refine lv_astore (lv' := [(4, .ref q_157), (3, .int 39), (2, .int 0), (0, .ref (a 0)), (1, .int 0)]) hx hb d_WM_partPot_24 hl (by decide) rfl (fun ls hl => ?_)
  refine lv_aload hx hb d_WM_partPot_26 (lv_at hl 0 rfl) ?_
  refine lv_ifnull hx hb d_WM_partPot_28 ?_
  refine lv_aload hx hb d_WM_partPot_31 (lv_at hl 0 rfl) ?_
  refine va_get (D := (dC, dI)) (ci := 2) (v := .int (-1)) (C := R_Mn) (T := F_Mn) (N := 8) hx hb htb i_Mn hown hK hP x_158 hk_160 rfl 7 (by decide) (htb (.fieldLink R_WM 394 "WaterMen$Man" "lastSunday" "I") tw_138) (fun _ h9 => h9) rfl d_WM_partPot_33 ?_
  refine lv_iload_n hx hb d_WM_partPot_36 rfl (lv_at hl 4 rfl) ?_
  refine lv_icmp_ne (tgt := 43) hx hb d_WM_partPot_37 (by decide) (fun _ => ?_) (fun h => absurd h (by decide +kernel))
  refine lv_iinc (v := 40) (lv' := [(3, .int 40), (4, .ref q_157), (2, .int 0), (0, .ref (a 0)), (1, .int 0)]) hx hb d_WM_partPot_43 hl (k := 1) rfl (by decide +kernel) (by decide) rfl (fun ls hl => ?_)
  refine lv_goto (tgt := 12) hx hb d_WM_partPot_46 (by decide) ?_
  refine lv_iload_n hx hb d_WM_partPot_12 rfl (lv_at hl 0 rfl) ?_
  refine lv_bipush (v := 40) hx hb d_WM_partPot_13 (by decide +kernel) ?_
  refine lv_icmp_ge (tgt := 49) hx hb d_WM_partPot_15 (by decide) (fun _ => ?_) (fun h => absurd (by decide +kernel) h)
  refine lv_iload_n hx hb d_WM_partPot_49 rfl (lv_at hl 2 rfl) ?_
  refine lv_if_ne (tgt := 54) hx hb d_WM_partPot_50 (by decide) (fun h => absurd (by decide +kernel) h) (fun _ => ?_)
  exact W.vret hx hb hr (fun t ht hW => ⟨rfl, trivial, ht⟩) t_nil d_WM_partPot_53
