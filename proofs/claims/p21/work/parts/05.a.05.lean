def WL_Tp_step_t_8_3 : List (Nat × Nat) := [(10, 3)]
def W_Tp_step_t : List (Nat × Nat) := [(10, 2), (10, 3), (10, 4), (10, 5)]
set_option maxHeartbeats 4000000 in
set_option maxRecDepth 100000 in
theorem c_Tp_step_t (l : Launch) (dC : Nat → ClassId) (dI : Nat → Nat → Nat) (ct : Nat → ClassId) (L : List Nat) (f : TF) (hO_0 : Ok L f) (q0 : Nat) (m0 : q0 ∈ L ∧ tk f q0 = 10) (sz : Nat)    : Met l y_Tp_step (.code y_Tp_step b_Tp_step 1 none :: TB) ({ frames := 2, cells := 0, slots := 0, locals := 40 }) (va_Pc [.ref q0] (PC dC dI (TW ct L f) (TT ct) sz)) (va_Qv (fun (u : TSt) => Ok u.1 u.2 ∧ Ext W_Tp_step_t L f u.1 u.2 ∧ (True)) (fun (u : TSt) t => va_P (dC, dI) vwCl (TW ct u.1 u.2) t.heap ∧ va_K (dC, dI) vwCl (TT ct) t ∧ va_D (va_A (TW ct L f) sz) (TW ct u.1 u.2)) (va_A (TW ct L f) sz)) 0 0 (va_A (TW ct L f) sz) := by
  refine Met.ofW (cc := b_Tp_step) (maxL := 1) (ret := none) (by decide) rfl ?_
  intro p e s m args below meth c s₁ B hml hv
  obtain ⟨rfl, hsz, hP, hK, hD0, hN⟩ := hv
  have hx := B.exec
  have hb := B.bytes
  have hr := B.returns
  have hts := atoms_spec (ws := (.code y_Tp_step b_Tp_step 1 none :: TB)) B.pre
  have htb := fun w (h : w ∈ TB) => hts w (List.mem_cons_of_mem _ h)
  have hown : s.vm.findClass R_Tp = some m.cls := findClass_of_methodNamed B.named
  have hlocks := B.notSynchronized
  have hl := lv_entry ([.ref q0]) (n := 1) (Nat.le_of_ble_eq_true rfl)
  rw [lg_entry_eq]
  generalize (lg_sl ([.ref q0]) ++ List.replicate (1 - (lg_sl ([.ref q0])).length) Slot.unset).toArray = ls at hl ⊢
  have hl : lv_has ls 1 [(0, .ref q0)] := hl
  subst hsz
  have hD := hD0.self (sz := s.heap.size)
  obtain ⟨A, hAe⟩ : ∃ A, va_A (TW ct L f) s.heap.size = A := ⟨_, rfl⟩
  rw [hAe] at hD
  have hA : ∀ q : Nat, s.heap.size ≤ q → A q := fun q h => by rw [← hAe]; exact Or.inr h
  have hS : va_S A s.heap s.heap [] := va_S.rf
  have hA_0 : Ext [] L f L f := Ext.rf
  suffices hGo : ∀ (H : Heap) (locs : List Loc), va_P (dC, dI) vwCl (TW ct L f) H → va_S A s.heap H locs → W p l e (headSpec (.code y_Tp_step b_Tp_step 1 none :: TB) ({ frames := 2, cells := 0, slots := 0, locals := 40 })).room s m [.ref q0].toArray below meth c H locs 0 0 (MQ below (va_Qv (fun (u : TSt) => Ok u.1 u.2 ∧ Ext W_Tp_step_t L f u.1 u.2 ∧ (True)) (fun (u : TSt) t => va_P (dC, dI) vwCl (TW ct u.1 u.2) t.heap ∧ va_K (dC, dI) vwCl (TT ct) t ∧ va_D (va_A (TW ct L f) s.heap.size) (TW ct u.1 u.2)) (va_A (TW ct L f) s.heap.size)) [.ref q0].toArray s 0 0 (va_A (TW ct L f) s.heap.size)) (F0 m 0 ls []) from hGo _ _ hP hS
  clear hP hS
  intro H locs hP hS
  refine lv_aload_n hx hb d_Tp_step_0 rfl (lv_at hl 0 rfl) ?_
  refine lv_aload_n hx hb d_Tp_step_1 rfl (lv_at hl 0 rfl) ?_
  refine tw_geti (D := (dC, dI)) (C := R_Tp) (T := F_Tp) (N := 6) (ci := 4) (kd := 10) (ct := ct) hx hb htb i_Tp hown hK hP hO_0 m0 rfl rfl 4 (by decide) (htb (.fieldLink R_Tp 24 "WaterMen$Tape" "behind" "I") tw_120) (fun _ h9 => h9) rfl d_Tp_step_2 (fun x_1 e_1 b_1 => ?_)
  refine tw_puti (v := x_1) (D := (dC, dI)) (C := R_Tp) (T := F_Tp) (N := 6) (ci := 4) (kd := 10) (ct := ct) (ty := .int) hx hb htb i_Tp t_Tp t_Tp_ok n_Tp hown hK hP hD hS hO_0 m0 rfl rfl 3 (by decide) (htb (.fieldLink R_Tp 34 "WaterMen$Tape" "start" "I") tw_121) (fun _ h9 => h9) rfl (by decide +kernel) rfl rfl rfl ⟨b_1.1, b_1.2⟩ d_Tp_step_5 (fun f_1 H locs hP hD hS hO_1 hE_1 w_2 hF_1 => ?_)
  have hA_1 := hA_0.trans hE_1
  have cut_3 : ∀ (n_3 : Nat) (L_2 : List Nat) (f_2 : TF) (H : Heap) (locs : List Loc) (ls : Array Slot), va_P (dC, dI) vwCl (TW ct L_2 f_2) H → va_D A (TW ct L_2 f_2) → va_S A s.heap H locs → Ok L_2 f_2 → Ext WL_Tp_step_t_8_3 L f_1 L_2 f_2 → (400 : Int32).toInt - ((ti f_2 q0 3) : Int32).toInt ≤ (n_3 : Int) → lv_has ls 1 [(0, .ref q0)] → W p l e (headSpec (.code y_Tp_step b_Tp_step 1 none :: TB) ({ frames := 2, cells := 0, slots := 0, locals := 40 })).room s m [.ref q0].toArray below meth c H locs 0 0 (MQ below (va_Qv (fun (u : TSt) => Ok u.1 u.2 ∧ Ext W_Tp_step_t L f u.1 u.2 ∧ (True)) (fun (u : TSt) t => va_P (dC, dI) vwCl (TW ct u.1 u.2) t.heap ∧ va_K (dC, dI) vwCl (TT ct) t ∧ va_D (va_A (TW ct L f) s.heap.size) (TW ct u.1 u.2)) (va_A (TW ct L f) s.heap.size)) [.ref q0].toArray s 0 0 (va_A (TW ct L f) s.heap.size)) (F0 m 8 ls []) := by
    intro n_3
    induction n_3 using Nat.strongRecOn with
    | _ n_3 ih_3 =>
      intro L_2 f_2 H locs ls hP hD hS hO_2 hE_2 hm_3 hl
      have hA_2 := hA_1.trans hE_2
      have bf_4 := hO_2.i (hA_2.m m0) (show slotD 10 3 = some (.inl (0, 400)) from rfl)
      refine lv_aload_n hx hb d_Tp_step_8 rfl (lv_at hl 0 rfl) ?_
      refine tw_getI (x := (ti f_2 q0 3)) (D := (dC, dI)) (C := R_Tp) (T := F_Tp) (N := 6) (ci := 4) (kd := 10) (ct := ct) hx hb htb i_Tp hown hK hP (hA_2.m m0) rfl rfl 3 rfl (by decide) (htb (.fieldLink R_Tp 34 "WaterMen$Tape" "start" "I") tw_121) (fun _ h9 => h9) rfl d_Tp_step_9 ?_
      refine lv_aload_n hx hb d_Tp_step_12 rfl (lv_at hl 0 rfl) ?_
      refine tw_geti (D := (dC, dI)) (C := R_Tp) (T := F_Tp) (N := 6) (ci := 4) (kd := 10) (ct := ct) hx hb htb i_Tp hown hK hP hO_2 (hA_2.m m0) rfl rfl 1 (by decide) (htb (.fieldLink R_Tp 15 "WaterMen$Tape" "length" "I") tw_117) (fun _ h9 => h9) rfl d_Tp_step_13 (fun x_5 e_5 b_5 => ?_)
      refine lv_icmp_ge (tgt := 46) hx hb d_Tp_step_16 (by decide) (fun c_6 => ?_) (fun c_6 => ?_)
      · refine lv_aload_n hx hb d_Tp_step_46 rfl (lv_at hl 0 rfl) ?_
        refine lv_aload_n hx hb d_Tp_step_47 rfl (lv_at hl 0 rfl) ?_
        refine tw_getI (x := (ti f_2 q0 3)) (D := (dC, dI)) (C := R_Tp) (T := F_Tp) (N := 6) (ci := 4) (kd := 10) (ct := ct) hx hb htb i_Tp hown hK hP (hA_2.m m0) rfl rfl 3 rfl (by decide) (htb (.fieldLink R_Tp 34 "WaterMen$Tape" "start" "I") tw_121) (fun _ h9 => h9) rfl d_Tp_step_48 ?_
        refine tw_puti (v := (ti f_2 q0 3)) (D := (dC, dI)) (C := R_Tp) (T := F_Tp) (N := 6) (ci := 4) (kd := 10) (ct := ct) (ty := .int) hx hb htb i_Tp t_Tp t_Tp_ok n_Tp hown hK hP hD hS hO_2 (hA_2.m m0) rfl rfl 4 (by decide) (htb (.fieldLink R_Tp 24 "WaterMen$Tape" "behind" "I") tw_120) (fun _ h9 => h9) rfl (by decide +kernel) rfl rfl rfl ⟨bf_4.1, bf_4.2⟩ d_Tp_step_51 (fun f_3 H locs hP hD hS hO_3 hE_3 w_7 hF_3 => ?_)
        have hA_3 := hA_2.trans hE_3
        refine lv_aload_n hx hb d_Tp_step_54 rfl (lv_at hl 0 rfl) ?_
        refine lv_iconst (v := 0) hx hb d_Tp_step_55 (by decide +kernel) ?_
        refine tw_puti (v := 0) (D := (dC, dI)) (C := R_Tp) (T := F_Tp) (N := 6) (ci := 4) (kd := 10) (ct := ct) (ty := .int) hx hb htb i_Tp t_Tp t_Tp_ok n_Tp hown hK hP hD hS hO_3 (hA_3.m m0) rfl rfl 5 (by decide) (htb (.fieldLink R_Tp 48 "WaterMen$Tape" "value" "I") tw_122) (fun _ h9 => h9) rfl (by decide +kernel) rfl rfl rfl (i32_full _) d_Tp_step_56 (fun f_4 H locs hP hD hS hO_4 hE_4 w_8 hF_4 => ?_)
        have hA_4 := hA_3.trans hE_4
        refine lv_aload_n hx hb d_Tp_step_59 rfl (lv_at hl 0 rfl) ?_
        refine tw_getI (x := (ti f_2 q0 3)) (D := (dC, dI)) (C := R_Tp) (T := F_Tp) (N := 6) (ci := 4) (kd := 10) (ct := ct) hx hb htb i_Tp hown hK hP (hA_4.m m0) rfl rfl 3 ((hE_4.ei (hA_3.m m0) rfl).trans ((hE_3.ei (hA_2.m m0) rfl).trans rfl)) (by decide) (htb (.fieldLink R_Tp 34 "WaterMen$Tape" "start" "I") tw_121) (fun _ h9 => h9) rfl d_Tp_step_60 ?_
        refine lv_aload_n hx hb d_Tp_step_63 rfl (lv_at hl 0 rfl) ?_
        refine tw_getI (x := x_5) (D := (dC, dI)) (C := R_Tp) (T := F_Tp) (N := 6) (ci := 4) (kd := 10) (ct := ct) hx hb htb i_Tp hown hK hP (hA_4.m m0) rfl rfl 1 ((hE_4.ei (hA_3.m m0) rfl).trans ((hE_3.ei (hA_2.m m0) rfl).trans e_5)) (by decide) (htb (.fieldLink R_Tp 15 "WaterMen$Tape" "length" "I") tw_117) (fun _ h9 => h9) rfl d_Tp_step_64 ?_
        refine lv_icmp_lt (tgt := 78) hx hb d_Tp_step_67 (by decide) (fun h => absurd h (show ¬ ((ti f_2 q0 3) < x_5) from ((fun (a_0 : Int32) (a_1 : Int32) (k_0 : a_1 ≤ a_0) => (show ¬ (a_0 < a_1) from by have r0 := fb_rng (a_0); have r1 := fb_rng (a_1); have e0 := k_0; rw [Int32.le_iff_toInt_le] at e0; rw [Int32.lt_iff_toInt_lt]; omega)) (ti f_2 q0 3) x_5 c_6))) (fun _ => ?_)
        refine lv_aload_n hx hb d_Tp_step_70 rfl (lv_at hl 0 rfl) ?_
        refine lv_iconst (v := 0) hx hb d_Tp_step_71 (by decide +kernel) ?_
        refine tw_puti (v := 0) (D := (dC, dI)) (C := R_Tp) (T := F_Tp) (N := 6) (ci := 4) (kd := 10) (ct := ct) (ty := .int) hx hb htb i_Tp t_Tp t_Tp_ok n_Tp hown hK hP hD hS hO_4 (hA_4.m m0) rfl rfl 2 (by decide) (htb (.fieldLink R_Tp 37 "WaterMen$Tape" "sort" "I") tw_119) (fun _ h9 => h9) rfl (by decide +kernel) rfl rfl rfl (i32_full _) d_Tp_step_72 (fun f_5 H locs hP hD hS hO_5 hE_5 w_9 hF_5 => ?_)
        have hA_5 := hA_4.trans hE_5
        refine lv_goto (tgt := 182) hx hb d_Tp_step_75 (by decide) ?_
        refine W.widen (k := 0) (n := 0) (Nat.le_of_ble_eq_true rfl) (Nat.le_of_ble_eq_true rfl) ?_
        exact W.vret hx hb hr (fun t ht hW => ⟨⟨(L_2, f_5), rfl, ⟨hO_5, hA_5.mono (by decide +kernel), trivial⟩, by rw [ht]; exact hP, va_K.moved hW.alike hK, by rw [hAe]; exact hD⟩, by rw [hAe]; exact hS.F ht⟩) (by rw [hAe]; exact hS.2.2) d_Tp_step_182
      · refine lv_aload_n hx hb d_Tp_step_19 rfl (lv_at hl 0 rfl) ?_
        refine tw_getr (D := (dC, dI)) (C := R_Tp) (T := F_Tp) (N := 6) (ci := 4) (kd := 10) (ct := ct) hx hb htb i_Tp hown hK hP hO_2 (hA_2.m m0) rfl rfl 0 (by decide) (htb (.fieldLink R_Tp 9 "WaterMen$Tape" "bytes" "[B") tw_118) (fun _ h9 => h9) rfl d_Tp_step_20 (fun q_10 e_10 m_10 => ?_)
        refine lv_aload_n hx hb d_Tp_step_23 rfl (lv_at hl 0 rfl) ?_
        refine tw_getI (x := (ti f_2 q0 3)) (D := (dC, dI)) (C := R_Tp) (T := F_Tp) (N := 6) (ci := 4) (kd := 10) (ct := ct) hx hb htb i_Tp hown hK hP (hA_2.m m0) rfl rfl 3 rfl (by decide) (htb (.fieldLink R_Tp 34 "WaterMen$Tape" "start" "I") tw_121) (fun _ h9 => h9) rfl d_Tp_step_24 ?_
        refine tw_aldB (ct := ct) hx hb hK hP hO_2 m_10 rfl ((fun (a_0 : Int32) (a_1 : Int32) (k_0 : ¬ (a_0 < 0)) (k_1 : ¬ (a_1 ≤ a_0)) (k_2 : ¬ (400 < a_1)) => (show vp_in (a_0) 400 from by have z0 : (0 : Int32).toInt = 0 := (by decide +kernel); have z1 : (400 : Int32).toInt = 400 := (by decide +kernel); have r0 := fb_rng (a_0); have r1 := fb_rng (a_1); have e0 := k_0; rw [Int32.lt_iff_toInt_lt, z0] at e0; have e1 := k_1; rw [Int32.le_iff_toInt_le] at e1; have e2 := k_2; rw [Int32.lt_iff_toInt_lt, z1] at e2; rw [vp_in_iff]; omega)) (ti f_2 q0 3) x_5 bf_4.1 c_6 b_5.2) d_Tp_step_27 (fun x_11 e_11 b_11 => ?_)
        refine lv_bipush (v := 32) hx hb d_Tp_step_28 (by decide +kernel) ?_
        refine lv_icmp_ne (tgt := 46) hx hb d_Tp_step_30 (by decide) (fun c_12 => ?_) (fun c_12 => ?_)
        · refine lv_aload_n hx hb d_Tp_step_46 rfl (lv_at hl 0 rfl) ?_
          refine lv_aload_n hx hb d_Tp_step_47 rfl (lv_at hl 0 rfl) ?_
          refine tw_getI (x := (ti f_2 q0 3)) (D := (dC, dI)) (C := R_Tp) (T := F_Tp) (N := 6) (ci := 4) (kd := 10) (ct := ct) hx hb htb i_Tp hown hK hP (hA_2.m m0) rfl rfl 3 rfl (by decide) (htb (.fieldLink R_Tp 34 "WaterMen$Tape" "start" "I") tw_121) (fun _ h9 => h9) rfl d_Tp_step_48 ?_
          refine tw_puti (v := (ti f_2 q0 3)) (D := (dC, dI)) (C := R_Tp) (T := F_Tp) (N := 6) (ci := 4) (kd := 10) (ct := ct) (ty := .int) hx hb htb i_Tp t_Tp t_Tp_ok n_Tp hown hK hP hD hS hO_2 (hA_2.m m0) rfl rfl 4 (by decide) (htb (.fieldLink R_Tp 24 "WaterMen$Tape" "behind" "I") tw_120) (fun _ h9 => h9) rfl (by decide +kernel) rfl rfl rfl ⟨bf_4.1, bf_4.2⟩ d_Tp_step_51 (fun f_3 H locs hP hD hS hO_3 hE_3 w_13 hF_3 => ?_)
          have hA_3 := hA_2.trans hE_3
          refine lv_aload_n hx hb d_Tp_step_54 rfl (lv_at hl 0 rfl) ?_
          refine lv_iconst (v := 0) hx hb d_Tp_step_55 (by decide +kernel) ?_
          refine tw_puti (v := 0) (D := (dC, dI)) (C := R_Tp) (T := F_Tp) (N := 6) (ci := 4) (kd := 10) (ct := ct) (ty := .int) hx hb htb i_Tp t_Tp t_Tp_ok n_Tp hown hK hP hD hS hO_3 (hA_3.m m0) rfl rfl 5 (by decide) (htb (.fieldLink R_Tp 48 "WaterMen$Tape" "value" "I") tw_122) (fun _ h9 => h9) rfl (by decide +kernel) rfl rfl rfl (i32_full _) d_Tp_step_56 (fun f_4 H locs hP hD hS hO_4 hE_4 w_14 hF_4 => ?_)
          have hA_4 := hA_3.trans hE_4
          refine lv_aload_n hx hb d_Tp_step_59 rfl (lv_at hl 0 rfl) ?_
          refine tw_getI (x := (ti f_2 q0 3)) (D := (dC, dI)) (C := R_Tp) (T := F_Tp) (N := 6) (ci := 4) (kd := 10) (ct := ct) hx hb htb i_Tp hown hK hP (hA_4.m m0) rfl rfl 3 ((hE_4.ei (hA_3.m m0) rfl).trans ((hE_3.ei (hA_2.m m0) rfl).trans rfl)) (by decide) (htb (.fieldLink R_Tp 34 "WaterMen$Tape" "start" "I") tw_121) (fun _ h9 => h9) rfl d_Tp_step_60 ?_
          refine lv_aload_n hx hb d_Tp_step_63 rfl (lv_at hl 0 rfl) ?_
          refine tw_getI (x := x_5) (D := (dC, dI)) (C := R_Tp) (T := F_Tp) (N := 6) (ci := 4) (kd := 10) (ct := ct) hx hb htb i_Tp hown hK hP (hA_4.m m0) rfl rfl 1 ((hE_4.ei (hA_3.m m0) rfl).trans ((hE_3.ei (hA_2.m m0) rfl).trans e_5)) (by decide) (htb (.fieldLink R_Tp 15 "WaterMen$Tape" "length" "I") tw_117) (fun _ h9 => h9) rfl d_Tp_step_64 ?_
          refine lv_icmp_lt (tgt := 78) hx hb d_Tp_step_67 (by decide) (fun _ => ?_) (fun h => absurd (show (ti f_2 q0 3) < x_5 from ((fun (a_0 : Int32) (a_1 : Int32) (k_0 : ¬ (a_1 ≤ a_0)) => (show a_0 < a_1 from by have r0 := fb_rng (a_0); have r1 := fb_rng (a_1); have e0 := k_0; rw [Int32.le_iff_toInt_le] at e0; rw [Int32.lt_iff_toInt_lt]; omega)) (ti f_2 q0 3) x_5 c_6)) h)
          refine lv_aload_n hx hb d_Tp_step_78 rfl (lv_at hl 0 rfl) ?_
          refine tw_getR (D := (dC, dI)) (C := R_Tp) (T := F_Tp) (N := 6) (ci := 4) (kd := 10) (ct := ct) hx hb htb i_Tp hown hK hP (hA_4.m m0) rfl rfl 0 ((hE_4.er (hA_3.m m0) rfl).trans ((hE_3.er (hA_2.m m0) rfl).trans e_10)) (by decide) (htb (.fieldLink R_Tp 9 "WaterMen$Tape" "bytes" "[B") tw_118) (fun _ h9 => h9) rfl d_Tp_step_79 ?_
          refine hb_tv (.ref q_10) rfl ?_
          refine lv_aload_n hx hb d_Tp_step_82 rfl (lv_at hl 0 rfl) ?_
          refine tw_getI (x := (ti f_2 q0 3)) (D := (dC, dI)) (C := R_Tp) (T := F_Tp) (N := 6) (ci := 4) (kd := 10) (ct := ct) hx hb htb i_Tp hown hK hP (hA_4.m m0) rfl rfl 3 ((hE_4.ei (hA_3.m m0) rfl).trans ((hE_3.ei (hA_2.m m0) rfl).trans rfl)) (by decide) (htb (.fieldLink R_Tp 34 "WaterMen$Tape" "start" "I") tw_121) (fun _ h9 => h9) rfl d_Tp_step_83 ?_
          refine tw_aldxB (ct := ct) (x := x_11) hx hb hK hP (hE_4.m (hE_3.m m_10)) rfl ((fun (a_0 : Int32) (a_1 : Int32) (k_0 : ¬ (a_0 < 0)) (k_1 : ¬ (a_1 ≤ a_0)) (k_2 : ¬ (400 < a_1)) => (show vp_in (a_0) 400 from by have z0 : (0 : Int32).toInt = 0 := (by decide +kernel); have z1 : (400 : Int32).toInt = 400 := (by decide +kernel); have r0 := fb_rng (a_0); have r1 := fb_rng (a_1); have e0 := k_0; rw [Int32.lt_iff_toInt_lt, z0] at e0; have e1 := k_1; rw [Int32.le_iff_toInt_le] at e1; have e2 := k_2; rw [Int32.lt_iff_toInt_lt, z1] at e2; rw [vp_in_iff]; omega)) (ti f_2 q0 3) x_5 bf_4.1 c_6 b_5.2) ((hE_4.ei (hE_3.m m_10) rfl).trans ((hE_3.ei m_10 rfl).trans e_11)) d_Tp_step_86 ?_
          refine vp_callSi (va_Run.run (va_runS (As := [.int x_11]) (rest := []) ⟨hx, hb, hml, hown, htb⟩ (c_Tp_isLetter l x_11) (cwS 1 htb (gd_S tw_125 tw_126 tw_124 tw_123) rfl rfl rfl (by decide +kernel) ⟨Nat.le_of_ble_eq_true rfl, Nat.le_of_ble_eq_true rfl⟩) ⟨fun _ _ _ _ h => h, fun U _ _ => ⟨rfl, trivial⟩⟩ rfl rfl hl.1 rfl (lv_room (Nat.le_of_ble_eq_true rfl)) d_Tp_step_87 ⟨Nat.le_of_ble_eq_true rfl, Nat.le_of_ble_eq_true rfl⟩)) (fun r er => ?_)
          subst er
          by_cases c_17 : x_11 < 97
          · refine hb_ti 0 (by unfold f_Tp_isLetter; rw [if_pos c_17]; first | done | rfl) ?_
            refine lv_if_eq (tgt := 105) hx hb d_Tp_step_90 (by decide) (fun _ => ?_) (fun h => absurd (by decide +kernel) h)
            refine lv_aload_n hx hb d_Tp_step_105 rfl (lv_at hl 0 rfl) ?_
            refine tw_getR (D := (dC, dI)) (C := R_Tp) (T := F_Tp) (N := 6) (ci := 4) (kd := 10) (ct := ct) hx hb htb i_Tp hown hK hP (hA_4.m m0) rfl rfl 0 ((hE_4.er (hA_3.m m0) rfl).trans ((hE_3.er (hA_2.m m0) rfl).trans e_10)) (by decide) (htb (.fieldLink R_Tp 9 "WaterMen$Tape" "bytes" "[B") tw_118) (fun _ h9 => h9) rfl d_Tp_step_106 ?_
            refine hb_tv (.ref q_10) rfl ?_
            refine lv_aload_n hx hb d_Tp_step_109 rfl (lv_at hl 0 rfl) ?_
            refine tw_getI (x := (ti f_2 q0 3)) (D := (dC, dI)) (C := R_Tp) (T := F_Tp) (N := 6) (ci := 4) (kd := 10) (ct := ct) hx hb htb i_Tp hown hK hP (hA_4.m m0) rfl rfl 3 ((hE_4.ei (hA_3.m m0) rfl).trans ((hE_3.ei (hA_2.m m0) rfl).trans rfl)) (by decide) (htb (.fieldLink R_Tp 34 "WaterMen$Tape" "start" "I") tw_121) (fun _ h9 => h9) rfl d_Tp_step_110 ?_
            refine tw_aldxB (ct := ct) (x := x_11) hx hb hK hP (hE_4.m (hE_3.m m_10)) rfl ((fun (a_0 : Int32) (a_1 : Int32) (k_0 : ¬ (a_0 < 0)) (k_1 : ¬ (a_1 ≤ a_0)) (k_2 : ¬ (400 < a_1)) => (show vp_in (a_0) 400 from by have z0 : (0 : Int32).toInt = 0 := (by decide +kernel); have z1 : (400 : Int32).toInt = 400 := (by decide +kernel); have r0 := fb_rng (a_0); have r1 := fb_rng (a_1); have e0 := k_0; rw [Int32.lt_iff_toInt_lt, z0] at e0; have e1 := k_1; rw [Int32.le_iff_toInt_le] at e1; have e2 := k_2; rw [Int32.lt_iff_toInt_lt, z1] at e2; rw [vp_in_iff]; omega)) (ti f_2 q0 3) x_5 bf_4.1 c_6 b_5.2) ((hE_4.ei (hE_3.m m_10) rfl).trans ((hE_3.ei m_10 rfl).trans e_11)) d_Tp_step_113 ?_
            refine vp_callSi (va_Run.run (va_runS (As := [.int x_11]) (rest := []) ⟨hx, hb, hml, hown, htb⟩ (c_Tp_isDigit l x_11) (cwS 1 htb (gd_S tw_128 tw_129 tw_124 tw_127) rfl rfl rfl (by decide +kernel) ⟨Nat.le_of_ble_eq_true rfl, Nat.le_of_ble_eq_true rfl⟩) ⟨fun _ _ _ _ h => h, fun U _ _ => ⟨rfl, trivial⟩⟩ rfl rfl hl.1 rfl (lv_room (Nat.le_of_ble_eq_true rfl)) d_Tp_step_114 ⟨Nat.le_of_ble_eq_true rfl, Nat.le_of_ble_eq_true rfl⟩)) (fun r er => ?_)
            subst er
            by_cases c_20 : x_11 < 48
            · refine hb_ti 0 (by unfold f_Tp_isDigit; rw [if_pos c_20]; first | done | rfl) ?_
              refine lv_if_eq (tgt := 149) hx hb d_Tp_step_117 (by decide) (fun _ => ?_) (fun h => absurd (by decide +kernel) h)
              refine lv_aload_n hx hb d_Tp_step_149 rfl (lv_at hl 0 rfl) ?_
              refine lv_aload_n hx hb d_Tp_step_150 rfl (lv_at hl 0 rfl) ?_
              refine tw_getR (D := (dC, dI)) (C := R_Tp) (T := F_Tp) (N := 6) (ci := 4) (kd := 10) (ct := ct) hx hb htb i_Tp hown hK hP (hA_4.m m0) rfl rfl 0 ((hE_4.er (hA_3.m m0) rfl).trans ((hE_3.er (hA_2.m m0) rfl).trans e_10)) (by decide) (htb (.fieldLink R_Tp 9 "WaterMen$Tape" "bytes" "[B") tw_118) (fun _ h9 => h9) rfl d_Tp_step_151 ?_
              refine hb_tv (.ref q_10) rfl ?_
              refine lv_aload_n hx hb d_Tp_step_154 rfl (lv_at hl 0 rfl) ?_
              refine tw_getI (x := (ti f_2 q0 3)) (D := (dC, dI)) (C := R_Tp) (T := F_Tp) (N := 6) (ci := 4) (kd := 10) (ct := ct) hx hb htb i_Tp hown hK hP (hA_4.m m0) rfl rfl 3 ((hE_4.ei (hA_3.m m0) rfl).trans ((hE_3.ei (hA_2.m m0) rfl).trans rfl)) (by decide) (htb (.fieldLink R_Tp 34 "WaterMen$Tape" "start" "I") tw_121) (fun _ h9 => h9) rfl d_Tp_step_155 ?_
              refine tw_aldxB (ct := ct) (x := x_11) hx hb hK hP (hE_4.m (hE_3.m m_10)) rfl ((fun (a_0 : Int32) (a_1 : Int32) (k_0 : ¬ (a_0 < 0)) (k_1 : ¬ (a_1 ≤ a_0)) (k_2 : ¬ (400 < a_1)) => (show vp_in (a_0) 400 from by have z0 : (0 : Int32).toInt = 0 := (by decide +kernel); have z1 : (400 : Int32).toInt = 400 := (by decide +kernel); have r0 := fb_rng (a_0); have r1 := fb_rng (a_1); have e0 := k_0; rw [Int32.lt_iff_toInt_lt, z0] at e0; have e1 := k_1; rw [Int32.le_iff_toInt_le] at e1; have e2 := k_2; rw [Int32.lt_iff_toInt_lt, z1] at e2; rw [vp_in_iff]; omega)) (ti f_2 q0 3) x_5 bf_4.1 c_6 b_5.2) ((hE_4.ei (hE_3.m m_10) rfl).trans ((hE_3.ei m_10 rfl).trans e_11)) d_Tp_step_158 ?_
              refine lv_bipush (v := 59) hx hb d_Tp_step_159 (by decide +kernel) ?_
              refine lv_icmp_ne (tgt := 168) hx hb d_Tp_step_161 (by decide) (fun _ => ?_) (fun h => absurd h (show ¬ (x_11 = 59) from by have e0 := c_20; rw [Int32.lt_iff_toInt_lt] at e0; have z0 : (48 : Int32).toInt = 48 := (by decide +kernel); have z1 : (59 : Int32).toInt = 59 := (by decide +kernel); rw [← Int32.toInt_inj]; omega))
              refine lv_iconst (v := 4) hx hb d_Tp_step_168 (by decide +kernel) ?_
              refine tw_puti (v := 4) (D := (dC, dI)) (C := R_Tp) (T := F_Tp) (N := 6) (ci := 4) (kd := 10) (ct := ct) (ty := .int) hx hb htb i_Tp t_Tp t_Tp_ok n_Tp hown hK hP hD hS hO_4 (hA_4.m m0) rfl rfl 2 (by decide) (htb (.fieldLink R_Tp 37 "WaterMen$Tape" "sort" "I") tw_119) (fun _ h9 => h9) rfl (by decide +kernel) rfl rfl rfl (i32_full _) d_Tp_step_169 (fun f_5 H locs hP hD hS hO_5 hE_5 w_22 hF_5 => ?_)
              have hA_5 := hA_4.trans hE_5
              refine lv_aload_n hx hb d_Tp_step_172 rfl (lv_at hl 0 rfl) ?_
              refine lv_dup hx hb d_Tp_step_173 rfl ?_
              refine tw_getI (x := (ti f_2 q0 3)) (D := (dC, dI)) (C := R_Tp) (T := F_Tp) (N := 6) (ci := 4) (kd := 10) (ct := ct) hx hb htb i_Tp hown hK hP (hA_5.m m0) rfl rfl 4 ((hE_5.ei (hA_4.m m0) rfl).trans ((hE_4.ei (hA_3.m m0) rfl).trans w_13)) (by decide) (htb (.fieldLink R_Tp 24 "WaterMen$Tape" "behind" "I") tw_120) (fun _ h9 => h9) rfl d_Tp_step_174 ?_
              refine lv_iconst (v := 1) hx hb d_Tp_step_177 (by decide +kernel) ?_
              refine lv_iadd hx hb d_Tp_step_178 ?_
              refine tw_puti (v := ((ti f_2 q0 3) + 1)) (D := (dC, dI)) (C := R_Tp) (T := F_Tp) (N := 6) (ci := 4) (kd := 10) (ct := ct) (ty := .int) hx hb htb i_Tp t_Tp t_Tp_ok n_Tp hown hK hP hD hS hO_5 (hA_5.m m0) rfl rfl 4 (by decide) (htb (.fieldLink R_Tp 24 "WaterMen$Tape" "behind" "I") tw_120) (fun _ h9 => h9) rfl (by decide +kernel) rfl rfl rfl ⟨(show ¬ (((ti f_2 q0 3) + 1) < 0) from ((fun (a_0 : Int32) (a_1 : Int32) (k_0 : ¬ (a_0 < 0)) (k_1 : ¬ (a_1 ≤ a_0)) => (show ¬ ((a_0 + 1) < 0) from by have z0 : (0 : Int32).toInt = 0 := (by decide +kernel); have z1 : (1 : Int32).toInt = 1 := (by decide +kernel); have r0 := fb_rng (a_0); have r1 := fb_rng (a_1); have e0 := k_0; rw [Int32.lt_iff_toInt_lt, z0] at e0; have e1 := k_1; rw [Int32.le_iff_toInt_le] at e1; obtain ⟨n_0, hn_0, s0⟩ := nd_add (x := a_0) (y := (1 : Int32)) (by (try rw [z1]); omega) (by (try rw [z1]); omega); rw [z1] at s0; rw [hn_0, Int32.lt_iff_toInt_lt, z0]; omega)) (ti f_2 q0 3) x_5 bf_4.1 c_6)), (show ¬ (400 < ((ti f_2 q0 3) + 1)) from ((fun (a_0 : Int32) (a_1 : Int32) (k_0 : ¬ (a_1 ≤ a_0)) (k_1 : ¬ (400 < a_1)) => (show ¬ (400 < (a_0 + 1)) from by have z0 : (1 : Int32).toInt = 1 := (by decide +kernel); have z1 : (400 : Int32).toInt = 400 := (by decide +kernel); have r0 := fb_rng (a_0); have r1 := fb_rng (a_1); have e0 := k_0; rw [Int32.le_iff_toInt_le] at e0; have e1 := k_1; rw [Int32.lt_iff_toInt_lt, z1] at e1; obtain ⟨n_0, hn_0, s0⟩ := nd_add (x := a_0) (y := (1 : Int32)) (by (try rw [z0]); omega) (by (try rw [z0]); omega); rw [z0] at s0; rw [hn_0, Int32.lt_iff_toInt_lt, z1]; omega)) (ti f_2 q0 3) x_5 c_6 b_5.2))⟩ d_Tp_step_179 (fun f_6 H locs hP hD hS hO_6 hE_6 w_23 hF_6 => ?_)
              have hA_6 := hA_5.trans hE_6
              refine W.widen (k := 0) (n := 0) (Nat.le_of_ble_eq_true rfl) (Nat.le_of_ble_eq_true rfl) ?_
              exact W.vret hx hb hr (fun t ht hW => ⟨⟨(L_2, f_6), rfl, ⟨hO_6, hA_6.mono (by decide +kernel), trivial⟩, by rw [ht]; exact hP, va_K.moved hW.alike hK, by rw [hAe]; exact hD⟩, by rw [hAe]; exact hS.F ht⟩) (by rw [hAe]; exact hS.2.2) d_Tp_step_182
            · by_cases c_24 : 57 < x_11
              · refine hb_ti 0 (by unfold f_Tp_isDigit; rw [if_neg c_20, if_pos c_24]; first | done | rfl) ?_
                refine lv_if_eq (tgt := 149) hx hb d_Tp_step_117 (by decide) (fun _ => ?_) (fun h => absurd (by decide +kernel) h)
                refine lv_aload_n hx hb d_Tp_step_149 rfl (lv_at hl 0 rfl) ?_
                refine lv_aload_n hx hb d_Tp_step_150 rfl (lv_at hl 0 rfl) ?_
                refine tw_getR (D := (dC, dI)) (C := R_Tp) (T := F_Tp) (N := 6) (ci := 4) (kd := 10) (ct := ct) hx hb htb i_Tp hown hK hP (hA_4.m m0) rfl rfl 0 ((hE_4.er (hA_3.m m0) rfl).trans ((hE_3.er (hA_2.m m0) rfl).trans e_10)) (by decide) (htb (.fieldLink R_Tp 9 "WaterMen$Tape" "bytes" "[B") tw_118) (fun _ h9 => h9) rfl d_Tp_step_151 ?_
                refine hb_tv (.ref q_10) rfl ?_
                refine lv_aload_n hx hb d_Tp_step_154 rfl (lv_at hl 0 rfl) ?_
                refine tw_getI (x := (ti f_2 q0 3)) (D := (dC, dI)) (C := R_Tp) (T := F_Tp) (N := 6) (ci := 4) (kd := 10) (ct := ct) hx hb htb i_Tp hown hK hP (hA_4.m m0) rfl rfl 3 ((hE_4.ei (hA_3.m m0) rfl).trans ((hE_3.ei (hA_2.m m0) rfl).trans rfl)) (by decide) (htb (.fieldLink R_Tp 34 "WaterMen$Tape" "start" "I") tw_121) (fun _ h9 => h9) rfl d_Tp_step_155 ?_
                refine tw_aldxB (ct := ct) (x := x_11) hx hb hK hP (hE_4.m (hE_3.m m_10)) rfl ((fun (a_0 : Int32) (a_1 : Int32) (k_0 : ¬ (a_0 < 0)) (k_1 : ¬ (a_1 ≤ a_0)) (k_2 : ¬ (400 < a_1)) => (show vp_in (a_0) 400 from by have z0 : (0 : Int32).toInt = 0 := (by decide +kernel); have z1 : (400 : Int32).toInt = 400 := (by decide +kernel); have r0 := fb_rng (a_0); have r1 := fb_rng (a_1); have e0 := k_0; rw [Int32.lt_iff_toInt_lt, z0] at e0; have e1 := k_1; rw [Int32.le_iff_toInt_le] at e1; have e2 := k_2; rw [Int32.lt_iff_toInt_lt, z1] at e2; rw [vp_in_iff]; omega)) (ti f_2 q0 3) x_5 bf_4.1 c_6 b_5.2) ((hE_4.ei (hE_3.m m_10) rfl).trans ((hE_3.ei m_10 rfl).trans e_11)) d_Tp_step_158 ?_
                refine lv_bipush (v := 59) hx hb d_Tp_step_159 (by decide +kernel) ?_
                refine lv_icmp_ne (tgt := 168) hx hb d_Tp_step_161 (by decide) (fun c_26 => ?_) (fun c_26 => ?_)
                · refine lv_iconst (v := 4) hx hb d_Tp_step_168 (by decide +kernel) ?_
                  refine tw_puti (v := 4) (D := (dC, dI)) (C := R_Tp) (T := F_Tp) (N := 6) (ci := 4) (kd := 10) (ct := ct) (ty := .int) hx hb htb i_Tp t_Tp t_Tp_ok n_Tp hown hK hP hD hS hO_4 (hA_4.m m0) rfl rfl 2 (by decide) (htb (.fieldLink R_Tp 37 "WaterMen$Tape" "sort" "I") tw_119) (fun _ h9 => h9) rfl (by decide +kernel) rfl rfl rfl (i32_full _) d_Tp_step_169 (fun f_5 H locs hP hD hS hO_5 hE_5 w_27 hF_5 => ?_)
                  have hA_5 := hA_4.trans hE_5
                  refine lv_aload_n hx hb d_Tp_step_172 rfl (lv_at hl 0 rfl) ?_
                  refine lv_dup hx hb d_Tp_step_173 rfl ?_
                  refine tw_getI (x := (ti f_2 q0 3)) (D := (dC, dI)) (C := R_Tp) (T := F_Tp) (N := 6) (ci := 4) (kd := 10) (ct := ct) hx hb htb i_Tp hown hK hP (hA_5.m m0) rfl rfl 4 ((hE_5.ei (hA_4.m m0) rfl).trans ((hE_4.ei (hA_3.m m0) rfl).trans w_13)) (by decide) (htb (.fieldLink R_Tp 24 "WaterMen$Tape" "behind" "I") tw_120) (fun _ h9 => h9) rfl d_Tp_step_174 ?_
                  refine lv_iconst (v := 1) hx hb d_Tp_step_177 (by decide +kernel) ?_
                  refine lv_iadd hx hb d_Tp_step_178 ?_
                  refine tw_puti (v := ((ti f_2 q0 3) + 1)) (D := (dC, dI)) (C := R_Tp) (T := F_Tp) (N := 6) (ci := 4) (kd := 10) (ct := ct) (ty := .int) hx hb htb i_Tp t_Tp t_Tp_ok n_Tp hown hK hP hD hS hO_5 (hA_5.m m0) rfl rfl 4 (by decide) (htb (.fieldLink R_Tp 24 "WaterMen$Tape" "behind" "I") tw_120) (fun _ h9 => h9) rfl (by decide +kernel) rfl rfl rfl ⟨(show ¬ (((ti f_2 q0 3) + 1) < 0) from ((fun (a_0 : Int32) (a_1 : Int32) (k_0 : ¬ (a_0 < 0)) (k_1 : ¬ (a_1 ≤ a_0)) => (show ¬ ((a_0 + 1) < 0) from by have z0 : (0 : Int32).toInt = 0 := (by decide +kernel); have z1 : (1 : Int32).toInt = 1 := (by decide +kernel); have r0 := fb_rng (a_0); have r1 := fb_rng (a_1); have e0 := k_0; rw [Int32.lt_iff_toInt_lt, z0] at e0; have e1 := k_1; rw [Int32.le_iff_toInt_le] at e1; obtain ⟨n_0, hn_0, s0⟩ := nd_add (x := a_0) (y := (1 : Int32)) (by (try rw [z1]); omega) (by (try rw [z1]); omega); rw [z1] at s0; rw [hn_0, Int32.lt_iff_toInt_lt, z0]; omega)) (ti f_2 q0 3) x_5 bf_4.1 c_6)), (show ¬ (400 < ((ti f_2 q0 3) + 1)) from ((fun (a_0 : Int32) (a_1 : Int32) (k_0 : ¬ (a_1 ≤ a_0)) (k_1 : ¬ (400 < a_1)) => (show ¬ (400 < (a_0 + 1)) from by have z0 : (1 : Int32).toInt = 1 := (by decide +kernel); have z1 : (400 : Int32).toInt = 400 := (by decide +kernel); have r0 := fb_rng (a_0); have r1 := fb_rng (a_1); have e0 := k_0; rw [Int32.le_iff_toInt_le] at e0; have e1 := k_1; rw [Int32.lt_iff_toInt_lt, z1] at e1; obtain ⟨n_0, hn_0, s0⟩ := nd_add (x := a_0) (y := (1 : Int32)) (by (try rw [z0]); omega) (by (try rw [z0]); omega); rw [z0] at s0; rw [hn_0, Int32.lt_iff_toInt_lt, z1]; omega)) (ti f_2 q0 3) x_5 c_6 b_5.2))⟩ d_Tp_step_179 (fun f_6 H locs hP hD hS hO_6 hE_6 w_28 hF_6 => ?_)
                  have hA_6 := hA_5.trans hE_6
                  refine W.widen (k := 0) (n := 0) (Nat.le_of_ble_eq_true rfl) (Nat.le_of_ble_eq_true rfl) ?_
                  exact W.vret hx hb hr (fun t ht hW => ⟨⟨(L_2, f_6), rfl, ⟨hO_6, hA_6.mono (by decide +kernel), trivial⟩, by rw [ht]; exact hP, va_K.moved hW.alike hK, by rw [hAe]; exact hD⟩, by rw [hAe]; exact hS.F ht⟩) (by rw [hAe]; exact hS.2.2) d_Tp_step_182
                · refine lv_iconst (v := 3) hx hb d_Tp_step_164 (by decide +kernel) ?_
                  refine lv_goto (tgt := 169) hx hb d_Tp_step_165 (by decide) ?_
                  refine tw_puti (v := 3) (D := (dC, dI)) (C := R_Tp) (T := F_Tp) (N := 6) (ci := 4) (kd := 10) (ct := ct) (ty := .int) hx hb htb i_Tp t_Tp t_Tp_ok n_Tp hown hK hP hD hS hO_4 (hA_4.m m0) rfl rfl 2 (by decide) (htb (.fieldLink R_Tp 37 "WaterMen$Tape" "sort" "I") tw_119) (fun _ h9 => h9) rfl (by decide +kernel) rfl rfl rfl (i32_full _) d_Tp_step_169 (fun f_5 H locs hP hD hS hO_5 hE_5 w_29 hF_5 => ?_)
                  have hA_5 := hA_4.trans hE_5
                  refine lv_aload_n hx hb d_Tp_step_172 rfl (lv_at hl 0 rfl) ?_
                  refine lv_dup hx hb d_Tp_step_173 rfl ?_
                  refine tw_getI (x := (ti f_2 q0 3)) (D := (dC, dI)) (C := R_Tp) (T := F_Tp) (N := 6) (ci := 4) (kd := 10) (ct := ct) hx hb htb i_Tp hown hK hP (hA_5.m m0) rfl rfl 4 ((hE_5.ei (hA_4.m m0) rfl).trans ((hE_4.ei (hA_3.m m0) rfl).trans w_13)) (by decide) (htb (.fieldLink R_Tp 24 "WaterMen$Tape" "behind" "I") tw_120) (fun _ h9 => h9) rfl d_Tp_step_174 ?_
                  refine lv_iconst (v := 1) hx hb d_Tp_step_177 (by decide +kernel) ?_
                  refine lv_iadd hx hb d_Tp_step_178 ?_
                  refine tw_puti (v := ((ti f_2 q0 3) + 1)) (D := (dC, dI)) (C := R_Tp) (T := F_Tp) (N := 6) (ci := 4) (kd := 10) (ct := ct) (ty := .int) hx hb htb i_Tp t_Tp t_Tp_ok n_Tp hown hK hP hD hS hO_5 (hA_5.m m0) rfl rfl 4 (by decide) (htb (.fieldLink R_Tp 24 "WaterMen$Tape" "behind" "I") tw_120) (fun _ h9 => h9) rfl (by decide +kernel) rfl rfl rfl ⟨(show ¬ (((ti f_2 q0 3) + 1) < 0) from ((fun (a_0 : Int32) (a_1 : Int32) (k_0 : ¬ (a_0 < 0)) (k_1 : ¬ (a_1 ≤ a_0)) => (show ¬ ((a_0 + 1) < 0) from by have z0 : (0 : Int32).toInt = 0 := (by decide +kernel); have z1 : (1 : Int32).toInt = 1 := (by decide +kernel); have r0 := fb_rng (a_0); have r1 := fb_rng (a_1); have e0 := k_0; rw [Int32.lt_iff_toInt_lt, z0] at e0; have e1 := k_1; rw [Int32.le_iff_toInt_le] at e1; obtain ⟨n_0, hn_0, s0⟩ := nd_add (x := a_0) (y := (1 : Int32)) (by (try rw [z1]); omega) (by (try rw [z1]); omega); rw [z1] at s0; rw [hn_0, Int32.lt_iff_toInt_lt, z0]; omega)) (ti f_2 q0 3) x_5 bf_4.1 c_6)), (show ¬ (400 < ((ti f_2 q0 3) + 1)) from ((fun (a_0 : Int32) (a_1 : Int32) (k_0 : ¬ (a_1 ≤ a_0)) (k_1 : ¬ (400 < a_1)) => (show ¬ (400 < (a_0 + 1)) from by have z0 : (1 : Int32).toInt = 1 := (by decide +kernel); have z1 : (400 : Int32).toInt = 400 := (by decide +kernel); have r0 := fb_rng (a_0); have r1 := fb_rng (a_1); have e0 := k_0; rw [Int32.le_iff_toInt_le] at e0; have e1 := k_1; rw [Int32.lt_iff_toInt_lt, z1] at e1; obtain ⟨n_0, hn_0, s0⟩ := nd_add (x := a_0) (y := (1 : Int32)) (by (try rw [z0]); omega) (by (try rw [z0]); omega); rw [z0] at s0; rw [hn_0, Int32.lt_iff_toInt_lt, z1]; omega)) (ti f_2 q0 3) x_5 c_6 b_5.2))⟩ d_Tp_step_179 (fun f_6 H locs hP hD hS hO_6 hE_6 w_30 hF_6 => ?_)
                  have hA_6 := hA_5.trans hE_6
                  refine W.widen (k := 0) (n := 0) (Nat.le_of_ble_eq_true rfl) (Nat.le_of_ble_eq_true rfl) ?_
                  exact W.vret hx hb hr (fun t ht hW => ⟨⟨(L_2, f_6), rfl, ⟨hO_6, hA_6.mono (by decide +kernel), trivial⟩, by rw [ht]; exact hP, va_K.moved hW.alike hK, by rw [hAe]; exact hD⟩, by rw [hAe]; exact hS.F ht⟩) (by rw [hAe]; exact hS.2.2) d_Tp_step_182
              · refine hb_ti 1 (by unfold f_Tp_isDigit; rw [if_neg c_20, if_neg c_24]; first | done | rfl) ?_
                refine lv_if_eq (tgt := 149) hx hb d_Tp_step_117 (by decide) (fun h => absurd h (by decide +kernel)) (fun _ => ?_)
                refine lv_aload_n hx hb d_Tp_step_120 rfl (lv_at hl 0 rfl) ?_
                have hFc := hb_free hD hS hA
                refine va_callv (va_runV (As := []) (rest := []) ⟨hx, hb, hml, hown, htb⟩ (c_Tp_passDigits_t l dC dI ct L_2 f_4 hO_4 q0 (hA_4.m m0) _) (cwV 0 htb (gd_V tw_131 tw_132 tw_133 tw_124 tw_130) rfl rfl rfl (by decide +kernel) ⟨Nat.le_of_ble_eq_true rfl, Nat.le_of_ble_eq_true rfl⟩) ⟨pc_blind, tw_recv hK hP (hA_4.m m0) rfl rfl, pc_pre hP hK hD hN⟩ rfl rfl hl.1 rfl (lv_room (Nat.le_of_ble_eq_true rfl)) d_Tp_step_121 ⟨Nat.le_of_ble_eq_true rfl, Nat.le_of_ble_eq_true rfl⟩) hS (fun q _ h => hFc q h) hFc (fun u t H locs ht hvm er hB hz1 hk1 hS => ?_)
                obtain ⟨L_5, f_5⟩ := u
                obtain ⟨hO_5, hE_5, er⟩ := er
                obtain ⟨hP, hK1, hD1⟩ := hB
                rw [ht] at hP
                have hP : va_P (dC, dI) vwCl (TW ct L_5 f_5) H := hP
                have hD : va_D A (TW ct L_5 f_5) := hD1.weaken (fun _ q _ h => hFc q.1 h)
                have hO_5 : Ok L_5 f_5 := hO_5
                have hE_5 : Ext W_Tp_passDigits_t L_2 f_4 L_5 f_5 := hE_5
                clear hK1 hD1 ht hvm hz1 hk1
                have hA_5 := hA_4.trans hE_5
                clear er
                refine lv_aload_n hx hb d_Tp_step_124 rfl (lv_at hl 0 rfl) ?_
                refine lv_aload_n hx hb d_Tp_step_125 rfl (lv_at hl 0 rfl) ?_
                refine tw_geti (D := (dC, dI)) (C := R_Tp) (T := F_Tp) (N := 6) (ci := 4) (kd := 10) (ct := ct) hx hb htb i_Tp hown hK hP hO_5 (hA_5.m m0) rfl rfl 4 (by decide) (htb (.fieldLink R_Tp 24 "WaterMen$Tape" "behind" "I") tw_120) (fun _ h9 => h9) rfl d_Tp_step_126 (fun x_32 e_32 b_32 => ?_)
                refine lv_aload_n hx hb d_Tp_step_129 rfl (lv_at hl 0 rfl) ?_
                refine tw_getI (x := (ti f_2 q0 3)) (D := (dC, dI)) (C := R_Tp) (T := F_Tp) (N := 6) (ci := 4) (kd := 10) (ct := ct) hx hb htb i_Tp hown hK hP (hA_5.m m0) rfl rfl 3 ((hE_5.ei (hA_4.m m0) rfl).trans ((hE_4.ei (hA_3.m m0) rfl).trans ((hE_3.ei (hA_2.m m0) rfl).trans rfl))) (by decide) (htb (.fieldLink R_Tp 34 "WaterMen$Tape" "start" "I") tw_121) (fun _ h9 => h9) rfl d_Tp_step_130 ?_
                refine lv_isub hx hb d_Tp_step_133 ?_
                refine lv_iconst (v := 5) hx hb d_Tp_step_134 (by decide +kernel) ?_
                refine lv_icmp_le (tgt := 142) hx hb d_Tp_step_135 (by decide) (fun c_33 => ?_) (fun c_33 => ?_)
                · refine lv_iconst (v := 2) hx hb d_Tp_step_142 (by decide +kernel) ?_
                  refine tw_puti (v := 2) (D := (dC, dI)) (C := R_Tp) (T := F_Tp) (N := 6) (ci := 4) (kd := 10) (ct := ct) (ty := .int) hx hb htb i_Tp t_Tp t_Tp_ok n_Tp hown hK hP hD hS hO_5 (hA_5.m m0) rfl rfl 2 (by decide) (htb (.fieldLink R_Tp 37 "WaterMen$Tape" "sort" "I") tw_119) (fun _ h9 => h9) rfl (by decide +kernel) rfl rfl rfl (i32_full _) d_Tp_step_143 (fun f_6 H locs hP hD hS hO_6 hE_6 w_34 hF_6 => ?_)
                  have hA_6 := hA_5.trans hE_6
                  refine lv_goto (tgt := 182) hx hb d_Tp_step_146 (by decide) ?_
                  refine W.widen (k := 0) (n := 0) (Nat.le_of_ble_eq_true rfl) (Nat.le_of_ble_eq_true rfl) ?_
                  exact W.vret hx hb hr (fun t ht hW => ⟨⟨(L_5, f_6), rfl, ⟨hO_6, hA_6.mono (by decide +kernel), trivial⟩, by rw [ht]; exact hP, va_K.moved hW.alike hK, by rw [hAe]; exact hD⟩, by rw [hAe]; exact hS.F ht⟩) (by rw [hAe]; exact hS.2.2) d_Tp_step_182
                · refine lv_iconst (v := 4) hx hb d_Tp_step_138 (by decide +kernel) ?_
                  refine lv_goto (tgt := 143) hx hb d_Tp_step_139 (by decide) ?_
                  refine tw_puti (v := 4) (D := (dC, dI)) (C := R_Tp) (T := F_Tp) (N := 6) (ci := 4) (kd := 10) (ct := ct) (ty := .int) hx hb htb i_Tp t_Tp t_Tp_ok n_Tp hown hK hP hD hS hO_5 (hA_5.m m0) rfl rfl 2 (by decide) (htb (.fieldLink R_Tp 37 "WaterMen$Tape" "sort" "I") tw_119) (fun _ h9 => h9) rfl (by decide +kernel) rfl rfl rfl (i32_full _) d_Tp_step_143 (fun f_6 H locs hP hD hS hO_6 hE_6 w_35 hF_6 => ?_)
                  have hA_6 := hA_5.trans hE_6
                  refine lv_goto (tgt := 182) hx hb d_Tp_step_146 (by decide) ?_
                  refine W.widen (k := 0) (n := 0) (Nat.le_of_ble_eq_true rfl) (Nat.le_of_ble_eq_true rfl) ?_
                  exact W.vret hx hb hr (fun t ht hW => ⟨⟨(L_5, f_6), rfl, ⟨hO_6, hA_6.mono (by decide +kernel), trivial⟩, by rw [ht]; exact hP, va_K.moved hW.alike hK, by rw [hAe]; exact hD⟩, by rw [hAe]; exact hS.F ht⟩) (by rw [hAe]; exact hS.2.2) d_Tp_step_182
          · by_cases c_36 : 122 < x_11
            · refine hb_ti 0 (by unfold f_Tp_isLetter; rw [if_neg c_17, if_pos c_36]; first | done | rfl) ?_
              refine lv_if_eq (tgt := 105) hx hb d_Tp_step_90 (by decide) (fun _ => ?_) (fun h => absurd (by decide +kernel) h)
              refine lv_aload_n hx hb d_Tp_step_105 rfl (lv_at hl 0 rfl) ?_
              refine tw_getR (D := (dC, dI)) (C := R_Tp) (T := F_Tp) (N := 6) (ci := 4) (kd := 10) (ct := ct) hx hb htb i_Tp hown hK hP (hA_4.m m0) rfl rfl 0 ((hE_4.er (hA_3.m m0) rfl).trans ((hE_3.er (hA_2.m m0) rfl).trans e_10)) (by decide) (htb (.fieldLink R_Tp 9 "WaterMen$Tape" "bytes" "[B") tw_118) (fun _ h9 => h9) rfl d_Tp_step_106 ?_
              refine hb_tv (.ref q_10) rfl ?_
              refine lv_aload_n hx hb d_Tp_step_109 rfl (lv_at hl 0 rfl) ?_
              refine tw_getI (x := (ti f_2 q0 3)) (D := (dC, dI)) (C := R_Tp) (T := F_Tp) (N := 6) (ci := 4) (kd := 10) (ct := ct) hx hb htb i_Tp hown hK hP (hA_4.m m0) rfl rfl 3 ((hE_4.ei (hA_3.m m0) rfl).trans ((hE_3.ei (hA_2.m m0) rfl).trans rfl)) (by decide) (htb (.fieldLink R_Tp 34 "WaterMen$Tape" "start" "I") tw_121) (fun _ h9 => h9) rfl d_Tp_step_110 ?_
              refine tw_aldxB (ct := ct) (x := x_11) hx hb hK hP (hE_4.m (hE_3.m m_10)) rfl ((fun (a_0 : Int32) (a_1 : Int32) (k_0 : ¬ (a_0 < 0)) (k_1 : ¬ (a_1 ≤ a_0)) (k_2 : ¬ (400 < a_1)) => (show vp_in (a_0) 400 from by have z0 : (0 : Int32).toInt = 0 := (by decide +kernel); have z1 : (400 : Int32).toInt = 400 := (by decide +kernel); have r0 := fb_rng (a_0); have r1 := fb_rng (a_1); have e0 := k_0; rw [Int32.lt_iff_toInt_lt, z0] at e0; have e1 := k_1; rw [Int32.le_iff_toInt_le] at e1; have e2 := k_2; rw [Int32.lt_iff_toInt_lt, z1] at e2; rw [vp_in_iff]; omega)) (ti f_2 q0 3) x_5 bf_4.1 c_6 b_5.2) ((hE_4.ei (hE_3.m m_10) rfl).trans ((hE_3.ei m_10 rfl).trans e_11)) d_Tp_step_113 ?_
              refine vp_callSi (va_Run.run (va_runS (As := [.int x_11]) (rest := []) ⟨hx, hb, hml, hown, htb⟩ (c_Tp_isDigit l x_11) (cwS 1 htb (gd_S tw_128 tw_129 tw_124 tw_127) rfl rfl rfl (by decide +kernel) ⟨Nat.le_of_ble_eq_true rfl, Nat.le_of_ble_eq_true rfl⟩) ⟨fun _ _ _ _ h => h, fun U _ _ => ⟨rfl, trivial⟩⟩ rfl rfl hl.1 rfl (lv_room (Nat.le_of_ble_eq_true rfl)) d_Tp_step_114 ⟨Nat.le_of_ble_eq_true rfl, Nat.le_of_ble_eq_true rfl⟩)) (fun r er => ?_)
              subst er
              refine hb_ti 0 (by unfold f_Tp_isDigit; rw [if_neg (show ¬ (x_11 < 48) from by have e0 := c_36; rw [Int32.lt_iff_toInt_lt] at e0; have z0 : (48 : Int32).toInt = 48 := (by decide +kernel); have z1 : (122 : Int32).toInt = 122 := (by decide +kernel); rw [Int32.lt_iff_toInt_lt]; omega), if_pos (show 57 < x_11 from by have e0 := c_36; rw [Int32.lt_iff_toInt_lt] at e0; have z0 : (57 : Int32).toInt = 57 := (by decide +kernel); have z1 : (122 : Int32).toInt = 122 := (by decide +kernel); rw [Int32.lt_iff_toInt_lt]; omega)]) ?_
              refine lv_if_eq (tgt := 149) hx hb d_Tp_step_117 (by decide) (fun _ => ?_) (fun h => absurd (by decide +kernel) h)
              refine lv_aload_n hx hb d_Tp_step_149 rfl (lv_at hl 0 rfl) ?_
              refine lv_aload_n hx hb d_Tp_step_150 rfl (lv_at hl 0 rfl) ?_
              refine tw_getR (D := (dC, dI)) (C := R_Tp) (T := F_Tp) (N := 6) (ci := 4) (kd := 10) (ct := ct) hx hb htb i_Tp hown hK hP (hA_4.m m0) rfl rfl 0 ((hE_4.er (hA_3.m m0) rfl).trans ((hE_3.er (hA_2.m m0) rfl).trans e_10)) (by decide) (htb (.fieldLink R_Tp 9 "WaterMen$Tape" "bytes" "[B") tw_118) (fun _ h9 => h9) rfl d_Tp_step_151 ?_
              refine hb_tv (.ref q_10) rfl ?_
              refine lv_aload_n hx hb d_Tp_step_154 rfl (lv_at hl 0 rfl) ?_
              refine tw_getI (x := (ti f_2 q0 3)) (D := (dC, dI)) (C := R_Tp) (T := F_Tp) (N := 6) (ci := 4) (kd := 10) (ct := ct) hx hb htb i_Tp hown hK hP (hA_4.m m0) rfl rfl 3 ((hE_4.ei (hA_3.m m0) rfl).trans ((hE_3.ei (hA_2.m m0) rfl).trans rfl)) (by decide) (htb (.fieldLink R_Tp 34 "WaterMen$Tape" "start" "I") tw_121) (fun _ h9 => h9) rfl d_Tp_step_155 ?_
              refine tw_aldxB (ct := ct) (x := x_11) hx hb hK hP (hE_4.m (hE_3.m m_10)) rfl ((fun (a_0 : Int32) (a_1 : Int32) (k_0 : ¬ (a_0 < 0)) (k_1 : ¬ (a_1 ≤ a_0)) (k_2 : ¬ (400 < a_1)) => (show vp_in (a_0) 400 from by have z0 : (0 : Int32).toInt = 0 := (by decide +kernel); have z1 : (400 : Int32).toInt = 400 := (by decide +kernel); have r0 := fb_rng (a_0); have r1 := fb_rng (a_1); have e0 := k_0; rw [Int32.lt_iff_toInt_lt, z0] at e0; have e1 := k_1; rw [Int32.le_iff_toInt_le] at e1; have e2 := k_2; rw [Int32.lt_iff_toInt_lt, z1] at e2; rw [vp_in_iff]; omega)) (ti f_2 q0 3) x_5 bf_4.1 c_6 b_5.2) ((hE_4.ei (hE_3.m m_10) rfl).trans ((hE_3.ei m_10 rfl).trans e_11)) d_Tp_step_158 ?_
              refine lv_bipush (v := 59) hx hb d_Tp_step_159 (by decide +kernel) ?_
              refine lv_icmp_ne (tgt := 168) hx hb d_Tp_step_161 (by decide) (fun _ => ?_) (fun h => absurd h (show ¬ (x_11 = 59) from by have e0 := c_36; rw [Int32.lt_iff_toInt_lt] at e0; have z0 : (59 : Int32).toInt = 59 := (by decide +kernel); have z1 : (122 : Int32).toInt = 122 := (by decide +kernel); rw [← Int32.toInt_inj]; omega))
              refine lv_iconst (v := 4) hx hb d_Tp_step_168 (by decide +kernel) ?_
              refine tw_puti (v := 4) (D := (dC, dI)) (C := R_Tp) (T := F_Tp) (N := 6) (ci := 4) (kd := 10) (ct := ct) (ty := .int) hx hb htb i_Tp t_Tp t_Tp_ok n_Tp hown hK hP hD hS hO_4 (hA_4.m m0) rfl rfl 2 (by decide) (htb (.fieldLink R_Tp 37 "WaterMen$Tape" "sort" "I") tw_119) (fun _ h9 => h9) rfl (by decide +kernel) rfl rfl rfl (i32_full _) d_Tp_step_169 (fun f_5 H locs hP hD hS hO_5 hE_5 w_40 hF_5 => ?_)
              have hA_5 := hA_4.trans hE_5
              refine lv_aload_n hx hb d_Tp_step_172 rfl (lv_at hl 0 rfl) ?_
              refine lv_dup hx hb d_Tp_step_173 rfl ?_
              refine tw_getI (x := (ti f_2 q0 3)) (D := (dC, dI)) (C := R_Tp) (T := F_Tp) (N := 6) (ci := 4) (kd := 10) (ct := ct) hx hb htb i_Tp hown hK hP (hA_5.m m0) rfl rfl 4 ((hE_5.ei (hA_4.m m0) rfl).trans ((hE_4.ei (hA_3.m m0) rfl).trans w_13)) (by decide) (htb (.fieldLink R_Tp 24 "WaterMen$Tape" "behind" "I") tw_120) (fun _ h9 => h9) rfl d_Tp_step_174 ?_
              refine lv_iconst (v := 1) hx hb d_Tp_step_177 (by decide +kernel) ?_
              refine lv_iadd hx hb d_Tp_step_178 ?_
              refine tw_puti (v := ((ti f_2 q0 3) + 1)) (D := (dC, dI)) (C := R_Tp) (T := F_Tp) (N := 6) (ci := 4) (kd := 10) (ct := ct) (ty := .int) hx hb htb i_Tp t_Tp t_Tp_ok n_Tp hown hK hP hD hS hO_5 (hA_5.m m0) rfl rfl 4 (by decide) (htb (.fieldLink R_Tp 24 "WaterMen$Tape" "behind" "I") tw_120) (fun _ h9 => h9) rfl (by decide +kernel) rfl rfl rfl ⟨(show ¬ (((ti f_2 q0 3) + 1) < 0) from ((fun (a_0 : Int32) (a_1 : Int32) (k_0 : ¬ (a_0 < 0)) (k_1 : ¬ (a_1 ≤ a_0)) => (show ¬ ((a_0 + 1) < 0) from by have z0 : (0 : Int32).toInt = 0 := (by decide +kernel); have z1 : (1 : Int32).toInt = 1 := (by decide +kernel); have r0 := fb_rng (a_0); have r1 := fb_rng (a_1); have e0 := k_0; rw [Int32.lt_iff_toInt_lt, z0] at e0; have e1 := k_1; rw [Int32.le_iff_toInt_le] at e1; obtain ⟨n_0, hn_0, s0⟩ := nd_add (x := a_0) (y := (1 : Int32)) (by (try rw [z1]); omega) (by (try rw [z1]); omega); rw [z1] at s0; rw [hn_0, Int32.lt_iff_toInt_lt, z0]; omega)) (ti f_2 q0 3) x_5 bf_4.1 c_6)), (show ¬ (400 < ((ti f_2 q0 3) + 1)) from ((fun (a_0 : Int32) (a_1 : Int32) (k_0 : ¬ (a_1 ≤ a_0)) (k_1 : ¬ (400 < a_1)) => (show ¬ (400 < (a_0 + 1)) from by have z0 : (1 : Int32).toInt = 1 := (by decide +kernel); have z1 : (400 : Int32).toInt = 400 := (by decide +kernel); have r0 := fb_rng (a_0); have r1 := fb_rng (a_1); have e0 := k_0; rw [Int32.le_iff_toInt_le] at e0; have e1 := k_1; rw [Int32.lt_iff_toInt_lt, z1] at e1; obtain ⟨n_0, hn_0, s0⟩ := nd_add (x := a_0) (y := (1 : Int32)) (by (try rw [z0]); omega) (by (try rw [z0]); omega); rw [z0] at s0; rw [hn_0, Int32.lt_iff_toInt_lt, z1]; omega)) (ti f_2 q0 3) x_5 c_6 b_5.2))⟩ d_Tp_step_179 (fun f_6 H locs hP hD hS hO_6 hE_6 w_41 hF_6 => ?_)
              have hA_6 := hA_5.trans hE_6
              refine W.widen (k := 0) (n := 0) (Nat.le_of_ble_eq_true rfl) (Nat.le_of_ble_eq_true rfl) ?_
              exact W.vret hx hb hr (fun t ht hW => ⟨⟨(L_2, f_6), rfl, ⟨hO_6, hA_6.mono (by decide +kernel), trivial⟩, by rw [ht]; exact hP, va_K.moved hW.alike hK, by rw [hAe]; exact hD⟩, by rw [hAe]; exact hS.F ht⟩) (by rw [hAe]; exact hS.2.2) d_Tp_step_182
            · refine hb_ti 1 (by unfold f_Tp_isLetter; rw [if_neg c_17, if_neg c_36]; first | done | rfl) ?_
              refine lv_if_eq (tgt := 105) hx hb d_Tp_step_90 (by decide) (fun h => absurd h (by decide +kernel)) (fun _ => ?_)
              refine lv_aload_n hx hb d_Tp_step_93 rfl (lv_at hl 0 rfl) ?_
              refine lv_iconst (v := 1) hx hb d_Tp_step_94 (by decide +kernel) ?_
              refine tw_puti (v := 1) (D := (dC, dI)) (C := R_Tp) (T := F_Tp) (N := 6) (ci := 4) (kd := 10) (ct := ct) (ty := .int) hx hb htb i_Tp t_Tp t_Tp_ok n_Tp hown hK hP hD hS hO_4 (hA_4.m m0) rfl rfl 2 (by decide) (htb (.fieldLink R_Tp 37 "WaterMen$Tape" "sort" "I") tw_119) (fun _ h9 => h9) rfl (by decide +kernel) rfl rfl rfl (i32_full _) d_Tp_step_95 (fun f_5 H locs hP hD hS hO_5 hE_5 w_42 hF_5 => ?_)
              have hA_5 := hA_4.trans hE_5
              refine lv_aload_n hx hb d_Tp_step_98 rfl (lv_at hl 0 rfl) ?_
              have hFc := hb_free hD hS hA
              refine va_callv (va_runV (As := []) (rest := []) ⟨hx, hb, hml, hown, htb⟩ (c_Tp_passLetters_t l dC dI ct L_2 f_5 hO_5 q0 (hA_5.m m0) _) (cwV 0 htb (gd_V tw_135 tw_136 tw_137 tw_124 tw_134) rfl rfl rfl (by decide +kernel) ⟨Nat.le_of_ble_eq_true rfl, Nat.le_of_ble_eq_true rfl⟩) ⟨pc_blind, tw_recv hK hP (hA_5.m m0) rfl rfl, pc_pre hP hK hD hN⟩ rfl rfl hl.1 rfl (lv_room (Nat.le_of_ble_eq_true rfl)) d_Tp_step_99 ⟨Nat.le_of_ble_eq_true rfl, Nat.le_of_ble_eq_true rfl⟩) hS (fun q _ h => hFc q h) hFc (fun u t H locs ht hvm er hB hz1 hk1 hS => ?_)
              obtain ⟨L_6, f_6⟩ := u
              obtain ⟨hO_6, hE_6, er⟩ := er
              obtain ⟨hP, hK1, hD1⟩ := hB
              rw [ht] at hP
              have hP : va_P (dC, dI) vwCl (TW ct L_6 f_6) H := hP
              have hD : va_D A (TW ct L_6 f_6) := hD1.weaken (fun _ q _ h => hFc q.1 h)
              have hO_6 : Ok L_6 f_6 := hO_6
              have hE_6 : Ext W_Tp_passLetters_t L_2 f_5 L_6 f_6 := hE_6
              clear hK1 hD1 ht hvm hz1 hk1
              have hA_6 := hA_5.trans hE_6
              clear er
              refine lv_goto (tgt := 182) hx hb d_Tp_step_102 (by decide) ?_
              refine W.widen (k := 0) (n := 0) (Nat.le_of_ble_eq_true rfl) (Nat.le_of_ble_eq_true rfl) ?_
              exact W.vret hx hb hr (fun t ht hW => ⟨⟨(L_6, f_6), rfl, ⟨hO_6, hA_6.mono (by decide +kernel), trivial⟩, by rw [ht]; exact hP, va_K.moved hW.alike hK, by rw [hAe]; exact hD⟩, by rw [hAe]; exact hS.F ht⟩) (by rw [hAe]; exact hS.2.2) d_Tp_step_182
        · refine lv_aload_n hx hb d_Tp_step_33 rfl (lv_at hl 0 rfl) ?_
          refine lv_dup hx hb d_Tp_step_34 rfl ?_
          refine tw_getI (x := (ti f_2 q0 3)) (D := (dC, dI)) (C := R_Tp) (T := F_Tp) (N := 6) (ci := 4) (kd := 10) (ct := ct) hx hb htb i_Tp hown hK hP (hA_2.m m0) rfl rfl 3 rfl (by decide) (htb (.fieldLink R_Tp 34 "WaterMen$Tape" "start" "I") tw_121) (fun _ h9 => h9) rfl d_Tp_step_35 ?_
          refine lv_iconst (v := 1) hx hb d_Tp_step_38 (by decide +kernel) ?_
          refine lv_iadd hx hb d_Tp_step_39 ?_
          refine tw_puti (v := ((ti f_2 q0 3) + 1)) (D := (dC, dI)) (C := R_Tp) (T := F_Tp) (N := 6) (ci := 4) (kd := 10) (ct := ct) (ty := .int) hx hb htb i_Tp t_Tp t_Tp_ok n_Tp hown hK hP hD hS hO_2 (hA_2.m m0) rfl rfl 3 (by decide) (htb (.fieldLink R_Tp 34 "WaterMen$Tape" "start" "I") tw_121) (fun _ h9 => h9) rfl (by decide +kernel) rfl rfl rfl ⟨(show ¬ (((ti f_2 q0 3) + 1) < 0) from ((fun (a_0 : Int32) (a_1 : Int32) (k_0 : ¬ (a_0 < 0)) (k_1 : ¬ (a_1 ≤ a_0)) => (show ¬ ((a_0 + 1) < 0) from by have z0 : (0 : Int32).toInt = 0 := (by decide +kernel); have z1 : (1 : Int32).toInt = 1 := (by decide +kernel); have r0 := fb_rng (a_0); have r1 := fb_rng (a_1); have e0 := k_0; rw [Int32.lt_iff_toInt_lt, z0] at e0; have e1 := k_1; rw [Int32.le_iff_toInt_le] at e1; obtain ⟨n_0, hn_0, s0⟩ := nd_add (x := a_0) (y := (1 : Int32)) (by (try rw [z1]); omega) (by (try rw [z1]); omega); rw [z1] at s0; rw [hn_0, Int32.lt_iff_toInt_lt, z0]; omega)) (ti f_2 q0 3) x_5 bf_4.1 c_6)), (show ¬ (400 < ((ti f_2 q0 3) + 1)) from ((fun (a_0 : Int32) (a_1 : Int32) (k_0 : ¬ (a_1 ≤ a_0)) (k_1 : ¬ (400 < a_1)) => (show ¬ (400 < (a_0 + 1)) from by have z0 : (1 : Int32).toInt = 1 := (by decide +kernel); have z1 : (400 : Int32).toInt = 400 := (by decide +kernel); have r0 := fb_rng (a_0); have r1 := fb_rng (a_1); have e0 := k_0; rw [Int32.le_iff_toInt_le] at e0; have e1 := k_1; rw [Int32.lt_iff_toInt_lt, z1] at e1; obtain ⟨n_0, hn_0, s0⟩ := nd_add (x := a_0) (y := (1 : Int32)) (by (try rw [z0]); omega) (by (try rw [z0]); omega); rw [z0] at s0; rw [hn_0, Int32.lt_iff_toInt_lt, z1]; omega)) (ti f_2 q0 3) x_5 c_6 b_5.2))⟩ d_Tp_step_40 (fun f_3 H locs hP hD hS hO_3 hE_3 w_44 hF_3 => ?_)
          have hA_3 := hA_2.trans hE_3
          refine lv_goto (tgt := 8) hx hb d_Tp_step_43 (by decide) ?_
          exact ih_3 (n_3 - 1) (ms_1 ((fun (a_0 : Int32) (a_1 : Int32) (k_0 : ¬ (a_1 ≤ a_0)) (k_1 : ¬ (400 < a_1)) => (show 1 ≤ (400 : Int32).toInt - a_0.toInt ∧ (400 : Int32).toInt - (a_0 + (1 : Int32)).toInt + 1 ≤ (400 : Int32).toInt - a_0.toInt from by have z0 : (1 : Int32).toInt = 1 := (by decide +kernel); have z1 : (400 : Int32).toInt = 400 := (by decide +kernel); have r0 := fb_rng (a_0); have r1 := fb_rng (a_1); have e0 := k_0; rw [Int32.le_iff_toInt_le] at e0; have e1 := k_1; rw [Int32.lt_iff_toInt_lt, z1] at e1; obtain ⟨n_0, hn_0, s0⟩ := nd_add (x := a_0) (y := (1 : Int32)) (by (try rw [z0]); omega) (by (try rw [z0]); omega); rw [z0] at s0; rw [hn_0]; (try rw [z1]); omega)) (ti f_2 q0 3) x_5 c_6 b_5.2) hm_3) _ _ _ _ _ hP hD hS hO_3 ((hE_2.trans hE_3).mono (by decide +kernel)) (by rw [show ti f_3 q0 3 = ((ti f_2 q0 3) + 1) from w_44]; exact ms_2 ((fun (a_0 : Int32) (a_1 : Int32) (k_0 : ¬ (a_1 ≤ a_0)) (k_1 : ¬ (400 < a_1)) => (show 1 ≤ (400 : Int32).toInt - a_0.toInt ∧ (400 : Int32).toInt - (a_0 + (1 : Int32)).toInt + 1 ≤ (400 : Int32).toInt - a_0.toInt from by have z0 : (1 : Int32).toInt = 1 := (by decide +kernel); have z1 : (400 : Int32).toInt = 400 := (by decide +kernel); have r0 := fb_rng (a_0); have r1 := fb_rng (a_1); have e0 := k_0; rw [Int32.le_iff_toInt_le] at e0; have e1 := k_1; rw [Int32.lt_iff_toInt_lt, z1] at e1; obtain ⟨n_0, hn_0, s0⟩ := nd_add (x := a_0) (y := (1 : Int32)) (by (try rw [z0]); omega) (by (try rw [z0]); omega); rw [z0] at s0; rw [hn_0]; (try rw [z1]); omega)) (ti f_2 q0 3) x_5 c_6 b_5.2) hm_3) (lv_sub hl [0] rfl)
  exact cut_3 4294967296 _ _ _ _ _ hP hD hS hO_1 Ext.rf (by rw [show ti f_1 q0 3 = x_1 from w_2]; exact ms_0 _ _) (lv_sub hl [0] rfl)
def W_Tp_stepOverNumber_t : List (Nat × Nat) := [(10, 2), (10, 3), (10, 4), (10, 5)]
set_option maxHeartbeats 4000000 in
set_option maxRecDepth 100000 in
theorem c_Tp_stepOverNumber_t (l : Launch) (dC : Nat → ClassId) (dI : Nat → Nat → Nat) (ct : Nat → ClassId) (L : List Nat) (f : TF) (hO_0 : Ok L f) (q0 : Nat) (m0 : q0 ∈ L ∧ tk f q0 = 10) (sz : Nat)    : Met l y_Tp_stepOverNumber (.code y_Tp_stepOverNumber b_Tp_stepOverNumber 1 (some .boolean) :: TB) ({ frames := 3, cells := 0, slots := 0, locals := 60 }) (va_Pc [.ref q0] (PC dC dI (TW ct L f) (TT ct) sz)) (va_Qi (fun r (u : TSt) => Ok u.1 u.2 ∧ Ext W_Tp_stepOverNumber_t L f u.1 u.2 ∧ ((r = 0 ∧ True) ∨ (r = 1 ∧ True))) (fun (u : TSt) t => va_P (dC, dI) vwCl (TW ct u.1 u.2) t.heap ∧ va_K (dC, dI) vwCl (TT ct) t ∧ va_D (va_A (TW ct L f) sz) (TW ct u.1 u.2)) (va_A (TW ct L f) sz)) 0 0 (va_A (TW ct L f) sz) := by
  refine Met.ofW (cc := b_Tp_stepOverNumber) (maxL := 1) (ret := (some .boolean)) (by decide) rfl ?_
  intro p e s m args below meth c s₁ B hml hv
  obtain ⟨rfl, hsz, hP, hK, hD0, hN⟩ := hv
  have hx := B.exec
  have hb := B.bytes
  have hr := B.returns
  have hts := atoms_spec (ws := (.code y_Tp_stepOverNumber b_Tp_stepOverNumber 1 (some .boolean) :: TB)) B.pre
  have htb := fun w (h : w ∈ TB) => hts w (List.mem_cons_of_mem _ h)
  have hown : s.vm.findClass R_Tp = some m.cls := findClass_of_methodNamed B.named
  have hlocks := B.notSynchronized
  have hl := lv_entry ([.ref q0]) (n := 1) (Nat.le_of_ble_eq_true rfl)
  rw [lg_entry_eq]
  generalize (lg_sl ([.ref q0]) ++ List.replicate (1 - (lg_sl ([.ref q0])).length) Slot.unset).toArray = ls at hl ⊢
  have hl : lv_has ls 1 [(0, .ref q0)] := hl
  subst hsz
  have hD := hD0.self (sz := s.heap.size)
  obtain ⟨A, hAe⟩ : ∃ A, va_A (TW ct L f) s.heap.size = A := ⟨_, rfl⟩
  rw [hAe] at hD
  have hA : ∀ q : Nat, s.heap.size ≤ q → A q := fun q h => by rw [← hAe]; exact Or.inr h
  have hS : va_S A s.heap s.heap [] := va_S.rf
  have hA_0 : Ext [] L f L f := Ext.rf
  suffices hGo : ∀ (H : Heap) (locs : List Loc), va_P (dC, dI) vwCl (TW ct L f) H → va_S A s.heap H locs → W p l e (headSpec (.code y_Tp_stepOverNumber b_Tp_stepOverNumber 1 (some .boolean) :: TB) ({ frames := 3, cells := 0, slots := 0, locals := 60 })).room s m [.ref q0].toArray below meth c H locs 0 0 (MQ below (va_Qi (fun r (u : TSt) => Ok u.1 u.2 ∧ Ext W_Tp_stepOverNumber_t L f u.1 u.2 ∧ ((r = 0 ∧ True) ∨ (r = 1 ∧ True))) (fun (u : TSt) t => va_P (dC, dI) vwCl (TW ct u.1 u.2) t.heap ∧ va_K (dC, dI) vwCl (TT ct) t ∧ va_D (va_A (TW ct L f) s.heap.size) (TW ct u.1 u.2)) (va_A (TW ct L f) s.heap.size)) [.ref q0].toArray s 0 0 (va_A (TW ct L f) s.heap.size)) (F0 m 0 ls []) from hGo _ _ hP hS
  clear hP hS
  intro H locs hP hS
  refine lv_aload_n hx hb d_Tp_stepOverNumber_0 rfl (lv_at hl 0 rfl) ?_
  refine tw_geti (D := (dC, dI)) (C := R_Tp) (T := F_Tp) (N := 6) (ci := 4) (kd := 10) (ct := ct) hx hb htb i_Tp hown hK hP hO_0 m0 rfl rfl 2 (by decide) (htb (.fieldLink R_Tp 37 "WaterMen$Tape" "sort" "I") tw_119) (fun _ h9 => h9) rfl d_Tp_stepOverNumber_1 (fun x_1 e_1 b_1 => ?_)
  refine lv_iconst (v := 2) hx hb d_Tp_stepOverNumber_4 (by decide +kernel) ?_
  refine lv_icmp_eq (tgt := 10) hx hb d_Tp_stepOverNumber_5 (by decide) (fun c_2 => ?_) (fun c_2 => ?_)
  · refine lv_aload_n hx hb d_Tp_stepOverNumber_10 rfl (lv_at hl 0 rfl) ?_
    have hFc := hb_free hD hS hA
    refine va_callv (va_runV (As := []) (rest := []) ⟨hx, hb, hml, hown, htb⟩ (c_Tp_step_t l dC dI ct L f hO_0 q0 m0 _) (cwV 0 htb (gd_V tw_139 tw_140 tw_141 tw_124 tw_138) rfl rfl rfl (by decide +kernel) ⟨Nat.le_of_ble_eq_true rfl, Nat.le_of_ble_eq_true rfl⟩) ⟨pc_blind, tw_recv hK hP m0 rfl rfl, pc_pre hP hK hD hN⟩ rfl rfl hl.1 rfl (lv_room (Nat.le_of_ble_eq_true rfl)) d_Tp_stepOverNumber_11 ⟨Nat.le_of_ble_eq_true rfl, Nat.le_of_ble_eq_true rfl⟩) hS (fun q _ h => hFc q h) hFc (fun u t H locs ht hvm er hB hz1 hk1 hS => ?_)
    obtain ⟨L_1, f_1⟩ := u
    obtain ⟨hO_1, hE_1, er⟩ := er
    obtain ⟨hP, hK1, hD1⟩ := hB
    rw [ht] at hP
    have hP : va_P (dC, dI) vwCl (TW ct L_1 f_1) H := hP
    have hD : va_D A (TW ct L_1 f_1) := hD1.weaken (fun _ q _ h => hFc q.1 h)
    have hO_1 : Ok L_1 f_1 := hO_1
    have hE_1 : Ext W_Tp_step_t L f L_1 f_1 := hE_1
    clear hK1 hD1 ht hvm hz1 hk1
    have hA_1 := hA_0.trans hE_1
    clear er
    refine lv_iconst (v := 1) hx hb d_Tp_stepOverNumber_14 (by decide +kernel) ?_
    refine W.widen (k := 0) (n := 0) (Nat.le_of_ble_eq_true rfl) (Nat.le_of_ble_eq_true rfl) ?_
    exact W.zret (v := 1) hx hb hr (by decide +kernel) (fun t ht hW => ⟨⟨1, (L_1, f_1), rfl, ⟨hO_1, hA_1.mono (by decide +kernel), (Or.inr ⟨rfl, trivial⟩)⟩, by rw [ht]; exact hP, va_K.moved hW.alike hK, by rw [hAe]; exact hD⟩, by rw [hAe]; exact hS.F ht⟩) (by rw [hAe]; exact hS.2.2) d_Tp_stepOverNumber_15
  · refine lv_iconst (v := 0) hx hb d_Tp_stepOverNumber_8 (by decide +kernel) ?_
    refine W.widen (k := 0) (n := 0) (Nat.le_of_ble_eq_true rfl) (Nat.le_of_ble_eq_true rfl) ?_
    exact W.zret (v := 0) hx hb hr (by decide +kernel) (fun t ht hW => ⟨⟨0, (L, f), rfl, ⟨hO_0, hA_0.mono (by decide +kernel), (Or.inl ⟨rfl, trivial⟩)⟩, by rw [ht]; exact hP, va_K.moved hW.alike hK, by rw [hAe]; exact hD⟩, by rw [hAe]; exact hS.F ht⟩) (by rw [hAe]; exact hS.2.2) d_Tp_stepOverNumber_9
set_option maxHeartbeats 4000000 in
set_option maxRecDepth 100000 in
theorem c_Tp_isWord_t (l : Launch) (dC : Nat → ClassId) (dI : Nat → Nat → Nat) (ct : Nat → ClassId) (L : List Nat) (f : TF) (hO_0 : Ok L f) (q0 : Nat) (m0 : q0 ∈ L ∧ tk f q0 = 10) (adK adV : Nat → Nat) (A : Nat → Prop) (si : Nat) (hsi : si < 11)    : Met l y_Tp_isWord (.code y_Tp_isWord b_Tp_isWord 3 (some .boolean) :: TB) ({ frames := 4, cells := 0, slots := 0, locals := 85 }) (va_Pc [.ref q0, .ref (adK si)] (PRs dC dI (TW ct L f) (TT ct) adK adV A)) (vp_Si (fun r => (r = 0 ∧ True) ∨ (r = 1 ∧ True))) 0 0 (fun _ => False) := by
  refine Met.ofW (cc := b_Tp_isWord) (maxL := 3) (ret := (some .boolean)) (by decide) rfl ?_
  intro p e s m args below meth c s₁ B hml hv
  obtain ⟨rfl, ⟨hP, hK, hN⟩, hW0⟩ := hv
  have hx := B.exec
  have hb := B.bytes
  have hr := B.returns
  have hts := atoms_spec (ws := (.code y_Tp_isWord b_Tp_isWord 3 (some .boolean) :: TB)) B.pre
  have htb := fun w (h : w ∈ TB) => hts w (List.mem_cons_of_mem _ h)
  have hown : s.vm.findClass R_Tp = some m.cls := findClass_of_methodNamed B.named
  have hlocks := B.notSynchronized
  have hl := lv_entry ([.ref q0, .ref (adK si)]) (n := 3) (Nat.le_of_ble_eq_true rfl)
  rw [lg_entry_eq]
  generalize (lg_sl ([.ref q0, .ref (adK si)]) ++ List.replicate (3 - (lg_sl ([.ref q0, .ref (adK si)])).length) Slot.unset).toArray = ls at hl ⊢
  have hl : lv_has ls 3 [(0, .ref q0), (1, .ref (adK si))] := hl
  have hS : va_S A s.heap s.heap [] := va_S.rf
  refine lv_aload_n hx hb d_Tp_isWord_0 rfl (lv_at hl 0 rfl) ?_
  refine tw_geti (D := (dC, dI)) (C := R_Tp) (T := F_Tp) (N := 6) (ci := 4) (kd := 10) (ct := ct) hx hb htb i_Tp hown hK hP hO_0 m0 rfl rfl 4 (by decide) (htb (.fieldLink R_Tp 24 "WaterMen$Tape" "behind" "I") tw_120) (fun _ h9 => h9) rfl d_Tp_isWord_1 (fun x_1 e_1 b_1 => ?_)
  refine lv_aload_n hx hb d_Tp_isWord_4 rfl (lv_at hl 0 rfl) ?_
  refine tw_geti (D := (dC, dI)) (C := R_Tp) (T := F_Tp) (N := 6) (ci := 4) (kd := 10) (ct := ct) hx hb htb i_Tp hown hK hP hO_0 m0 rfl rfl 3 (by decide) (htb (.fieldLink R_Tp 34 "WaterMen$Tape" "start" "I") tw_121) (fun _ h9 => h9) rfl d_Tp_isWord_5 (fun x_2 e_2 b_2 => ?_)
  refine lv_isub hx hb d_Tp_isWord_8 ?_
  refine lv_aload_n hx hb d_Tp_isWord_9 rfl (lv_at hl 1 rfl) ?_
  refine vp_callSi (va_Run.run (va_runV (As := []) (rest := [.int (x_1 - x_2)]) ⟨hx, hb, hml, hown, htb⟩ (c_St_length l adK adV A si hsi) (cwV 0 htb (gd_V tw_142 tw_143 tw_144 tw_6 tw_145) rfl rfl rfl (by decide +kernel) ⟨Nat.le_of_ble_eq_true rfl, Nat.le_of_ble_eq_true rfl⟩) ⟨sw_blind, vk_recv hW0.1 hsi hS, sw_pre hS hW0⟩ rfl rfl hl.1 rfl (lv_room (Nat.le_of_ble_eq_true rfl)) d_Tp_isWord_10 ⟨Nat.le_of_ble_eq_true rfl, Nat.le_of_ble_eq_true rfl⟩)) (fun r_3 er_3 => ?_)
  subst er_3
  refine lv_icmp_eq (tgt := 18) hx hb d_Tp_isWord_13 (by decide) (fun c_4 => ?_) (fun c_4 => ?_)
  · refine lv_iconst (v := 0) hx hb d_Tp_isWord_18 (by decide +kernel) ?_
    refine lv_istore_n (lv' := [(2, .int 0), (0, .ref q0), (1, .ref (adK si))]) hx hb d_Tp_isWord_19 rfl hl (by decide) rfl (fun ls hl => ?_)
    have cut_5 : ∀ (n_5 : Nat) (v2_5 : Int32) (ls : Array Slot), ¬ (v2_5 < 0) → ¬ (7 < v2_5) → (7 : Int32).toInt - (v2_5 : Int32).toInt ≤ (n_5 : Int) → lv_has ls 3 [(0, .ref q0), (1, .ref (adK si)), (2, .int v2_5)] → W p l e (headSpec (.code y_Tp_isWord b_Tp_isWord 3 (some .boolean) :: TB) ({ frames := 4, cells := 0, slots := 0, locals := 85 })).room s m [.ref q0, .ref (adK si)].toArray below meth c s.heap [] 0 0 (MQ below (vp_Si (fun r => (r = 0 ∧ True) ∨ (r = 1 ∧ True))) [.ref q0, .ref (adK si)].toArray s 0 0 (fun _ => False)) (F0 m 20 ls []) := by
      intro n_5
      induction n_5 using Nat.strongRecOn with
      | _ n_5 ih_5 =>
        intro v2_5 ls iv0_5 iv1_5 hm_5 hl
        refine lv_iload_n hx hb d_Tp_isWord_20 rfl (lv_at hl 2 rfl) ?_
        refine lv_aload_n hx hb d_Tp_isWord_21 rfl (lv_at hl 1 rfl) ?_
        refine vp_callSi (va_Run.run (va_runV (As := []) (rest := [.int v2_5]) ⟨hx, hb, hml, hown, htb⟩ (c_St_length l adK adV A si hsi) (cwV 0 htb (gd_V tw_142 tw_143 tw_144 tw_6 tw_145) rfl rfl rfl (by decide +kernel) ⟨Nat.le_of_ble_eq_true rfl, Nat.le_of_ble_eq_true rfl⟩) ⟨sw_blind, vk_recv hW0.1 hsi hS, sw_pre hS hW0⟩ rfl rfl hl.1 rfl (lv_room (Nat.le_of_ble_eq_true rfl)) d_Tp_isWord_22 ⟨Nat.le_of_ble_eq_true rfl, Nat.le_of_ble_eq_true rfl⟩)) (fun r_6 er_6 => ?_)
        subst er_6
        refine lv_icmp_ge (tgt := 55) hx hb d_Tp_isWord_25 (by decide) (fun c_7 => ?_) (fun c_7 => ?_)
        · refine lv_iconst (v := 1) hx hb d_Tp_isWord_55 (by decide +kernel) ?_
          exact W.zret (v := 1) hx hb hr (by decide +kernel) (fun t ht hW => ⟨1, rfl, (Or.inr ⟨rfl, trivial⟩), ht⟩) t_nil d_Tp_isWord_56
        · refine lv_aload_n hx hb d_Tp_isWord_28 rfl (lv_at hl 0 rfl) ?_
          refine tw_getr (D := (dC, dI)) (C := R_Tp) (T := F_Tp) (N := 6) (ci := 4) (kd := 10) (ct := ct) hx hb htb i_Tp hown hK hP hO_0 m0 rfl rfl 0 (by decide) (htb (.fieldLink R_Tp 9 "WaterMen$Tape" "bytes" "[B") tw_118) (fun _ h9 => h9) rfl d_Tp_isWord_29 (fun q_8 e_8 m_8 => ?_)
          refine lv_aload_n hx hb d_Tp_isWord_32 rfl (lv_at hl 0 rfl) ?_
          refine tw_getI (x := x_2) (D := (dC, dI)) (C := R_Tp) (T := F_Tp) (N := 6) (ci := 4) (kd := 10) (ct := ct) hx hb htb i_Tp hown hK hP m0 rfl rfl 3 e_2 (by decide) (htb (.fieldLink R_Tp 34 "WaterMen$Tape" "start" "I") tw_121) (fun _ h9 => h9) rfl d_Tp_isWord_33 ?_
          refine lv_iload_n hx hb d_Tp_isWord_36 rfl (lv_at hl 2 rfl) ?_
          refine lv_iadd hx hb d_Tp_isWord_37 ?_
          refine tw_aldB (ct := ct) hx hb hK hP hO_0 m_8 rfl ((fun (a_0 : Int32) (a_1 : Int32) (a_2 : Int32) (a_3 : Int32) (k_0 : ¬ (a_3 < 0)) (k_1 : ¬ (a_1 < 0)) (k_2 : ¬ (a_0 ≤ a_1)) (k_3 : ¬ (a_2 < 0)) (k_4 : ¬ (400 < a_2)) (k_5 : (a_2 - a_3) = a_0) => (show vp_in ((a_3 + a_1)) 400 from by have z0 : (0 : Int32).toInt = 0 := (by decide +kernel); have z1 : (400 : Int32).toInt = 400 := (by decide +kernel); have r0 := fb_rng (a_0); have r1 := fb_rng (a_1); have r2 := fb_rng (a_2); have r3 := fb_rng (a_3); have e0 := k_0; rw [Int32.lt_iff_toInt_lt, z0] at e0; have e1 := k_1; rw [Int32.lt_iff_toInt_lt, z0] at e1; have e2 := k_2; rw [Int32.le_iff_toInt_le] at e2; have e3 := k_3; rw [Int32.lt_iff_toInt_lt, z0] at e3; have e4 := k_4; rw [Int32.lt_iff_toInt_lt, z1] at e4; obtain ⟨n_0, hn_0, s0⟩ := nd_sub (x := (a_2)) (y := (a_3)) (by omega) (by omega); have e5 := k_5; rw [hn_0, ← Int32.toInt_inj] at e5; obtain ⟨n_1, hn_1, s1⟩ := nd_add (x := (a_3)) (y := (a_1)) (by omega) (by omega); rw [hn_1, vp_in_iff]; omega)) (sLn si) v2_5 x_1 x_2 b_2.1 iv0_5 c_7 b_1.1 b_1.2 c_4) d_Tp_isWord_38 (fun x_9 e_9 b_9 => ?_)
          refine lv_aload_n hx hb d_Tp_isWord_39 rfl (lv_at hl 1 rfl) ?_
          refine lv_iload_n hx hb d_Tp_isWord_40 rfl (lv_at hl 2 rfl) ?_
          refine vp_callSi (va_Run.run (va_runV (As := [.int v2_5]) (rest := [.int x_9]) ⟨hx, hb, hml, hown, htb⟩ (c_St_charAt l adK adV A si hsi v2_5 iv0_5 c_7) (cwV 1 htb (gd_V tw_146 tw_147 tw_148 tw_6 tw_149) rfl rfl rfl (by decide +kernel) ⟨Nat.le_of_ble_eq_true rfl, Nat.le_of_ble_eq_true rfl⟩) ⟨sw_blind, vk_recv hW0.1 hsi hS, sw_pre hS hW0⟩ rfl rfl hl.1 rfl (lv_room (Nat.le_of_ble_eq_true rfl)) d_Tp_isWord_41 ⟨Nat.le_of_ble_eq_true rfl, Nat.le_of_ble_eq_true rfl⟩)) (fun r_10 er_10 => ?_)
          clear er_10
          refine lv_icmp_eq (tgt := 49) hx hb d_Tp_isWord_44 (by decide) (fun c_11 => ?_) (fun c_11 => ?_)
          · refine lv_iinc (v := (v2_5 + 1)) (lv' := [(2, .int (v2_5 + 1)), (0, .ref q0), (1, .ref (adK si))]) hx hb d_Tp_isWord_49 hl (k := 2) rfl rfl (by decide) rfl (fun ls hl => ?_)
            refine lv_goto (tgt := 20) hx hb d_Tp_isWord_52 (by decide) ?_
            exact ih_5 (n_5 - 1) (ms_1 ((fun (a_0 : Int32) (a_1 : Int32) (k_0 : ¬ (a_0 ≤ a_1)) (k_1 : ¬ (7 < a_0)) => (show 1 ≤ (7 : Int32).toInt - (a_1).toInt ∧ (7 : Int32).toInt - ((a_1) + (1 : Int32)).toInt + 1 ≤ (7 : Int32).toInt - (a_1).toInt from by have z0 : (1 : Int32).toInt = 1 := (by decide +kernel); have z1 : (7 : Int32).toInt = 7 := (by decide +kernel); have r0 := fb_rng (a_0); have r1 := fb_rng (a_1); have e0 := k_0; rw [Int32.le_iff_toInt_le] at e0; have e1 := k_1; rw [Int32.lt_iff_toInt_lt, z1] at e1; obtain ⟨n_0, hn_0, s0⟩ := nd_add (x := (a_1)) (y := (1 : Int32)) (by (try rw [z0]); omega) (by (try rw [z0]); omega); rw [z0] at s0; rw [hn_0]; (try rw [z1]); omega)) (sLn si) v2_5 c_7 (sLn_b si hsi).2) hm_5) (v2_5 + 1) _ (show ¬ ((v2_5 + 1) < 0) from by have e0 := iv0_5; rw [Int32.lt_iff_toInt_lt] at e0; have e1 := iv1_5; rw [Int32.lt_iff_toInt_lt] at e1; have z0 : (0 : Int32).toInt = 0 := (by decide +kernel); have z1 : (1 : Int32).toInt = 1 := (by decide +kernel); have z2 : (7 : Int32).toInt = 7 := (by decide +kernel); have ss := fb_addI (x := v2_5) (y := 1) (by omega) (by omega); rw [Int32.lt_iff_toInt_lt]; omega) (show ¬ (7 < (v2_5 + 1)) from ((fun (a_0 : Int32) (a_1 : Int32) (k_0 : ¬ (a_0 ≤ a_1)) (k_1 : ¬ (7 < a_0)) => (show ¬ (7 < (a_1 + 1)) from by have z0 : (1 : Int32).toInt = 1 := (by decide +kernel); have z1 : (7 : Int32).toInt = 7 := (by decide +kernel); have r0 := fb_rng (a_0); have r1 := fb_rng (a_1); have e0 := k_0; rw [Int32.le_iff_toInt_le] at e0; have e1 := k_1; rw [Int32.lt_iff_toInt_lt, z1] at e1; obtain ⟨n_0, hn_0, s0⟩ := nd_add (x := (a_1)) (y := (1 : Int32)) (by (try rw [z0]); omega) (by (try rw [z0]); omega); rw [z0] at s0; rw [hn_0, Int32.lt_iff_toInt_lt, z1]; omega)) (sLn si) v2_5 c_7 (sLn_b si hsi).2)) (by exact ms_2 ((fun (a_0 : Int32) (a_1 : Int32) (k_0 : ¬ (a_0 ≤ a_1)) (k_1 : ¬ (7 < a_0)) => (show 1 ≤ (7 : Int32).toInt - (a_1).toInt ∧ (7 : Int32).toInt - ((a_1) + (1 : Int32)).toInt + 1 ≤ (7 : Int32).toInt - (a_1).toInt from by have z0 : (1 : Int32).toInt = 1 := (by decide +kernel); have z1 : (7 : Int32).toInt = 7 := (by decide +kernel); have r0 := fb_rng (a_0); have r1 := fb_rng (a_1); have e0 := k_0; rw [Int32.le_iff_toInt_le] at e0; have e1 := k_1; rw [Int32.lt_iff_toInt_lt, z1] at e1; obtain ⟨n_0, hn_0, s0⟩ := nd_add (x := (a_1)) (y := (1 : Int32)) (by (try rw [z0]); omega) (by (try rw [z0]); omega); rw [z0] at s0; rw [hn_0]; (try rw [z1]); omega)) (sLn si) v2_5 c_7 (sLn_b si hsi).2) hm_5) (lv_sub hl [1, 2, 0] rfl)
          · refine lv_iconst (v := 0) hx hb d_Tp_isWord_47 (by decide +kernel) ?_
            exact W.zret (v := 0) hx hb hr (by decide +kernel) (fun t ht hW => ⟨0, rfl, (Or.inl ⟨rfl, trivial⟩), ht⟩) t_nil d_Tp_isWord_48
    exact cut_5 4294967296 (0 : Int32) _ (by decide +kernel) (by decide +kernel) (by exact ms_0 _ _) (lv_sub hl [1, 2, 0] rfl)
  · refine lv_iconst (v := 0) hx hb d_Tp_isWord_16 (by decide +kernel) ?_
    exact W.zret (v := 0) hx hb hr (by decide +kernel) (fun t ht hW => ⟨0, rfl, (Or.inl ⟨rfl, trivial⟩), ht⟩) t_nil d_Tp_isWord_17
set_option maxHeartbeats 4000000 in
set_option maxRecDepth 100000 in
theorem c_Tp_kindOfLine_t (l : Launch) (dC : Nat → ClassId) (dI : Nat → Nat → Nat) (ct : Nat → ClassId) (L : List Nat) (f : TF) (hO_0 : Ok L f) (q0 : Nat) (m0 : q0 ∈ L ∧ tk f q0 = 10) (adK adV : Nat → Nat) (A : Nat → Prop)    : Met l y_Tp_kindOfLine (.code y_Tp_kindOfLine b_Tp_kindOfLine 1 (some .int) :: TB) ({ frames := 5, cells := 0, slots := 0, locals := 107 }) (va_Pc [.ref q0] (PRs dC dI (TW ct L f) (TT ct) adK adV A)) (vp_Si (fun r => (r = (-1) ∧ True) ∨ (r = 0 ∧ True) ∨ (r = 1 ∧ True) ∨ (r = 2 ∧ True) ∨ (r = 3 ∧ True) ∨ (r = 4 ∧ True) ∨ (r = 5 ∧ True) ∨ (r = 6 ∧ True) ∨ (r = 7 ∧ True) ∨ (r = 8 ∧ True))) 0 0 (fun _ => False) := by
  refine Met.ofW (cc := b_Tp_kindOfLine) (maxL := 1) (ret := (some .int)) (by decide) rfl ?_
  intro p e s m args below meth c s₁ B hml hv
  obtain ⟨rfl, ⟨hP, hK, hN⟩, hW0⟩ := hv
  have hx := B.exec
  have hb := B.bytes
  have hr := B.returns
  have hts := atoms_spec (ws := (.code y_Tp_kindOfLine b_Tp_kindOfLine 1 (some .int) :: TB)) B.pre
  have htb := fun w (h : w ∈ TB) => hts w (List.mem_cons_of_mem _ h)
  have hown : s.vm.findClass R_Tp = some m.cls := findClass_of_methodNamed B.named
  have hlocks := B.notSynchronized
  have hl := lv_entry ([.ref q0]) (n := 1) (Nat.le_of_ble_eq_true rfl)
  rw [lg_entry_eq]
  generalize (lg_sl ([.ref q0]) ++ List.replicate (1 - (lg_sl ([.ref q0])).length) Slot.unset).toArray = ls at hl ⊢
  have hl : lv_has ls 1 [(0, .ref q0)] := hl
  have hS : va_S A s.heap s.heap [] := va_S.rf
  refine lv_aload_n hx hb d_Tp_kindOfLine_0 rfl (lv_at hl 0 rfl) ?_
  refine va_ldcS hx hb hown (show vk_R R_Tp 70 "fare" (adK 0) s from hW0.2.1 0 (by decide)) d_Tp_kindOfLine_1 ?_
  refine vp_callSi (va_Run.run (va_runV (As := [.ref (adK 0)]) (rest := []) ⟨hx, hb, hml, hown, htb⟩ (c_Tp_isWord_t l dC dI ct L f hO_0 q0 m0 adK adV A 0 (by decide)) (cwV 1 htb (gd_V tw_151 tw_152 tw_153 tw_124 tw_150) rfl rfl rfl (by decide +kernel) ⟨Nat.le_of_ble_eq_true rfl, Nat.le_of_ble_eq_true rfl⟩) ⟨prs_blind, tw_recv hK hP m0 rfl rfl, prs_pre hP hK hN hS hW0⟩ rfl rfl hl.1 rfl (lv_room (Nat.le_of_ble_eq_true rfl)) d_Tp_kindOfLine_3 ⟨Nat.le_of_ble_eq_true rfl, Nat.le_of_ble_eq_true rfl⟩)) (fun r_1 er_1 => ?_)
  rcases er_1 with ⟨rfl, -⟩ | ⟨rfl, -⟩
  · refine lv_if_eq (tgt := 11) hx hb d_Tp_kindOfLine_6 (by decide) (fun _ => ?_) (fun h => absurd (by decide +kernel) h)
    refine lv_aload_n hx hb d_Tp_kindOfLine_11 rfl (lv_at hl 0 rfl) ?_
    refine va_ldcS hx hb hown (show vk_R R_Tp 72 "hour" (adK 1) s from hW0.2.1 1 (by decide)) d_Tp_kindOfLine_12 ?_
    refine vp_callSi (va_Run.run (va_runV (As := [.ref (adK 1)]) (rest := []) ⟨hx, hb, hml, hown, htb⟩ (c_Tp_isWord_t l dC dI ct L f hO_0 q0 m0 adK adV A 1 (by decide)) (cwV 1 htb (gd_V tw_151 tw_152 tw_153 tw_124 tw_150) rfl rfl rfl (by decide +kernel) ⟨Nat.le_of_ble_eq_true rfl, Nat.le_of_ble_eq_true rfl⟩) ⟨prs_blind, tw_recv hK hP m0 rfl rfl, prs_pre hP hK hN hS hW0⟩ rfl rfl hl.1 rfl (lv_room (Nat.le_of_ble_eq_true rfl)) d_Tp_kindOfLine_14 ⟨Nat.le_of_ble_eq_true rfl, Nat.le_of_ble_eq_true rfl⟩)) (fun r_2 er_2 => ?_)
    rcases er_2 with ⟨rfl, -⟩ | ⟨rfl, -⟩
    · refine lv_if_eq (tgt := 22) hx hb d_Tp_kindOfLine_17 (by decide) (fun _ => ?_) (fun h => absurd (by decide +kernel) h)
      refine lv_aload_n hx hb d_Tp_kindOfLine_22 rfl (lv_at hl 0 rfl) ?_
      refine va_ldcS hx hb hown (show vk_R R_Tp 74 "with" (adK 2) s from hW0.2.1 2 (by decide)) d_Tp_kindOfLine_23 ?_
      refine vp_callSi (va_Run.run (va_runV (As := [.ref (adK 2)]) (rest := []) ⟨hx, hb, hml, hown, htb⟩ (c_Tp_isWord_t l dC dI ct L f hO_0 q0 m0 adK adV A 2 (by decide)) (cwV 1 htb (gd_V tw_151 tw_152 tw_153 tw_124 tw_150) rfl rfl rfl (by decide +kernel) ⟨Nat.le_of_ble_eq_true rfl, Nat.le_of_ble_eq_true rfl⟩) ⟨prs_blind, tw_recv hK hP m0 rfl rfl, prs_pre hP hK hN hS hW0⟩ rfl rfl hl.1 rfl (lv_room (Nat.le_of_ble_eq_true rfl)) d_Tp_kindOfLine_25 ⟨Nat.le_of_ble_eq_true rfl, Nat.le_of_ble_eq_true rfl⟩)) (fun r_3 er_3 => ?_)
      rcases er_3 with ⟨rfl, -⟩ | ⟨rfl, -⟩
      · refine lv_if_eq (tgt := 33) hx hb d_Tp_kindOfLine_28 (by decide) (fun _ => ?_) (fun h => absurd (by decide +kernel) h)
        refine lv_aload_n hx hb d_Tp_kindOfLine_33 rfl (lv_at hl 0 rfl) ?_
        refine va_ldcS hx hb hown (show vk_R R_Tp 76 "against" (adK 3) s from hW0.2.1 3 (by decide)) d_Tp_kindOfLine_34 ?_
        refine vp_callSi (va_Run.run (va_runV (As := [.ref (adK 3)]) (rest := []) ⟨hx, hb, hml, hown, htb⟩ (c_Tp_isWord_t l dC dI ct L f hO_0 q0 m0 adK adV A 3 (by decide)) (cwV 1 htb (gd_V tw_151 tw_152 tw_153 tw_124 tw_150) rfl rfl rfl (by decide +kernel) ⟨Nat.le_of_ble_eq_true rfl, Nat.le_of_ble_eq_true rfl⟩) ⟨prs_blind, tw_recv hK hP m0 rfl rfl, prs_pre hP hK hN hS hW0⟩ rfl rfl hl.1 rfl (lv_room (Nat.le_of_ble_eq_true rfl)) d_Tp_kindOfLine_36 ⟨Nat.le_of_ble_eq_true rfl, Nat.le_of_ble_eq_true rfl⟩)) (fun r_4 er_4 => ?_)
        rcases er_4 with ⟨rfl, -⟩ | ⟨rfl, -⟩
        · refine lv_if_eq (tgt := 44) hx hb d_Tp_kindOfLine_39 (by decide) (fun _ => ?_) (fun h => absurd (by decide +kernel) h)
          refine lv_aload_n hx hb d_Tp_kindOfLine_44 rfl (lv_at hl 0 rfl) ?_
          refine va_ldcS hx hb hown (show vk_R R_Tp 78 "sunday" (adK 4) s from hW0.2.1 4 (by decide)) d_Tp_kindOfLine_45 ?_
          refine vp_callSi (va_Run.run (va_runV (As := [.ref (adK 4)]) (rest := []) ⟨hx, hb, hml, hown, htb⟩ (c_Tp_isWord_t l dC dI ct L f hO_0 q0 m0 adK adV A 4 (by decide)) (cwV 1 htb (gd_V tw_151 tw_152 tw_153 tw_124 tw_150) rfl rfl rfl (by decide +kernel) ⟨Nat.le_of_ble_eq_true rfl, Nat.le_of_ble_eq_true rfl⟩) ⟨prs_blind, tw_recv hK hP m0 rfl rfl, prs_pre hP hK hN hS hW0⟩ rfl rfl hl.1 rfl (lv_room (Nat.le_of_ble_eq_true rfl)) d_Tp_kindOfLine_47 ⟨Nat.le_of_ble_eq_true rfl, Nat.le_of_ble_eq_true rfl⟩)) (fun r_5 er_5 => ?_)
          rcases er_5 with ⟨rfl, -⟩ | ⟨rfl, -⟩
          · refine lv_if_eq (tgt := 55) hx hb d_Tp_kindOfLine_50 (by decide) (fun _ => ?_) (fun h => absurd (by decide +kernel) h)
            refine lv_aload_n hx hb d_Tp_kindOfLine_55 rfl (lv_at hl 0 rfl) ?_
            refine va_ldcS hx hb hown (show vk_R R_Tp 80 "least" (adK 5) s from hW0.2.1 5 (by decide)) d_Tp_kindOfLine_56 ?_
            refine vp_callSi (va_Run.run (va_runV (As := [.ref (adK 5)]) (rest := []) ⟨hx, hb, hml, hown, htb⟩ (c_Tp_isWord_t l dC dI ct L f hO_0 q0 m0 adK adV A 5 (by decide)) (cwV 1 htb (gd_V tw_151 tw_152 tw_153 tw_124 tw_150) rfl rfl rfl (by decide +kernel) ⟨Nat.le_of_ble_eq_true rfl, Nat.le_of_ble_eq_true rfl⟩) ⟨prs_blind, tw_recv hK hP m0 rfl rfl, prs_pre hP hK hN hS hW0⟩ rfl rfl hl.1 rfl (lv_room (Nat.le_of_ble_eq_true rfl)) d_Tp_kindOfLine_58 ⟨Nat.le_of_ble_eq_true rfl, Nat.le_of_ble_eq_true rfl⟩)) (fun r_6 er_6 => ?_)
            rcases er_6 with ⟨rfl, -⟩ | ⟨rfl, -⟩
            · refine lv_if_eq (tgt := 66) hx hb d_Tp_kindOfLine_61 (by decide) (fun _ => ?_) (fun h => absurd (by decide +kernel) h)
              refine lv_aload_n hx hb d_Tp_kindOfLine_66 rfl (lv_at hl 0 rfl) ?_
              refine va_ldcS hx hb hown (show vk_R R_Tp 82 "bridge" (adK 6) s from hW0.2.1 6 (by decide)) d_Tp_kindOfLine_67 ?_
              refine vp_callSi (va_Run.run (va_runV (As := [.ref (adK 6)]) (rest := []) ⟨hx, hb, hml, hown, htb⟩ (c_Tp_isWord_t l dC dI ct L f hO_0 q0 m0 adK adV A 6 (by decide)) (cwV 1 htb (gd_V tw_151 tw_152 tw_153 tw_124 tw_150) rfl rfl rfl (by decide +kernel) ⟨Nat.le_of_ble_eq_true rfl, Nat.le_of_ble_eq_true rfl⟩) ⟨prs_blind, tw_recv hK hP m0 rfl rfl, prs_pre hP hK hN hS hW0⟩ rfl rfl hl.1 rfl (lv_room (Nat.le_of_ble_eq_true rfl)) d_Tp_kindOfLine_69 ⟨Nat.le_of_ble_eq_true rfl, Nat.le_of_ble_eq_true rfl⟩)) (fun r_7 er_7 => ?_)
              rcases er_7 with ⟨rfl, -⟩ | ⟨rfl, -⟩
              · refine lv_if_eq (tgt := 78) hx hb d_Tp_kindOfLine_72 (by decide) (fun _ => ?_) (fun h => absurd (by decide +kernel) h)
                refine lv_aload_n hx hb d_Tp_kindOfLine_78 rfl (lv_at hl 0 rfl) ?_
                refine va_ldcS hx hb hown (show vk_R R_Tp 84 "head" (adK 7) s from hW0.2.1 7 (by decide)) d_Tp_kindOfLine_79 ?_
                refine vp_callSi (va_Run.run (va_runV (As := [.ref (adK 7)]) (rest := []) ⟨hx, hb, hml, hown, htb⟩ (c_Tp_isWord_t l dC dI ct L f hO_0 q0 m0 adK adV A 7 (by decide)) (cwV 1 htb (gd_V tw_151 tw_152 tw_153 tw_124 tw_150) rfl rfl rfl (by decide +kernel) ⟨Nat.le_of_ble_eq_true rfl, Nat.le_of_ble_eq_true rfl⟩) ⟨prs_blind, tw_recv hK hP m0 rfl rfl, prs_pre hP hK hN hS hW0⟩ rfl rfl hl.1 rfl (lv_room (Nat.le_of_ble_eq_true rfl)) d_Tp_kindOfLine_81 ⟨Nat.le_of_ble_eq_true rfl, Nat.le_of_ble_eq_true rfl⟩)) (fun r_8 er_8 => ?_)
                rcases er_8 with ⟨rfl, -⟩ | ⟨rfl, -⟩
                · refine lv_if_eq (tgt := 90) hx hb d_Tp_kindOfLine_84 (by decide) (fun _ => ?_) (fun h => absurd (by decide +kernel) h)
                  refine lv_aload_n hx hb d_Tp_kindOfLine_90 rfl (lv_at hl 0 rfl) ?_
                  refine va_ldcS hx hb hown (show vk_R R_Tp 86 "oars" (adK 8) s from hW0.2.1 8 (by decide)) d_Tp_kindOfLine_91 ?_
                  refine vp_callSi (va_Run.run (va_runV (As := [.ref (adK 8)]) (rest := []) ⟨hx, hb, hml, hown, htb⟩ (c_Tp_isWord_t l dC dI ct L f hO_0 q0 m0 adK adV A 8 (by decide)) (cwV 1 htb (gd_V tw_151 tw_152 tw_153 tw_124 tw_150) rfl rfl rfl (by decide +kernel) ⟨Nat.le_of_ble_eq_true rfl, Nat.le_of_ble_eq_true rfl⟩) ⟨prs_blind, tw_recv hK hP m0 rfl rfl, prs_pre hP hK hN hS hW0⟩ rfl rfl hl.1 rfl (lv_room (Nat.le_of_ble_eq_true rfl)) d_Tp_kindOfLine_93 ⟨Nat.le_of_ble_eq_true rfl, Nat.le_of_ble_eq_true rfl⟩)) (fun r_9 er_9 => ?_)
                  rcases er_9 with ⟨rfl, -⟩ | ⟨rfl, -⟩
                  · refine lv_if_eq (tgt := 104) hx hb d_Tp_kindOfLine_96 (by decide) (fun _ => ?_) (fun h => absurd (by decide +kernel) h)
                    refine lv_iconst (v := (-1)) hx hb d_Tp_kindOfLine_104 (by decide +kernel) ?_
                    exact W.iret (v := (-1)) hx hb hr (fun t ht hW => ⟨(-1), rfl, (Or.inl ⟨rfl, trivial⟩), ht⟩) t_nil d_Tp_kindOfLine_105
                  · refine lv_if_eq (tgt := 104) hx hb d_Tp_kindOfLine_96 (by decide) (fun h => absurd h (by decide +kernel)) (fun _ => ?_)
                    refine lv_bipush (v := 8) hx hb d_Tp_kindOfLine_99 (by decide +kernel) ?_
                    refine lv_goto (tgt := 105) hx hb d_Tp_kindOfLine_101 (by decide) ?_
                    exact W.iret (v := 8) hx hb hr (fun t ht hW => ⟨8, rfl, (Or.inr (Or.inr (Or.inr (Or.inr (Or.inr (Or.inr (Or.inr (Or.inr (Or.inr ⟨rfl, trivial⟩))))))))), ht⟩) t_nil d_Tp_kindOfLine_105
                · refine lv_if_eq (tgt := 90) hx hb d_Tp_kindOfLine_84 (by decide) (fun h => absurd h (by decide +kernel)) (fun _ => ?_)
                  refine lv_bipush (v := 7) hx hb d_Tp_kindOfLine_87 (by decide +kernel) ?_
                  exact W.iret (v := 7) hx hb hr (fun t ht hW => ⟨7, rfl, (Or.inr (Or.inr (Or.inr (Or.inr (Or.inr (Or.inr (Or.inr (Or.inr (Or.inl ⟨rfl, trivial⟩))))))))), ht⟩) t_nil d_Tp_kindOfLine_89
              · refine lv_if_eq (tgt := 78) hx hb d_Tp_kindOfLine_72 (by decide) (fun h => absurd h (by decide +kernel)) (fun _ => ?_)
                refine lv_bipush (v := 6) hx hb d_Tp_kindOfLine_75 (by decide +kernel) ?_
                exact W.iret (v := 6) hx hb hr (fun t ht hW => ⟨6, rfl, (Or.inr (Or.inr (Or.inr (Or.inr (Or.inr (Or.inr (Or.inr (Or.inl ⟨rfl, trivial⟩)))))))), ht⟩) t_nil d_Tp_kindOfLine_77
            · refine lv_if_eq (tgt := 66) hx hb d_Tp_kindOfLine_61 (by decide) (fun h => absurd h (by decide +kernel)) (fun _ => ?_)
              refine lv_iconst (v := 5) hx hb d_Tp_kindOfLine_64 (by decide +kernel) ?_
              exact W.iret (v := 5) hx hb hr (fun t ht hW => ⟨5, rfl, (Or.inr (Or.inr (Or.inr (Or.inr (Or.inr (Or.inr (Or.inl ⟨rfl, trivial⟩))))))), ht⟩) t_nil d_Tp_kindOfLine_65
          · refine lv_if_eq (tgt := 55) hx hb d_Tp_kindOfLine_50 (by decide) (fun h => absurd h (by decide +kernel)) (fun _ => ?_)
            refine lv_iconst (v := 4) hx hb d_Tp_kindOfLine_53 (by decide +kernel) ?_
            exact W.iret (v := 4) hx hb hr (fun t ht hW => ⟨4, rfl, (Or.inr (Or.inr (Or.inr (Or.inr (Or.inr (Or.inl ⟨rfl, trivial⟩)))))), ht⟩) t_nil d_Tp_kindOfLine_54
        · refine lv_if_eq (tgt := 44) hx hb d_Tp_kindOfLine_39 (by decide) (fun h => absurd h (by decide +kernel)) (fun _ => ?_)
          refine lv_iconst (v := 3) hx hb d_Tp_kindOfLine_42 (by decide +kernel) ?_
          exact W.iret (v := 3) hx hb hr (fun t ht hW => ⟨3, rfl, (Or.inr (Or.inr (Or.inr (Or.inr (Or.inl ⟨rfl, trivial⟩))))), ht⟩) t_nil d_Tp_kindOfLine_43
      · refine lv_if_eq (tgt := 33) hx hb d_Tp_kindOfLine_28 (by decide) (fun h => absurd h (by decide +kernel)) (fun _ => ?_)
        refine lv_iconst (v := 2) hx hb d_Tp_kindOfLine_31 (by decide +kernel) ?_
        exact W.iret (v := 2) hx hb hr (fun t ht hW => ⟨2, rfl, (Or.inr (Or.inr (Or.inr (Or.inl ⟨rfl, trivial⟩)))), ht⟩) t_nil d_Tp_kindOfLine_32
    · refine lv_if_eq (tgt := 22) hx hb d_Tp_kindOfLine_17 (by decide) (fun h => absurd h (by decide +kernel)) (fun _ => ?_)
      refine lv_iconst (v := 1) hx hb d_Tp_kindOfLine_20 (by decide +kernel) ?_
      exact W.iret (v := 1) hx hb hr (fun t ht hW => ⟨1, rfl, (Or.inr (Or.inr (Or.inl ⟨rfl, trivial⟩))), ht⟩) t_nil d_Tp_kindOfLine_21
  · refine lv_if_eq (tgt := 11) hx hb d_Tp_kindOfLine_6 (by decide) (fun h => absurd h (by decide +kernel)) (fun _ => ?_)
    refine lv_iconst (v := 0) hx hb d_Tp_kindOfLine_9 (by decide +kernel) ?_
    exact W.iret (v := 0) hx hb hr (fun t ht hW => ⟨0, rfl, (Or.inr (Or.inl ⟨rfl, trivial⟩)), ht⟩) t_nil d_Tp_kindOfLine_10
