def wp_Tp_hasRoomForFive_w (L : List Nat) (f : TF) (q0 : Nat) (Q : Int32 → Prop) : Prop := ∀ x_1 : Int32, ti f q0 1 = x_1 → ((380 < x_1 → Q 0) ∧ (¬ (380 < x_1) → Q 1))
set_option maxHeartbeats 4000000 in
set_option maxRecDepth 100000 in
theorem c_Tp_hasRoomForFive_w (l : Launch) (dC : Nat → ClassId) (dI : Nat → Nat → Nat) (ct : Nat → ClassId) (L : List Nat) (f : TF) (hO_0 : Ok L f) (q0 : Nat) (m0 : q0 ∈ L ∧ tk f q0 = 10)    (Q : Int32 → Prop) (hQ : wp_Tp_hasRoomForFive_w L f q0 Q) : Met l y_Tp_hasRoomForFive (.code y_Tp_hasRoomForFive b_Tp_hasRoomForFive 1 (some .boolean) :: TB) ({ frames := 0, cells := 0, slots := 0, locals := 0 }) (va_Pc [.ref q0] (PR dC dI (TW ct L f) (TT ct))) (vp_Si (fun r => ((r = 0 ∧ True) ∨ (r = 1 ∧ True)) ∧ Q r)) 0 0 (fun _ => False) := by
  refine Met.ofW (cc := b_Tp_hasRoomForFive) (maxL := 1) (ret := (some .boolean)) (by decide) rfl ?_
  intro p e s m args below meth c s₁ B hml hv
  obtain ⟨rfl, hP, hK, hN⟩ := hv
  have hx := B.exec
  have hb := B.bytes
  have hr := B.returns
  have hts := atoms_spec (ws := (.code y_Tp_hasRoomForFive b_Tp_hasRoomForFive 1 (some .boolean) :: TB)) B.pre
  have htb := fun w (h : w ∈ TB) => hts w (List.mem_cons_of_mem _ h)
  have hown : s.vm.findClass R_Tp = some m.cls := findClass_of_methodNamed B.named
  have hlocks := B.notSynchronized
  have hl := lv_entry ([.ref q0]) (n := 1) (Nat.le_of_ble_eq_true rfl)
  rw [lg_entry_eq]
  generalize (lg_sl ([.ref q0]) ++ List.replicate (1 - (lg_sl ([.ref q0])).length) Slot.unset).toArray = ls at hl ⊢
  have hl : lv_has ls 1 [(0, .ref q0)] := hl
  unfold wp_Tp_hasRoomForFive_w at hQ
  refine lv_aload_n hx hb d_Tp_hasRoomForFive_0 rfl (lv_at hl 0 rfl) ?_
  refine tw_geti (D := (dC, dI)) (C := R_Tp) (T := F_Tp) (N := 6) (ci := 4) (kd := 10) (ct := ct) hx hb htb i_Tp hown hK hP hO_0 m0 rfl rfl 1 (by decide) (htb (.fieldLink R_Tp 15 "WaterMen$Tape" "length" "I") tw_175) (fun _ h9 => h9) rfl d_Tp_hasRoomForFive_1 (fun x_1 e_1 b_1 => ?_)
  have hQ := hQ x_1 e_1
  refine lv_sipush (v := 380) hx hb d_Tp_hasRoomForFive_4 (by decide +kernel) ?_
  refine lv_icmp_gt (tgt := 14) hx hb d_Tp_hasRoomForFive_7 (by decide) (fun c_2 => ?_) (fun c_2 => ?_)
  · have hQ := hQ.1 c_2
    refine lv_iconst (v := 0) hx hb d_Tp_hasRoomForFive_14 (by decide +kernel) ?_
    exact W.zret (v := 0) hx hb hr (by decide +kernel) (fun t ht hW => ⟨0, rfl, ⟨(Or.inl ⟨rfl, trivial⟩), hQ⟩, ht⟩) t_nil d_Tp_hasRoomForFive_15
  · have hQ := hQ.2 c_2
    refine lv_iconst (v := 1) hx hb d_Tp_hasRoomForFive_10 (by decide +kernel) ?_
    refine lv_goto (tgt := 15) hx hb d_Tp_hasRoomForFive_11 (by decide) ?_
    exact W.zret (v := 1) hx hb hr (by decide +kernel) (fun t ht hW => ⟨1, rfl, ⟨(Or.inr ⟨rfl, trivial⟩), hQ⟩, ht⟩) t_nil d_Tp_hasRoomForFive_15
def W_Tp_append_w : List (Nat × Nat) := [(10, 1), (11, 1000)]
def wp_Tp_append_w (L : List Nat) (f : TF) (q0 : Nat) (p_0 : Int32) (Q : List Nat → TF → Prop) : Prop := ∀ x_1 : Int32, ti f q0 1 = x_1 → ((x_1 ≤ 396 → ∀ q_3 : Nat, tr f q0 0 = some q_3 → ∀ f_1 : TF, f_1 = sI f q_3 (x_1 : Int32).toNatClampNeg (vp_nar .byte ((((p_0).toUInt32 >>> ((24 : Int32).toUInt32 &&& Int32.toUInt32 31)).toInt32).toInt8.toInt32)) → Ok L f_1 → ∀ f_2 : TF, f_2 = sI f_1 q_3 ((x_1 + 1) : Int32).toNatClampNeg (vp_nar .byte ((((p_0).toUInt32 >>> ((16 : Int32).toUInt32 &&& Int32.toUInt32 31)).toInt32).toInt8.toInt32)) → Ok L f_2 → ∀ f_3 : TF, f_3 = sI f_2 q_3 ((x_1 + 2) : Int32).toNatClampNeg (vp_nar .byte ((((p_0).toUInt32 >>> ((8 : Int32).toUInt32 &&& Int32.toUInt32 31)).toInt32).toInt8.toInt32)) → Ok L f_3 → ∀ f_4 : TF, f_4 = sI f_3 q_3 ((x_1 + 3) : Int32).toNatClampNeg (vp_nar .byte ((p_0).toInt8.toInt32)) → Ok L f_4 → ∀ f_5 : TF, f_5 = sI f_4 q0 1 (x_1 + 4) → Ok L f_5 → Q L f_5) ∧ (¬ (x_1 ≤ 396) → Q L f))
set_option maxHeartbeats 4000000 in
set_option maxRecDepth 100000 in
theorem c_Tp_append_w (l : Launch) (dC : Nat → ClassId) (dI : Nat → Nat → Nat) (ct : Nat → ClassId) (L : List Nat) (f : TF) (hO_0 : Ok L f) (q0 : Nat) (m0 : q0 ∈ L ∧ tk f q0 = 10) (sz : Nat) (p_0 : Int32)   (Q : List Nat → TF → Prop) (hQ : wp_Tp_append_w L f q0 p_0 Q) : Met l y_Tp_append (.code y_Tp_append b_Tp_append 2 none :: TB) ({ frames := 0, cells := 0, slots := 0, locals := 0 }) (va_Pc [.ref q0, .int p_0] (PC dC dI (TW ct L f) (TT ct) sz)) (va_Qv (fun (u : TSt) => Ok u.1 u.2 ∧ Ext W_Tp_append_w L f u.1 u.2 ∧ (True) ∧ Q u.1 u.2) (fun (u : TSt) t => va_P (dC, dI) vwCl (TW ct u.1 u.2) t.heap ∧ va_K (dC, dI) vwCl (TT ct) t ∧ va_D (va_A (TW ct L f) sz) (TW ct u.1 u.2)) (va_A (TW ct L f) sz)) 0 0 (va_A (TW ct L f) sz) := by
  refine Met.ofW (cc := b_Tp_append) (maxL := 2) (ret := none) (by decide) rfl ?_
  intro p e s m args below meth c s₁ B hml hv
  obtain ⟨rfl, hsz, hP, hK, hD0, hN⟩ := hv
  have hx := B.exec
  have hb := B.bytes
  have hr := B.returns
  have hts := atoms_spec (ws := (.code y_Tp_append b_Tp_append 2 none :: TB)) B.pre
  have htb := fun w (h : w ∈ TB) => hts w (List.mem_cons_of_mem _ h)
  have hown : s.vm.findClass R_Tp = some m.cls := findClass_of_methodNamed B.named
  have hlocks := B.notSynchronized
  have hl := lv_entry ([.ref q0, .int p_0]) (n := 2) (Nat.le_of_ble_eq_true rfl)
  rw [lg_entry_eq]
  generalize (lg_sl ([.ref q0, .int p_0]) ++ List.replicate (2 - (lg_sl ([.ref q0, .int p_0])).length) Slot.unset).toArray = ls at hl ⊢
  have hl : lv_has ls 2 [(0, .ref q0), (1, .int p_0)] := hl
  subst hsz
  have hD := hD0.self (sz := s.heap.size)
  obtain ⟨A, hAe⟩ : ∃ A, va_A (TW ct L f) s.heap.size = A := ⟨_, rfl⟩
  rw [hAe] at hD
  have hA : ∀ q : Nat, s.heap.size ≤ q → A q := fun q h => by rw [← hAe]; exact Or.inr h
  have hS : va_S A s.heap s.heap [] := va_S.rf
  have hA_0 : Ext [] L f L f := Ext.rf
  suffices hGo : ∀ (H : Heap) (locs : List Loc), va_P (dC, dI) vwCl (TW ct L f) H → va_S A s.heap H locs → W p l e (headSpec (.code y_Tp_append b_Tp_append 2 none :: TB) ({ frames := 0, cells := 0, slots := 0, locals := 0 })).room s m [.ref q0, .int p_0].toArray below meth c H locs 0 0 (MQ below (va_Qv (fun (u : TSt) => Ok u.1 u.2 ∧ Ext W_Tp_append_w L f u.1 u.2 ∧ (True) ∧ Q u.1 u.2) (fun (u : TSt) t => va_P (dC, dI) vwCl (TW ct u.1 u.2) t.heap ∧ va_K (dC, dI) vwCl (TT ct) t ∧ va_D (va_A (TW ct L f) s.heap.size) (TW ct u.1 u.2)) (va_A (TW ct L f) s.heap.size)) [.ref q0, .int p_0].toArray s 0 0 (va_A (TW ct L f) s.heap.size)) (F0 m 0 ls []) from hGo _ _ hP hS
  clear hP hS
  intro H locs hP hS
  unfold wp_Tp_append_w at hQ
  refine lv_aload_n hx hb d_Tp_append_0 rfl (lv_at hl 0 rfl) ?_
  refine tw_geti (D := (dC, dI)) (C := R_Tp) (T := F_Tp) (N := 6) (ci := 4) (kd := 10) (ct := ct) hx hb htb i_Tp hown hK hP hO_0 m0 rfl rfl 1 (by decide) (htb (.fieldLink R_Tp 15 "WaterMen$Tape" "length" "I") tw_175) (fun _ h9 => h9) rfl d_Tp_append_1 (fun x_1 e_1 b_1 => ?_)
  have hQ := hQ x_1 e_1
  refine lv_sipush (v := 396) hx hb d_Tp_append_4 (by decide +kernel) ?_
  refine lv_icmp_le (tgt := 11) hx hb d_Tp_append_7 (by decide) (fun c_2 => ?_) (fun c_2 => ?_)
  · have hQ := hQ.1 c_2
    refine lv_aload_n hx hb d_Tp_append_11 rfl (lv_at hl 0 rfl) ?_
    refine tw_getr (D := (dC, dI)) (C := R_Tp) (T := F_Tp) (N := 6) (ci := 4) (kd := 10) (ct := ct) hx hb htb i_Tp hown hK hP hO_0 m0 rfl rfl 0 (by decide) (htb (.fieldLink R_Tp 9 "WaterMen$Tape" "bytes" "[B") tw_181) (fun _ h9 => h9) rfl d_Tp_append_12 (fun q_3 e_3 m_3 => ?_)
    have hQ := hQ q_3 e_3
    refine lv_aload_n hx hb d_Tp_append_15 rfl (lv_at hl 0 rfl) ?_
    refine tw_getI (x := x_1) (D := (dC, dI)) (C := R_Tp) (T := F_Tp) (N := 6) (ci := 4) (kd := 10) (ct := ct) hx hb htb i_Tp hown hK hP m0 rfl rfl 1 e_1 (by decide) (htb (.fieldLink R_Tp 15 "WaterMen$Tape" "length" "I") tw_175) (fun _ h9 => h9) rfl d_Tp_append_16 ?_
    refine lv_iload_n hx hb d_Tp_append_19 rfl (lv_at hl 1 rfl) ?_
    refine lv_bipush (v := 24) hx hb d_Tp_append_20 (by decide +kernel) ?_
    refine lv_iushr hx hb d_Tp_append_22 rfl ?_
    refine lv_i2b hx hb d_Tp_append_23 rfl ?_
    refine tw_astB (ct := ct) (x := (((p_0).toUInt32 >>> ((24 : Int32).toUInt32 &&& Int32.toUInt32 31)).toInt32).toInt8.toInt32) hx hb hK hP hD hS hO_0 m_3 rfl ((fun (a_0 : Int32) (k_0 : ¬ (a_0 < 0)) (k_1 : a_0 ≤ 396) => (show vp_in (a_0) 400 from by have z0 : (0 : Int32).toInt = 0 := (by decide +kernel); have z1 : (396 : Int32).toInt = 396 := (by decide +kernel); have r0 := fb_rng (a_0); have e0 := k_0; rw [Int32.lt_iff_toInt_lt, z0] at e0; have e1 := k_1; rw [Int32.le_iff_toInt_le, z1] at e1; rw [vp_in_iff]; omega)) x_1 b_1.1 c_2) (i32_full _) d_Tp_append_24 (fun f_1 H locs hP hD hS hO_1 hE_1 w_4 ow_4 hF_1 => ?_)
    have hA_1 := hA_0.trans hE_1
    have hQ := hQ f_1 hF_1
    have hQ := hQ hO_1
    refine lv_aload_n hx hb d_Tp_append_25 rfl (lv_at hl 0 rfl) ?_
    refine tw_getR (D := (dC, dI)) (C := R_Tp) (T := F_Tp) (N := 6) (ci := 4) (kd := 10) (ct := ct) hx hb htb i_Tp hown hK hP (hA_1.m m0) rfl rfl 0 ((hA_1.er m0 rfl).trans e_3) (by decide) (htb (.fieldLink R_Tp 9 "WaterMen$Tape" "bytes" "[B") tw_181) (fun _ h9 => h9) rfl d_Tp_append_26 ?_
    refine hb_tv (.ref q_3) rfl ?_
    refine lv_aload_n hx hb d_Tp_append_29 rfl (lv_at hl 0 rfl) ?_
    refine tw_getI (x := x_1) (D := (dC, dI)) (C := R_Tp) (T := F_Tp) (N := 6) (ci := 4) (kd := 10) (ct := ct) hx hb htb i_Tp hown hK hP (hA_1.m m0) rfl rfl 1 ((hA_1.ei m0 rfl).trans e_1) (by decide) (htb (.fieldLink R_Tp 15 "WaterMen$Tape" "length" "I") tw_175) (fun _ h9 => h9) rfl d_Tp_append_30 ?_
    refine lv_iconst (v := 1) hx hb d_Tp_append_33 (by decide +kernel) ?_
    refine lv_iadd hx hb d_Tp_append_34 ?_
    refine lv_iload_n hx hb d_Tp_append_35 rfl (lv_at hl 1 rfl) ?_
    refine lv_bipush (v := 16) hx hb d_Tp_append_36 (by decide +kernel) ?_
    refine lv_iushr hx hb d_Tp_append_38 rfl ?_
    refine lv_i2b hx hb d_Tp_append_39 rfl ?_
    refine tw_astB (ct := ct) (x := (((p_0).toUInt32 >>> ((16 : Int32).toUInt32 &&& Int32.toUInt32 31)).toInt32).toInt8.toInt32) hx hb hK hP hD hS hO_1 (hA_1.m m_3) rfl ((fun (a_0 : Int32) (k_0 : ¬ (a_0 < 0)) (k_1 : a_0 ≤ 396) => (show vp_in ((a_0 + 1)) 400 from by have z0 : (0 : Int32).toInt = 0 := (by decide +kernel); have z1 : (1 : Int32).toInt = 1 := (by decide +kernel); have z2 : (396 : Int32).toInt = 396 := (by decide +kernel); have r0 := fb_rng (a_0); have e0 := k_0; rw [Int32.lt_iff_toInt_lt, z0] at e0; have e1 := k_1; rw [Int32.le_iff_toInt_le, z2] at e1; obtain ⟨n_0, hn_0, s0⟩ := nd_add (x := (a_0)) (y := (1 : Int32)) (by (try rw [z1]); omega) (by (try rw [z1]); omega); rw [z1] at s0; rw [hn_0, vp_in_iff]; omega)) x_1 b_1.1 c_2) (i32_full _) d_Tp_append_40 (fun f_2 H locs hP hD hS hO_2 hE_2 w_5 ow_5 hF_2 => ?_)
    have hA_2 := hA_1.trans hE_2
    have hQ := hQ f_2 hF_2
    have hQ := hQ hO_2
    refine lv_aload_n hx hb d_Tp_append_41 rfl (lv_at hl 0 rfl) ?_
    refine tw_getR (D := (dC, dI)) (C := R_Tp) (T := F_Tp) (N := 6) (ci := 4) (kd := 10) (ct := ct) hx hb htb i_Tp hown hK hP (hA_2.m m0) rfl rfl 0 ((hA_2.er m0 rfl).trans e_3) (by decide) (htb (.fieldLink R_Tp 9 "WaterMen$Tape" "bytes" "[B") tw_181) (fun _ h9 => h9) rfl d_Tp_append_42 ?_
    refine hb_tv (.ref q_3) rfl ?_
    refine lv_aload_n hx hb d_Tp_append_45 rfl (lv_at hl 0 rfl) ?_
    refine tw_getI (x := x_1) (D := (dC, dI)) (C := R_Tp) (T := F_Tp) (N := 6) (ci := 4) (kd := 10) (ct := ct) hx hb htb i_Tp hown hK hP (hA_2.m m0) rfl rfl 1 ((hA_2.ei m0 rfl).trans e_1) (by decide) (htb (.fieldLink R_Tp 15 "WaterMen$Tape" "length" "I") tw_175) (fun _ h9 => h9) rfl d_Tp_append_46 ?_
    refine lv_iconst (v := 2) hx hb d_Tp_append_49 (by decide +kernel) ?_
    refine lv_iadd hx hb d_Tp_append_50 ?_
    refine lv_iload_n hx hb d_Tp_append_51 rfl (lv_at hl 1 rfl) ?_
    refine lv_bipush (v := 8) hx hb d_Tp_append_52 (by decide +kernel) ?_
    refine lv_iushr hx hb d_Tp_append_54 rfl ?_
    refine lv_i2b hx hb d_Tp_append_55 rfl ?_
    refine tw_astB (ct := ct) (x := (((p_0).toUInt32 >>> ((8 : Int32).toUInt32 &&& Int32.toUInt32 31)).toInt32).toInt8.toInt32) hx hb hK hP hD hS hO_2 (hA_2.m m_3) rfl ((fun (a_0 : Int32) (k_0 : ¬ (a_0 < 0)) (k_1 : a_0 ≤ 396) => (show vp_in ((a_0 + 2)) 400 from by have z0 : (0 : Int32).toInt = 0 := (by decide +kernel); have z1 : (2 : Int32).toInt = 2 := (by decide +kernel); have z2 : (396 : Int32).toInt = 396 := (by decide +kernel); have r0 := fb_rng (a_0); have e0 := k_0; rw [Int32.lt_iff_toInt_lt, z0] at e0; have e1 := k_1; rw [Int32.le_iff_toInt_le, z2] at e1; obtain ⟨n_0, hn_0, s0⟩ := nd_add (x := (a_0)) (y := (2 : Int32)) (by (try rw [z1]); omega) (by (try rw [z1]); omega); rw [z1] at s0; rw [hn_0, vp_in_iff]; omega)) x_1 b_1.1 c_2) (i32_full _) d_Tp_append_56 (fun f_3 H locs hP hD hS hO_3 hE_3 w_6 ow_6 hF_3 => ?_)
    have hA_3 := hA_2.trans hE_3
    have hQ := hQ f_3 hF_3
    have hQ := hQ hO_3
    refine lv_aload_n hx hb d_Tp_append_57 rfl (lv_at hl 0 rfl) ?_
    refine tw_getR (D := (dC, dI)) (C := R_Tp) (T := F_Tp) (N := 6) (ci := 4) (kd := 10) (ct := ct) hx hb htb i_Tp hown hK hP (hA_3.m m0) rfl rfl 0 ((hA_3.er m0 rfl).trans e_3) (by decide) (htb (.fieldLink R_Tp 9 "WaterMen$Tape" "bytes" "[B") tw_181) (fun _ h9 => h9) rfl d_Tp_append_58 ?_
    refine hb_tv (.ref q_3) rfl ?_
    refine lv_aload_n hx hb d_Tp_append_61 rfl (lv_at hl 0 rfl) ?_
    refine tw_getI (x := x_1) (D := (dC, dI)) (C := R_Tp) (T := F_Tp) (N := 6) (ci := 4) (kd := 10) (ct := ct) hx hb htb i_Tp hown hK hP (hA_3.m m0) rfl rfl 1 ((hA_3.ei m0 rfl).trans e_1) (by decide) (htb (.fieldLink R_Tp 15 "WaterMen$Tape" "length" "I") tw_175) (fun _ h9 => h9) rfl d_Tp_append_62 ?_
    refine lv_iconst (v := 3) hx hb d_Tp_append_65 (by decide +kernel) ?_
    refine lv_iadd hx hb d_Tp_append_66 ?_
    refine lv_iload_n hx hb d_Tp_append_67 rfl (lv_at hl 1 rfl) ?_
    refine lv_i2b hx hb d_Tp_append_68 rfl ?_
    refine tw_astB (ct := ct) (x := (p_0).toInt8.toInt32) hx hb hK hP hD hS hO_3 (hA_3.m m_3) rfl ((fun (a_0 : Int32) (k_0 : ¬ (a_0 < 0)) (k_1 : a_0 ≤ 396) => (show vp_in ((a_0 + 3)) 400 from by have z0 : (0 : Int32).toInt = 0 := (by decide +kernel); have z1 : (3 : Int32).toInt = 3 := (by decide +kernel); have z2 : (396 : Int32).toInt = 396 := (by decide +kernel); have r0 := fb_rng (a_0); have e0 := k_0; rw [Int32.lt_iff_toInt_lt, z0] at e0; have e1 := k_1; rw [Int32.le_iff_toInt_le, z2] at e1; obtain ⟨n_0, hn_0, s0⟩ := nd_add (x := (a_0)) (y := (3 : Int32)) (by (try rw [z1]); omega) (by (try rw [z1]); omega); rw [z1] at s0; rw [hn_0, vp_in_iff]; omega)) x_1 b_1.1 c_2) (i32_full _) d_Tp_append_69 (fun f_4 H locs hP hD hS hO_4 hE_4 w_7 ow_7 hF_4 => ?_)
    have hA_4 := hA_3.trans hE_4
    have hQ := hQ f_4 hF_4
    have hQ := hQ hO_4
    refine lv_aload_n hx hb d_Tp_append_70 rfl (lv_at hl 0 rfl) ?_
    refine lv_dup hx hb d_Tp_append_71 rfl ?_
    refine tw_getI (x := x_1) (D := (dC, dI)) (C := R_Tp) (T := F_Tp) (N := 6) (ci := 4) (kd := 10) (ct := ct) hx hb htb i_Tp hown hK hP (hA_4.m m0) rfl rfl 1 ((hA_4.ei m0 rfl).trans e_1) (by decide) (htb (.fieldLink R_Tp 15 "WaterMen$Tape" "length" "I") tw_175) (fun _ h9 => h9) rfl d_Tp_append_72 ?_
    refine lv_iconst (v := 4) hx hb d_Tp_append_75 (by decide +kernel) ?_
    refine lv_iadd hx hb d_Tp_append_76 ?_
    refine tw_puti (v := (x_1 + 4)) (D := (dC, dI)) (C := R_Tp) (T := F_Tp) (N := 6) (ci := 4) (kd := 10) (ct := ct) (ty := .int) hx hb htb i_Tp t_Tp t_Tp_ok n_Tp hown hK hP hD hS hO_4 (hA_4.m m0) rfl rfl 1 (by decide) (htb (.fieldLink R_Tp 15 "WaterMen$Tape" "length" "I") tw_175) (fun _ h9 => h9) rfl (by decide +kernel) rfl rfl rfl ⟨(show ¬ ((x_1 + 4) < 0) from by have e0 := b_1.1; rw [Int32.lt_iff_toInt_lt] at e0; have e1 := c_2; rw [Int32.le_iff_toInt_le] at e1; have z0 : (0 : Int32).toInt = 0 := (by decide +kernel); have z1 : (4 : Int32).toInt = 4 := (by decide +kernel); have z2 : (396 : Int32).toInt = 396 := (by decide +kernel); have ss := fb_addI (x := x_1) (y := 4) (by omega) (by omega); rw [Int32.lt_iff_toInt_lt]; omega), (show ¬ (400 < (x_1 + 4)) from by have e0 := b_1.1; rw [Int32.lt_iff_toInt_lt] at e0; have e1 := c_2; rw [Int32.le_iff_toInt_le] at e1; have z0 : (0 : Int32).toInt = 0 := (by decide +kernel); have z1 : (4 : Int32).toInt = 4 := (by decide +kernel); have z2 : (396 : Int32).toInt = 396 := (by decide +kernel); have z3 : (400 : Int32).toInt = 400 := (by decide +kernel); have ss := fb_addI (x := x_1) (y := 4) (by omega) (by omega); rw [Int32.lt_iff_toInt_lt]; omega)⟩ d_Tp_append_77 (fun f_5 H locs hP hD hS hO_5 hE_5 w_8 hF_5 => ?_)
    have hA_5 := hA_4.trans hE_5
    have hQ := hQ f_5 hF_5
    have hQ := hQ hO_5
    refine W.widen (k := 0) (n := 0) (Nat.le_of_ble_eq_true rfl) (Nat.le_of_ble_eq_true rfl) ?_
    exact W.vret hx hb hr (fun t ht hW => ⟨⟨(L, f_5), rfl, ⟨hO_5, hA_5.mono (by decide +kernel), trivial, hQ⟩, by rw [ht]; exact hP, va_K.moved hW.alike hK, by rw [hAe]; exact hD⟩, by rw [hAe]; exact hS.F ht⟩) (by rw [hAe]; exact hS.2.2) d_Tp_append_80
  · have hQ := hQ.2 c_2
    refine W.widen (k := 0) (n := 0) (Nat.le_of_ble_eq_true rfl) (Nat.le_of_ble_eq_true rfl) ?_
    exact W.vret hx hb hr (fun t ht hW => ⟨⟨(L, f), rfl, ⟨hO_0, hA_0.mono (by decide +kernel), trivial, hQ⟩, by rw [ht]; exact hP, va_K.moved hW.alike hK, by rw [hAe]; exact hD⟩, by rw [hAe]; exact hS.F ht⟩) (by rw [hAe]; exact hS.2.2) d_Tp_append_10
def W_WM_feed_w : List (Nat × Nat) := [(10, 1), (11, 1000)]
def wp_WM_feed_w (L : List Nat) (f : TF) (q0 : Nat) (p_0 : Int32) (p_1 : Int32) (p_2 : Int32) (p_3 : Int32) (p_4 : Int32) (Q : Int32 → List Nat → TF → Prop) : Prop := ∀ q_1 : Nat, tr f q0 5 = some q_1 → wp_Tp_hasRoomForFive_w L f q_1 (fun (r_2 : Int32) => ((r_2 = 0 → Q (-3) L f) ∧ (r_2 = 1 → wp_Tp_append_w L f q_1 p_0 (fun (L_1 : List Nat) (f_1 : TF) => Ok L_1 f_1 → Ext W_Tp_append_w L f L_1 f_1 → wp_Tp_append_w L_1 f_1 q_1 p_1 (fun (L_2 : List Nat) (f_2 : TF) => Ok L_2 f_2 → Ext W_Tp_append_w L_1 f_1 L_2 f_2 → wp_Tp_append_w L_2 f_2 q_1 p_2 (fun (L_3 : List Nat) (f_3 : TF) => Ok L_3 f_3 → Ext W_Tp_append_w L_2 f_2 L_3 f_3 → wp_Tp_append_w L_3 f_3 q_1 p_3 (fun (L_4 : List Nat) (f_4 : TF) => Ok L_4 f_4 → Ext W_Tp_append_w L_3 f_3 L_4 f_4 → wp_Tp_append_w L_4 f_4 q_1 p_4 (fun (L_5 : List Nat) (f_5 : TF) => Ok L_5 f_5 → Ext W_Tp_append_w L_4 f_4 L_5 f_5 → ∀ x_8 : Int32, ti f_5 q_1 1 = x_8 → Q x_8 L_5 f_5))))))))
set_option maxHeartbeats 4000000 in
set_option maxRecDepth 100000 in
theorem c_WM_feed_w (l : Launch) (dC : Nat → ClassId) (dI : Nat → Nat → Nat) (ct : Nat → ClassId) (L : List Nat) (f : TF) (hO_0 : Ok L f) (q0 : Nat) (m0 : q0 ∈ L ∧ tk f q0 = 0) (sz : Nat) (p_0 : Int32) (p_1 : Int32) (p_2 : Int32) (p_3 : Int32) (p_4 : Int32)   (Q : Int32 → List Nat → TF → Prop) (hQ : wp_WM_feed_w L f q0 p_0 p_1 p_2 p_3 p_4 Q) : Met l y_WM_feed (.code y_WM_feed b_WM_feed 6 (some .int) :: TB) ({ frames := 1, cells := 0, slots := 0, locals := 21 }) (va_Pc [.ref q0, .int p_0, .int p_1, .int p_2, .int p_3, .int p_4] (PC dC dI (TW ct L f) (TT ct) sz)) (va_Qi (fun r (u : TSt) => Ok u.1 u.2 ∧ Ext W_WM_feed_w L f u.1 u.2 ∧ (True) ∧ Q r u.1 u.2) (fun (u : TSt) t => va_P (dC, dI) vwCl (TW ct u.1 u.2) t.heap ∧ va_K (dC, dI) vwCl (TT ct) t ∧ va_D (va_A (TW ct L f) sz) (TW ct u.1 u.2)) (va_A (TW ct L f) sz)) 0 0 (va_A (TW ct L f) sz) := by
  refine Met.ofW (cc := b_WM_feed) (maxL := 6) (ret := (some .int)) (by decide) rfl ?_
  intro p e s m args below meth c s₁ B hml hv
  obtain ⟨rfl, hsz, hP, hK, hD0, hN⟩ := hv
  have hx := B.exec
  have hb := B.bytes
  have hr := B.returns
  have hts := atoms_spec (ws := (.code y_WM_feed b_WM_feed 6 (some .int) :: TB)) B.pre
  have htb := fun w (h : w ∈ TB) => hts w (List.mem_cons_of_mem _ h)
  have hown : s.vm.findClass R_WM = some m.cls := findClass_of_methodNamed B.named
  have hlocks := B.notSynchronized
  have hl := lv_entry ([.ref q0, .int p_0, .int p_1, .int p_2, .int p_3, .int p_4]) (n := 6) (Nat.le_of_ble_eq_true rfl)
  rw [lg_entry_eq]
  generalize (lg_sl ([.ref q0, .int p_0, .int p_1, .int p_2, .int p_3, .int p_4]) ++ List.replicate (6 - (lg_sl ([.ref q0, .int p_0, .int p_1, .int p_2, .int p_3, .int p_4])).length) Slot.unset).toArray = ls at hl ⊢
  have hl : lv_has ls 6 [(0, .ref q0), (1, .int p_0), (2, .int p_1), (3, .int p_2), (4, .int p_3), (5, .int p_4)] := hl
  subst hsz
  have hD := hD0.self (sz := s.heap.size)
  obtain ⟨A, hAe⟩ : ∃ A, va_A (TW ct L f) s.heap.size = A := ⟨_, rfl⟩
  rw [hAe] at hD
  have hA : ∀ q : Nat, s.heap.size ≤ q → A q := fun q h => by rw [← hAe]; exact Or.inr h
  have hS : va_S A s.heap s.heap [] := va_S.rf
  have hA_0 : Ext [] L f L f := Ext.rf
  suffices hGo : ∀ (H : Heap) (locs : List Loc), va_P (dC, dI) vwCl (TW ct L f) H → va_S A s.heap H locs → W p l e (headSpec (.code y_WM_feed b_WM_feed 6 (some .int) :: TB) ({ frames := 1, cells := 0, slots := 0, locals := 21 })).room s m [.ref q0, .int p_0, .int p_1, .int p_2, .int p_3, .int p_4].toArray below meth c H locs 0 0 (MQ below (va_Qi (fun r (u : TSt) => Ok u.1 u.2 ∧ Ext W_WM_feed_w L f u.1 u.2 ∧ (True) ∧ Q r u.1 u.2) (fun (u : TSt) t => va_P (dC, dI) vwCl (TW ct u.1 u.2) t.heap ∧ va_K (dC, dI) vwCl (TT ct) t ∧ va_D (va_A (TW ct L f) s.heap.size) (TW ct u.1 u.2)) (va_A (TW ct L f) s.heap.size)) [.ref q0, .int p_0, .int p_1, .int p_2, .int p_3, .int p_4].toArray s 0 0 (va_A (TW ct L f) s.heap.size)) (F0 m 0 ls []) from hGo _ _ hP hS
  clear hP hS
  intro H locs hP hS
  unfold wp_WM_feed_w at hQ
  refine lv_aload_n hx hb d_WM_feed_0 rfl (lv_at hl 0 rfl) ?_
  refine tw_getr (D := (dC, dI)) (C := R_WM) (T := F_WM) (N := 13) (ci := 0) (kd := 0) (ct := ct) hx hb htb i_WM hown hK hP hO_0 m0 rfl rfl 5 (by decide) (htb (.fieldLink R_WM 43 "WaterMen" "tape" "LWaterMen$Tape;") tw_174) (fun _ h9 => h9) rfl d_WM_feed_1 (fun q_1 e_1 m_1 => ?_)
  have hQ := hQ q_1 e_1
  refine vp_callSi (va_Run.run (va_runV (As := []) (rest := []) ⟨hx, hb, hml, hown, htb⟩ (c_Tp_hasRoomForFive_w l dC dI ct L f hO_0 q_1 m_1 _ hQ) (cwV 0 htb (gd_V tw_178 tw_179 tw_180 tw_177 tw_176) rfl rfl rfl (by decide +kernel) ⟨Nat.le_of_ble_eq_true rfl, Nat.le_of_ble_eq_true rfl⟩) ⟨pr_blind, tw_recv hK hP m_1 rfl rfl, pr_pre hP hK hN⟩ rfl rfl hl.1 rfl (lv_room (Nat.le_of_ble_eq_true rfl)) d_WM_feed_4 ⟨Nat.le_of_ble_eq_true rfl, Nat.le_of_ble_eq_true rfl⟩)) (fun r_2 er_2 => ?_)
  obtain ⟨er_2, hQ⟩ := er_2
  rcases er_2 with ⟨rfl, -⟩ | ⟨rfl, -⟩
  · have hQ := hQ.1 rfl
    refine lv_if_ne (tgt := 13) hx hb d_WM_feed_7 (by decide) (fun h => absurd (by decide +kernel) h) (fun _ => ?_)
    refine lv_bipush (v := (-3)) hx hb d_WM_feed_10 (by decide +kernel) ?_
    refine W.widen (k := 0) (n := 0) (Nat.le_of_ble_eq_true rfl) (Nat.le_of_ble_eq_true rfl) ?_
    exact W.iret (v := (-3)) hx hb hr (fun t ht hW => ⟨⟨(-3), (L, f), rfl, ⟨hO_0, hA_0.mono (by decide +kernel), trivial, hQ⟩, by rw [ht]; exact hP, va_K.moved hW.alike hK, by rw [hAe]; exact hD⟩, by rw [hAe]; exact hS.F ht⟩) (by rw [hAe]; exact hS.2.2) d_WM_feed_12
  · have hQ := hQ.2 rfl
    refine lv_if_ne (tgt := 13) hx hb d_WM_feed_7 (by decide) (fun _ => ?_) (fun h => absurd h (by decide +kernel))
    refine lv_aload_n hx hb d_WM_feed_13 rfl (lv_at hl 0 rfl) ?_
    refine tw_getR (D := (dC, dI)) (C := R_WM) (T := F_WM) (N := 13) (ci := 0) (kd := 0) (ct := ct) hx hb htb i_WM hown hK hP m0 rfl rfl 5 e_1 (by decide) (htb (.fieldLink R_WM 43 "WaterMen" "tape" "LWaterMen$Tape;") tw_174) (fun _ h9 => h9) rfl d_WM_feed_14 ?_
    refine hb_tv (.ref q_1) rfl ?_
    refine lv_iload_n hx hb d_WM_feed_17 rfl (lv_at hl 1 rfl) ?_
    have hFc := hb_free hD hS hA
    refine va_callv (va_runV (As := [.int p_0]) (rest := []) ⟨hx, hb, hml, hown, htb⟩ (c_Tp_append_w l dC dI ct L f hO_0 q_1 m_1 _ p_0 _ hQ) (cwV 1 htb (gd_V tw_183 tw_184 tw_185 tw_177 tw_182) rfl rfl rfl (by decide +kernel) ⟨Nat.le_of_ble_eq_true rfl, Nat.le_of_ble_eq_true rfl⟩) ⟨pc_blind, tw_recv hK hP m_1 rfl rfl, pc_pre hP hK hD hN⟩ rfl rfl hl.1 rfl (lv_room (Nat.le_of_ble_eq_true rfl)) d_WM_feed_18 ⟨Nat.le_of_ble_eq_true rfl, Nat.le_of_ble_eq_true rfl⟩) hS (fun q _ h => hFc q h) hFc (fun u t H locs ht hvm er hB hz1 hk1 hS => ?_)
    obtain ⟨L_1, f_1⟩ := u
    obtain ⟨hO_1, hE_1, er, hQ⟩ := er
    obtain ⟨hP, hK1, hD1⟩ := hB
    rw [ht] at hP
    have hP : va_P (dC, dI) vwCl (TW ct L_1 f_1) H := hP
    have hD : va_D A (TW ct L_1 f_1) := hD1.weaken (fun _ q _ h => hFc q.1 h)
    have hO_1 : Ok L_1 f_1 := hO_1
    have hE_1 : Ext W_Tp_append_w L f L_1 f_1 := hE_1
    clear hK1 hD1 ht hvm hz1 hk1
    have hA_1 := hA_0.trans hE_1
    have hQ := hQ hO_1 hE_1
    clear er
    refine lv_aload_n hx hb d_WM_feed_21 rfl (lv_at hl 0 rfl) ?_
    refine tw_getR (D := (dC, dI)) (C := R_WM) (T := F_WM) (N := 13) (ci := 0) (kd := 0) (ct := ct) hx hb htb i_WM hown hK hP (hA_1.m m0) rfl rfl 5 ((hA_1.er m0 rfl).trans e_1) (by decide) (htb (.fieldLink R_WM 43 "WaterMen" "tape" "LWaterMen$Tape;") tw_174) (fun _ h9 => h9) rfl d_WM_feed_22 ?_
    refine hb_tv (.ref q_1) rfl ?_
    refine lv_iload_n hx hb d_WM_feed_25 rfl (lv_at hl 2 rfl) ?_
    have hFc := hb_free hD hS hA
    refine va_callv (va_runV (As := [.int p_1]) (rest := []) ⟨hx, hb, hml, hown, htb⟩ (c_Tp_append_w l dC dI ct L_1 f_1 hO_1 q_1 (hA_1.m m_1) _ p_1 _ hQ) (cwV 1 htb (gd_V tw_183 tw_184 tw_185 tw_177 tw_182) rfl rfl rfl (by decide +kernel) ⟨Nat.le_of_ble_eq_true rfl, Nat.le_of_ble_eq_true rfl⟩) ⟨pc_blind, tw_recv hK hP (hA_1.m m_1) rfl rfl, pc_pre hP hK hD hN⟩ rfl rfl hl.1 rfl (lv_room (Nat.le_of_ble_eq_true rfl)) d_WM_feed_26 ⟨Nat.le_of_ble_eq_true rfl, Nat.le_of_ble_eq_true rfl⟩) hS (fun q _ h => hFc q h) hFc (fun u t H locs ht hvm er hB hz1 hk1 hS => ?_)
    obtain ⟨L_2, f_2⟩ := u
    obtain ⟨hO_2, hE_2, er, hQ⟩ := er
    obtain ⟨hP, hK1, hD1⟩ := hB
    rw [ht] at hP
    have hP : va_P (dC, dI) vwCl (TW ct L_2 f_2) H := hP
    have hD : va_D A (TW ct L_2 f_2) := hD1.weaken (fun _ q _ h => hFc q.1 h)
    have hO_2 : Ok L_2 f_2 := hO_2
    have hE_2 : Ext W_Tp_append_w L_1 f_1 L_2 f_2 := hE_2
    clear hK1 hD1 ht hvm hz1 hk1
    have hA_2 := hA_1.trans hE_2
    have hQ := hQ hO_2 hE_2
    clear er
    refine lv_aload_n hx hb d_WM_feed_29 rfl (lv_at hl 0 rfl) ?_
    refine tw_getR (D := (dC, dI)) (C := R_WM) (T := F_WM) (N := 13) (ci := 0) (kd := 0) (ct := ct) hx hb htb i_WM hown hK hP (hA_2.m m0) rfl rfl 5 ((hA_2.er m0 rfl).trans e_1) (by decide) (htb (.fieldLink R_WM 43 "WaterMen" "tape" "LWaterMen$Tape;") tw_174) (fun _ h9 => h9) rfl d_WM_feed_30 ?_
    refine hb_tv (.ref q_1) rfl ?_
    refine lv_iload_n hx hb d_WM_feed_33 rfl (lv_at hl 3 rfl) ?_
    have hFc := hb_free hD hS hA
    refine va_callv (va_runV (As := [.int p_2]) (rest := []) ⟨hx, hb, hml, hown, htb⟩ (c_Tp_append_w l dC dI ct L_2 f_2 hO_2 q_1 (hA_2.m m_1) _ p_2 _ hQ) (cwV 1 htb (gd_V tw_183 tw_184 tw_185 tw_177 tw_182) rfl rfl rfl (by decide +kernel) ⟨Nat.le_of_ble_eq_true rfl, Nat.le_of_ble_eq_true rfl⟩) ⟨pc_blind, tw_recv hK hP (hA_2.m m_1) rfl rfl, pc_pre hP hK hD hN⟩ rfl rfl hl.1 rfl (lv_room (Nat.le_of_ble_eq_true rfl)) d_WM_feed_34 ⟨Nat.le_of_ble_eq_true rfl, Nat.le_of_ble_eq_true rfl⟩) hS (fun q _ h => hFc q h) hFc (fun u t H locs ht hvm er hB hz1 hk1 hS => ?_)
    obtain ⟨L_3, f_3⟩ := u
    obtain ⟨hO_3, hE_3, er, hQ⟩ := er
    obtain ⟨hP, hK1, hD1⟩ := hB
    rw [ht] at hP
    have hP : va_P (dC, dI) vwCl (TW ct L_3 f_3) H := hP
    have hD : va_D A (TW ct L_3 f_3) := hD1.weaken (fun _ q _ h => hFc q.1 h)
    have hO_3 : Ok L_3 f_3 := hO_3
    have hE_3 : Ext W_Tp_append_w L_2 f_2 L_3 f_3 := hE_3
    clear hK1 hD1 ht hvm hz1 hk1
    have hA_3 := hA_2.trans hE_3
    have hQ := hQ hO_3 hE_3
    clear er
    refine lv_aload_n hx hb d_WM_feed_37 rfl (lv_at hl 0 rfl) ?_
    refine tw_getR (D := (dC, dI)) (C := R_WM) (T := F_WM) (N := 13) (ci := 0) (kd := 0) (ct := ct) hx hb htb i_WM hown hK hP (hA_3.m m0) rfl rfl 5 ((hA_3.er m0 rfl).trans e_1) (by decide) (htb (.fieldLink R_WM 43 "WaterMen" "tape" "LWaterMen$Tape;") tw_174) (fun _ h9 => h9) rfl d_WM_feed_38 ?_
    refine hb_tv (.ref q_1) rfl ?_
    refine lv_iload hx hb d_WM_feed_41 (lv_at hl 4 rfl) ?_
    have hFc := hb_free hD hS hA
    refine va_callv (va_runV (As := [.int p_3]) (rest := []) ⟨hx, hb, hml, hown, htb⟩ (c_Tp_append_w l dC dI ct L_3 f_3 hO_3 q_1 (hA_3.m m_1) _ p_3 _ hQ) (cwV 1 htb (gd_V tw_183 tw_184 tw_185 tw_177 tw_182) rfl rfl rfl (by decide +kernel) ⟨Nat.le_of_ble_eq_true rfl, Nat.le_of_ble_eq_true rfl⟩) ⟨pc_blind, tw_recv hK hP (hA_3.m m_1) rfl rfl, pc_pre hP hK hD hN⟩ rfl rfl hl.1 rfl (lv_room (Nat.le_of_ble_eq_true rfl)) d_WM_feed_43 ⟨Nat.le_of_ble_eq_true rfl, Nat.le_of_ble_eq_true rfl⟩) hS (fun q _ h => hFc q h) hFc (fun u t H locs ht hvm er hB hz1 hk1 hS => ?_)
    obtain ⟨L_4, f_4⟩ := u
    obtain ⟨hO_4, hE_4, er, hQ⟩ := er
    obtain ⟨hP, hK1, hD1⟩ := hB
    rw [ht] at hP
    have hP : va_P (dC, dI) vwCl (TW ct L_4 f_4) H := hP
    have hD : va_D A (TW ct L_4 f_4) := hD1.weaken (fun _ q _ h => hFc q.1 h)
    have hO_4 : Ok L_4 f_4 := hO_4
    have hE_4 : Ext W_Tp_append_w L_3 f_3 L_4 f_4 := hE_4
    clear hK1 hD1 ht hvm hz1 hk1
    have hA_4 := hA_3.trans hE_4
    have hQ := hQ hO_4 hE_4
    clear er
    refine lv_aload_n hx hb d_WM_feed_46 rfl (lv_at hl 0 rfl) ?_
    refine tw_getR (D := (dC, dI)) (C := R_WM) (T := F_WM) (N := 13) (ci := 0) (kd := 0) (ct := ct) hx hb htb i_WM hown hK hP (hA_4.m m0) rfl rfl 5 ((hA_4.er m0 rfl).trans e_1) (by decide) (htb (.fieldLink R_WM 43 "WaterMen" "tape" "LWaterMen$Tape;") tw_174) (fun _ h9 => h9) rfl d_WM_feed_47 ?_
    refine hb_tv (.ref q_1) rfl ?_
    refine lv_iload hx hb d_WM_feed_50 (lv_at hl 5 rfl) ?_
    have hFc := hb_free hD hS hA
    refine va_callv (va_runV (As := [.int p_4]) (rest := []) ⟨hx, hb, hml, hown, htb⟩ (c_Tp_append_w l dC dI ct L_4 f_4 hO_4 q_1 (hA_4.m m_1) _ p_4 _ hQ) (cwV 1 htb (gd_V tw_183 tw_184 tw_185 tw_177 tw_182) rfl rfl rfl (by decide +kernel) ⟨Nat.le_of_ble_eq_true rfl, Nat.le_of_ble_eq_true rfl⟩) ⟨pc_blind, tw_recv hK hP (hA_4.m m_1) rfl rfl, pc_pre hP hK hD hN⟩ rfl rfl hl.1 rfl (lv_room (Nat.le_of_ble_eq_true rfl)) d_WM_feed_52 ⟨Nat.le_of_ble_eq_true rfl, Nat.le_of_ble_eq_true rfl⟩) hS (fun q _ h => hFc q h) hFc (fun u t H locs ht hvm er hB hz1 hk1 hS => ?_)
    obtain ⟨L_5, f_5⟩ := u
    obtain ⟨hO_5, hE_5, er, hQ⟩ := er
    obtain ⟨hP, hK1, hD1⟩ := hB
    rw [ht] at hP
    have hP : va_P (dC, dI) vwCl (TW ct L_5 f_5) H := hP
    have hD : va_D A (TW ct L_5 f_5) := hD1.weaken (fun _ q _ h => hFc q.1 h)
    have hO_5 : Ok L_5 f_5 := hO_5
    have hE_5 : Ext W_Tp_append_w L_4 f_4 L_5 f_5 := hE_5
    clear hK1 hD1 ht hvm hz1 hk1
    have hA_5 := hA_4.trans hE_5
    have hQ := hQ hO_5 hE_5
    clear er
    refine lv_aload_n hx hb d_WM_feed_55 rfl (lv_at hl 0 rfl) ?_
    refine tw_getR (D := (dC, dI)) (C := R_WM) (T := F_WM) (N := 13) (ci := 0) (kd := 0) (ct := ct) hx hb htb i_WM hown hK hP (hA_5.m m0) rfl rfl 5 ((hA_5.er m0 rfl).trans e_1) (by decide) (htb (.fieldLink R_WM 43 "WaterMen" "tape" "LWaterMen$Tape;") tw_174) (fun _ h9 => h9) rfl d_WM_feed_56 ?_
    refine hb_tv (.ref q_1) rfl ?_
    refine tw_geti (D := (dC, dI)) (C := R_Tp) (T := F_Tp) (N := 6) (ci := 4) (kd := 10) (ct := ct) hx hb htb i_Tp hown hK hP hO_5 (hA_5.m m_1) rfl rfl 1 (by decide) (htb (.fieldLink R_WM 207 "WaterMen$Tape" "length" "I") tw_186) (fun _ h9 => h9) rfl d_WM_feed_59 (fun x_8 e_8 b_8 => ?_)
    have hQ := hQ x_8 e_8
    refine W.widen (k := 0) (n := 0) (Nat.le_of_ble_eq_true rfl) (Nat.le_of_ble_eq_true rfl) ?_
    exact W.iret (v := x_8) hx hb hr (fun t ht hW => ⟨⟨x_8, (L_5, f_5), rfl, ⟨hO_5, hA_5.mono (by decide +kernel), trivial, hQ⟩, by rw [ht]; exact hP, va_K.moved hW.alike hK, by rw [hAe]; exact hD⟩, by rw [hAe]; exact hS.F ht⟩) (by rw [hAe]; exact hS.2.2) d_WM_feed_62
def WL_Md_four_w_2_1 : List (Nat × Nat) := [(27, 28), (50, 1000)]
def W_Md_four_w : List (Nat × Nat) := [(27, 28), (50, 1000)]
def wpB_Md_four_w_2_1 (L : List Nat) (f : TF) (q0 : Nat) (p_0 : Int32) (Q : List Nat → TF → Prop) (rec_1 : Int32 → List Nat → TF → Prop) (v2_1 : Int32) (L_1 : List Nat) (f_1 : TF) : Prop := Ok L_1 f_1 → Ext WL_Md_four_w_2_1 L f L_1 f_1 → ((v2_1 < 0 → Q L_1 f_1) ∧ (¬ (v2_1 < 0) → ∀ q_4 : Nat, tr f_1 q0 27 = some q_4 → ∀ f_2 : TF, f_2 = sI f_1 q_4 ((ti f_1 q0 28) : Int32).toNatClampNeg (vp_nar .byte (((p_0 >>> ((8 * v2_1) &&& 31))).toInt8.toInt32)) → Ok L_1 f_2 → ∀ f_3 : TF, f_3 = sI f_2 q0 28 ((ti f_1 q0 28) + 1) → Ok L_1 f_3 → rec_1 (v2_1 + (-1)) L_1 f_3))
def wpL_Md_four_w_2_1 (L : List Nat) (f : TF) (q0 : Nat) (p_0 : Int32) (Q : List Nat → TF → Prop) : Nat → Int32 → List Nat → TF → Prop
  | 0 => fun v2_1 L_1 f_1 => wpB_Md_four_w_2_1 L f q0 p_0 Q (fun _ _ _ => True) v2_1 L_1 f_1
  | n + 1 => fun v2_1 L_1 f_1 => wpB_Md_four_w_2_1 L f q0 p_0 Q (wpL_Md_four_w_2_1 L f q0 p_0 Q n) v2_1 L_1 f_1
def wpR_Md_four_w_2_1 (L : List Nat) (f : TF) (q0 : Nat) (p_0 : Int32) (Q : List Nat → TF → Prop) : Nat → Int32 → List Nat → TF → Prop
  | 0 => fun _ _ _ => True
  | n + 1 => wpL_Md_four_w_2_1 L f q0 p_0 Q n
theorem wpL_Md_four_w_2_1_eq {L : List Nat} {f : TF} {q0 : Nat} {p_0 : Int32} {Q : List Nat → TF → Prop} {n : Nat} : wpL_Md_four_w_2_1 L f q0 p_0 Q n = wpB_Md_four_w_2_1 L f q0 p_0 Q (wpR_Md_four_w_2_1 L f q0 p_0 Q n) := by cases n <;> rfl
theorem wpR_Md_four_w_2_1_pos {L : List Nat} {f : TF} {q0 : Nat} {p_0 : Int32} {Q : List Nat → TF → Prop} {n : Nat} (h : 0 < n) : wpR_Md_four_w_2_1 L f q0 p_0 Q n = wpL_Md_four_w_2_1 L f q0 p_0 Q (n - 1) := by
  cases n with
  | zero => omega
  | succ n => rfl
def wp_Md_four_w (L : List Nat) (f : TF) (q0 : Nat) (p_0 : Int32) (Q : List Nat → TF → Prop) : Prop := wpL_Md_four_w_2_1 L f q0 p_0 Q (((3 : Int32).toInt - (-1 : Int32).toInt).toNat) (3 : Int32) L f
set_option maxHeartbeats 4000000 in
set_option maxRecDepth 100000 in
theorem c_Md_four_w (l : Launch) (dC : Nat → ClassId) (dI : Nat → Nat → Nat) (ct : Nat → ClassId) (L : List Nat) (f : TF) (hO_0 : Ok L f) (q0 : Nat) (m0 : q0 ∈ L ∧ tk f q0 = 27) (sz : Nat) (p_0 : Int32)  (as_0 : ¬ (396 < (ti f q0 28))) (Q : List Nat → TF → Prop) (hQ : wp_Md_four_w L f q0 p_0 Q) : Met l y_Md_four (.code y_Md_four b_Md_four 3 none :: TB) ({ frames := 0, cells := 0, slots := 0, locals := 0 }) (va_Pc [.ref q0, .int p_0] (PC dC dI (TW ct L f) (TT ct) sz)) (va_Qv (fun (u : TSt) => Ok u.1 u.2 ∧ Ext W_Md_four_w L f u.1 u.2 ∧ (((ti u.2 q0 28) = ((ti f q0 28) + 4) ∧ True)) ∧ Q u.1 u.2) (fun (u : TSt) t => va_P (dC, dI) vwCl (TW ct u.1 u.2) t.heap ∧ va_K (dC, dI) vwCl (TT ct) t ∧ va_D (va_A (TW ct L f) sz) (TW ct u.1 u.2)) (va_A (TW ct L f) sz)) 0 0 (va_A (TW ct L f) sz) := by
  refine Met.ofW (cc := b_Md_four) (maxL := 3) (ret := none) (by decide) rfl ?_
  intro p e s m args below meth c s₁ B hml hv
  obtain ⟨rfl, hsz, hP, hK, hD0, hN⟩ := hv
  have hx := B.exec
  have hb := B.bytes
  have hr := B.returns
  have hts := atoms_spec (ws := (.code y_Md_four b_Md_four 3 none :: TB)) B.pre
  have htb := fun w (h : w ∈ TB) => hts w (List.mem_cons_of_mem _ h)
  have hown : s.vm.findClass R_Md = some m.cls := findClass_of_methodNamed B.named
  have hlocks := B.notSynchronized
  have hl := lv_entry ([.ref q0, .int p_0]) (n := 3) (Nat.le_of_ble_eq_true rfl)
  rw [lg_entry_eq]
  generalize (lg_sl ([.ref q0, .int p_0]) ++ List.replicate (3 - (lg_sl ([.ref q0, .int p_0])).length) Slot.unset).toArray = ls at hl ⊢
  have hl : lv_has ls 3 [(0, .ref q0), (1, .int p_0)] := hl
  subst hsz
  have hD := hD0.self (sz := s.heap.size)
  obtain ⟨A, hAe⟩ : ∃ A, va_A (TW ct L f) s.heap.size = A := ⟨_, rfl⟩
  rw [hAe] at hD
  have hA : ∀ q : Nat, s.heap.size ≤ q → A q := fun q h => by rw [← hAe]; exact Or.inr h
  have hS : va_S A s.heap s.heap [] := va_S.rf
  have hA_0 : Ext [] L f L f := Ext.rf
  suffices hGo : ∀ (H : Heap) (locs : List Loc), va_P (dC, dI) vwCl (TW ct L f) H → va_S A s.heap H locs → W p l e (headSpec (.code y_Md_four b_Md_four 3 none :: TB) ({ frames := 0, cells := 0, slots := 0, locals := 0 })).room s m [.ref q0, .int p_0].toArray below meth c H locs 0 0 (MQ below (va_Qv (fun (u : TSt) => Ok u.1 u.2 ∧ Ext W_Md_four_w L f u.1 u.2 ∧ (((ti u.2 q0 28) = ((ti f q0 28) + 4) ∧ True)) ∧ Q u.1 u.2) (fun (u : TSt) t => va_P (dC, dI) vwCl (TW ct u.1 u.2) t.heap ∧ va_K (dC, dI) vwCl (TT ct) t ∧ va_D (va_A (TW ct L f) s.heap.size) (TW ct u.1 u.2)) (va_A (TW ct L f) s.heap.size)) [.ref q0, .int p_0].toArray s 0 0 (va_A (TW ct L f) s.heap.size)) (F0 m 0 ls []) from hGo _ _ hP hS
  clear hP hS
  intro H locs hP hS
  unfold wp_Md_four_w at hQ
  have bp_28 := hO_0.i m0 (show slotD 27 28 = some (.inl (0, 400)) from rfl)
  refine lv_iconst (v := 3) hx hb d_Md_four_0 (by decide +kernel) ?_
  refine lv_istore_n (lv' := [(2, .int 3), (0, .ref q0), (1, .int p_0)]) hx hb d_Md_four_1 rfl hl (by decide) rfl (fun ls hl => ?_)
  have cut_1 : ∀ (n_1 : Nat) (v2_1 : Int32) (L_1 : List Nat) (f_1 : TF) (H : Heap) (locs : List Loc) (ls : Array Slot), va_P (dC, dI) vwCl (TW ct L_1 f_1) H → va_D A (TW ct L_1 f_1) → va_S A s.heap H locs → Ok L_1 f_1 → Ext WL_Md_four_w_2_1 L f L_1 f_1 → ¬ (v2_1 < (-1)) → ¬ (3 < v2_1) → (ti f_1 q0 28) = (((ti f q0 28) + 3) - v2_1) → (v2_1 : Int32).toInt - (-1 : Int32).toInt ≤ (n_1 : Int) → wpL_Md_four_w_2_1 L f q0 p_0 Q n_1 v2_1 L_1 f_1 → lv_has ls 3 [(0, .ref q0), (1, .int p_0), (2, .int v2_1)] → W p l e (headSpec (.code y_Md_four b_Md_four 3 none :: TB) ({ frames := 0, cells := 0, slots := 0, locals := 0 })).room s m [.ref q0, .int p_0].toArray below meth c H locs 0 0 (MQ below (va_Qv (fun (u : TSt) => Ok u.1 u.2 ∧ Ext W_Md_four_w L f u.1 u.2 ∧ (((ti u.2 q0 28) = ((ti f q0 28) + 4) ∧ True)) ∧ Q u.1 u.2) (fun (u : TSt) t => va_P (dC, dI) vwCl (TW ct u.1 u.2) t.heap ∧ va_K (dC, dI) vwCl (TT ct) t ∧ va_D (va_A (TW ct L f) s.heap.size) (TW ct u.1 u.2)) (va_A (TW ct L f) s.heap.size)) [.ref q0, .int p_0].toArray s 0 0 (va_A (TW ct L f) s.heap.size)) (F0 m 2 ls []) := by
    intro n_1
    induction n_1 using Nat.strongRecOn with
    | _ n_1 ih_1 =>
      intro v2_1 L_1 f_1 H locs ls hP hD hS hO_1 hE_1 iv0_1 iv1_1 iv2_1 hm_1 hQ hl
      have hA_1 := hA_0.trans hE_1
      have bf_2 := hO_1.i (hA_1.m m0) (show slotD 27 28 = some (.inl (0, 400)) from rfl)
      rw [wpL_Md_four_w_2_1_eq] at hQ
      obtain ⟨rec_1, hrec_1⟩ : ∃ g, wpR_Md_four_w_2_1 L f q0 p_0 Q n_1 = g := ⟨_, rfl⟩
      rw [hrec_1] at hQ
      unfold wpB_Md_four_w_2_1 at hQ
      have hQ := hQ hO_1 hE_1
      refine lv_iload_n hx hb d_Md_four_2 rfl (lv_at hl 2 rfl) ?_
      refine lv_if_lt (tgt := 38) hx hb d_Md_four_3 (by decide) (fun c_3 => ?_) (fun c_3 => ?_)
      · have hQ := hQ.1 c_3
        refine W.widen (k := 0) (n := 0) (Nat.le_of_ble_eq_true rfl) (Nat.le_of_ble_eq_true rfl) ?_
        exact W.vret hx hb hr (fun t ht hW => ⟨⟨(L_1, f_1), rfl, ⟨hO_1, hA_1.mono (by decide +kernel), ⟨(by show (ti f_1 q0 28) = ((ti f q0 28) + 4); rw [show ti f_1 q0 28 = (ti f_1 q0 28) from rfl]; first | done | exact (show (ti f_1 q0 28) = ((ti f q0 28) + 4) from ((fun (a_0 : Int32) (a_1 : Int32) (a_2 : Int32) (k_0 : ¬ (400 < a_0)) (k_1 : a_2 < 0) (k_2 : ¬ (a_2 < (-1))) (k_3 : a_1 = ((a_0 + 3) - a_2)) => (show a_1 = (a_0 + 4) from by have z0 : (-1 : Int32).toInt = -1 := (by decide +kernel); have z1 : (0 : Int32).toInt = 0 := (by decide +kernel); have z2 : (3 : Int32).toInt = 3 := (by decide +kernel); have z3 : (4 : Int32).toInt = 4 := (by decide +kernel); have z4 : (400 : Int32).toInt = 400 := (by decide +kernel); have r0 := fb_rng (a_0); have r1 := fb_rng (a_1); have r2 := fb_rng (a_2); have e0 := k_0; rw [Int32.lt_iff_toInt_lt, z4] at e0; obtain ⟨n_0, hn_0, s0⟩ := nd_add (x := a_0) (y := (3 : Int32)) (by (try rw [z2]); omega) (by (try rw [z2]); omega); rw [z2] at s0; have e1 := k_1; rw [Int32.lt_iff_toInt_lt, z1] at e1; have e2 := k_2; rw [Int32.lt_iff_toInt_lt, z0] at e2; obtain ⟨n_1, hn_1, s1⟩ := nd_sub (x := n_0) (y := (a_2)) (by omega) (by omega); have e3 := k_3; rw [hn_0, hn_1, ← Int32.toInt_inj] at e3; obtain ⟨n_2, hn_2, s2⟩ := nd_add (x := a_0) (y := (4 : Int32)) (by (try rw [z3]); omega) (by (try rw [z3]); omega); rw [z3] at s2; rw [hn_2, ← Int32.toInt_inj]; omega)) (ti f q0 28) (ti f_1 q0 28) v2_1 bp_28.2 c_3 iv0_1 iv2_1))), trivial⟩, hQ⟩, by rw [ht]; exact hP, va_K.moved hW.alike hK, by rw [hAe]; exact hD⟩, by rw [hAe]; exact hS.F ht⟩) (by rw [hAe]; exact hS.2.2) d_Md_four_38
      · have hQ := hQ.2 c_3
        refine lv_aload_n hx hb d_Md_four_6 rfl (lv_at hl 0 rfl) ?_
        refine tw_getr (D := (dC, dI)) (C := R_Md) (T := F_Md) (N := 64) (ci := 7) (kd := 27) (ct := ct) hx hb htb i_Md hown hK hP hO_1 (hA_1.m m0) rfl rfl 27 (by decide) (htb (.fieldLink R_Md 109 "WaterMenModel" "tape" "[B") tw_188) (fun _ h9 => h9) rfl d_Md_four_7 (fun q_4 e_4 m_4 => ?_)
        have hQ := hQ q_4 e_4
        refine lv_aload_n hx hb d_Md_four_10 rfl (lv_at hl 0 rfl) ?_
        refine tw_getI (x := (ti f_1 q0 28)) (D := (dC, dI)) (C := R_Md) (T := F_Md) (N := 64) (ci := 7) (kd := 27) (ct := ct) hx hb htb i_Md hown hK hP (hA_1.m m0) rfl rfl 28 rfl (by decide) (htb (.fieldLink R_Md 212 "WaterMenModel" "taped" "I") tw_187) (fun _ h9 => h9) rfl d_Md_four_11 ?_
        refine lv_iload_n hx hb d_Md_four_14 rfl (lv_at hl 1 rfl) ?_
        refine lv_bipush (v := 8) hx hb d_Md_four_15 (by decide +kernel) ?_
        refine lv_iload_n hx hb d_Md_four_17 rfl (lv_at hl 2 rfl) ?_
        refine lv_imul hx hb d_Md_four_18 ?_
        refine lv_ishr hx hb d_Md_four_19 ?_
        refine lv_i2b hx hb d_Md_four_20 rfl ?_
        refine tw_astB (ct := ct) (x := ((p_0 >>> ((8 * v2_1) &&& 31))).toInt8.toInt32) hx hb hK hP hD hS hO_1 m_4 rfl ((fun (a_0 : Int32) (a_1 : Int32) (a_2 : Int32) (k_0 : ¬ (a_2 < 0)) (k_1 : ¬ (396 < a_0)) (k_2 : ¬ (a_0 < 0)) (k_3 : ¬ (3 < a_2)) (k_4 : a_1 = ((a_0 + 3) - a_2)) => (show vp_in (a_1) 400 from by have z0 : (0 : Int32).toInt = 0 := (by decide +kernel); have z1 : (3 : Int32).toInt = 3 := (by decide +kernel); have z2 : (396 : Int32).toInt = 396 := (by decide +kernel); have r0 := fb_rng (a_0); have r1 := fb_rng (a_1); have r2 := fb_rng (a_2); have e0 := k_0; rw [Int32.lt_iff_toInt_lt, z0] at e0; have e1 := k_1; rw [Int32.lt_iff_toInt_lt, z2] at e1; have e2 := k_2; rw [Int32.lt_iff_toInt_lt, z0] at e2; have e3 := k_3; rw [Int32.lt_iff_toInt_lt, z1] at e3; obtain ⟨n_0, hn_0, s0⟩ := nd_add (x := a_0) (y := (3 : Int32)) (by (try rw [z1]); omega) (by (try rw [z1]); omega); rw [z1] at s0; obtain ⟨n_1, hn_1, s1⟩ := nd_sub (x := n_0) (y := (a_2)) (by omega) (by omega); have e4 := k_4; rw [hn_0, hn_1, ← Int32.toInt_inj] at e4; rw [vp_in_iff]; omega)) (ti f q0 28) (ti f_1 q0 28) v2_1 c_3 as_0 bp_28.1 iv1_1 iv2_1) (i32_full _) d_Md_four_21 (fun f_2 H locs hP hD hS hO_2 hE_2 w_5 ow_5 hF_2 => ?_)
        have hA_2 := hA_1.trans hE_2
        have hQ := hQ f_2 hF_2
        have hQ := hQ hO_2
        refine lv_aload_n hx hb d_Md_four_22 rfl (lv_at hl 0 rfl) ?_
        refine lv_dup hx hb d_Md_four_23 rfl ?_
        refine tw_getI (x := (ti f_1 q0 28)) (D := (dC, dI)) (C := R_Md) (T := F_Md) (N := 64) (ci := 7) (kd := 27) (ct := ct) hx hb htb i_Md hown hK hP (hA_2.m m0) rfl rfl 28 ((hE_2.ei (hA_1.m m0) rfl).trans rfl) (by decide) (htb (.fieldLink R_Md 212 "WaterMenModel" "taped" "I") tw_187) (fun _ h9 => h9) rfl d_Md_four_24 ?_
        refine lv_iconst (v := 1) hx hb d_Md_four_27 (by decide +kernel) ?_
        refine lv_iadd hx hb d_Md_four_28 ?_
        refine tw_puti (v := ((ti f_1 q0 28) + 1)) (D := (dC, dI)) (C := R_Md) (T := F_Md) (N := 64) (ci := 7) (kd := 27) (ct := ct) (ty := .int) hx hb htb i_Md t_Md t_Md_ok n_Md hown hK hP hD hS hO_2 (hA_2.m m0) rfl rfl 28 (by decide) (htb (.fieldLink R_Md 212 "WaterMenModel" "taped" "I") tw_187) (fun _ h9 => h9) rfl (by decide +kernel) rfl rfl rfl ⟨(show ¬ (((ti f_1 q0 28) + 1) < 0) from ((fun (a_0 : Int32) (k_0 : ¬ (a_0 < 0)) (k_1 : ¬ (400 < a_0)) => (show ¬ ((a_0 + 1) < 0) from by have z0 : (0 : Int32).toInt = 0 := (by decide +kernel); have z1 : (1 : Int32).toInt = 1 := (by decide +kernel); have z2 : (400 : Int32).toInt = 400 := (by decide +kernel); have r0 := fb_rng (a_0); have e0 := k_0; rw [Int32.lt_iff_toInt_lt, z0] at e0; have e1 := k_1; rw [Int32.lt_iff_toInt_lt, z2] at e1; obtain ⟨n_0, hn_0, s0⟩ := nd_add (x := a_0) (y := (1 : Int32)) (by (try rw [z1]); omega) (by (try rw [z1]); omega); rw [z1] at s0; rw [hn_0, Int32.lt_iff_toInt_lt, z0]; omega)) (ti f_1 q0 28) bf_2.1 bf_2.2)), (show ¬ (400 < ((ti f_1 q0 28) + 1)) from ((fun (a_0 : Int32) (a_1 : Int32) (a_2 : Int32) (k_0 : ¬ (a_2 < 0)) (k_1 : ¬ (396 < a_0)) (k_2 : ¬ (3 < a_2)) (k_3 : a_1 = ((a_0 + 3) - a_2)) => (show ¬ (400 < (a_1 + 1)) from by have z0 : (0 : Int32).toInt = 0 := (by decide +kernel); have z1 : (1 : Int32).toInt = 1 := (by decide +kernel); have z2 : (3 : Int32).toInt = 3 := (by decide +kernel); have z3 : (396 : Int32).toInt = 396 := (by decide +kernel); have z4 : (400 : Int32).toInt = 400 := (by decide +kernel); have r0 := fb_rng (a_0); have r1 := fb_rng (a_1); have r2 := fb_rng (a_2); have e0 := k_0; rw [Int32.lt_iff_toInt_lt, z0] at e0; have e1 := k_1; rw [Int32.lt_iff_toInt_lt, z3] at e1; have e2 := k_2; rw [Int32.lt_iff_toInt_lt, z2] at e2; obtain ⟨n_0, hn_0, s0⟩ := nd_add (x := a_0) (y := (3 : Int32)) (by (try rw [z2]); omega) (by (try rw [z2]); omega); rw [z2] at s0; obtain ⟨n_1, hn_1, s1⟩ := nd_sub (x := n_0) (y := (a_2)) (by omega) (by omega); have e3 := k_3; rw [hn_0, hn_1, ← Int32.toInt_inj] at e3; obtain ⟨n_2, hn_2, s2⟩ := nd_add (x := a_1) (y := (1 : Int32)) (by (try rw [z1]); omega) (by (try rw [z1]); omega); rw [z1] at s2; rw [hn_2, Int32.lt_iff_toInt_lt, z4]; omega)) (ti f q0 28) (ti f_1 q0 28) v2_1 c_3 as_0 iv1_1 iv2_1))⟩ d_Md_four_29 (fun f_3 H locs hP hD hS hO_3 hE_3 w_6 hF_3 => ?_)
        have hA_3 := hA_2.trans hE_3
        have hQ := hQ f_3 hF_3
        have hQ := hQ hO_3
        refine lv_iinc (v := (v2_1 + (-1))) (lv' := [(2, .int (v2_1 + (-1))), (0, .ref q0), (1, .int p_0)]) hx hb d_Md_four_32 hl (k := 2) rfl rfl (by decide) rfl (fun ls hl => ?_)
        refine lv_goto (tgt := 2) hx hb d_Md_four_35 (by decide) ?_
        exact ih_1 (n_1 - 1) (ms_1 ((fun (a_0 : Int32) (k_0 : ¬ (a_0 < 0)) => (show 1 ≤ (a_0).toInt - (-1 : Int32).toInt ∧ ((a_0) + (-1 : Int32)).toInt - (-1 : Int32).toInt + 1 ≤ (a_0).toInt - (-1 : Int32).toInt from by have z0 : (-1 : Int32).toInt = -1 := (by decide +kernel); have z1 : (0 : Int32).toInt = 0 := (by decide +kernel); have r0 := fb_rng (a_0); have e0 := k_0; rw [Int32.lt_iff_toInt_lt, z1] at e0; obtain ⟨n_0, hn_0, s0⟩ := nd_add (x := (a_0)) (y := (-1 : Int32)) (by (try rw [z0]); omega) (by (try rw [z0]); omega); rw [z0] at s0; rw [hn_0]; (try rw [z0]); omega)) v2_1 c_3) hm_1) (v2_1 + (-1)) _ _ _ _ _ hP hD hS hO_3 (((hE_1.trans hE_2).trans hE_3).mono (by decide +kernel)) (show ¬ ((v2_1 + (-1)) < (-1)) from ((fun (a_0 : Int32) (k_0 : ¬ (a_0 < 0)) => (show ¬ ((a_0 + (-1)) < (-1)) from by have z0 : (-1 : Int32).toInt = -1 := (by decide +kernel); have z1 : (0 : Int32).toInt = 0 := (by decide +kernel); have r0 := fb_rng (a_0); have e0 := k_0; rw [Int32.lt_iff_toInt_lt, z1] at e0; obtain ⟨n_0, hn_0, s0⟩ := nd_add (x := (a_0)) (y := (-1 : Int32)) (by (try rw [z0]); omega) (by (try rw [z0]); omega); rw [z0] at s0; rw [hn_0, Int32.lt_iff_toInt_lt, z0]; omega)) v2_1 c_3)) (show ¬ (3 < (v2_1 + (-1))) from ((fun (a_0 : Int32) (k_0 : ¬ (3 < a_0)) (k_1 : ¬ (a_0 < 0)) => (show ¬ (3 < (a_0 + (-1))) from by have z0 : (-1 : Int32).toInt = -1 := (by decide +kernel); have z1 : (0 : Int32).toInt = 0 := (by decide +kernel); have z2 : (3 : Int32).toInt = 3 := (by decide +kernel); have r0 := fb_rng (a_0); have e0 := k_0; rw [Int32.lt_iff_toInt_lt, z2] at e0; have e1 := k_1; rw [Int32.lt_iff_toInt_lt, z1] at e1; obtain ⟨n_0, hn_0, s0⟩ := nd_add (x := (a_0)) (y := (-1 : Int32)) (by (try rw [z0]); omega) (by (try rw [z0]); omega); rw [z0] at s0; rw [hn_0, Int32.lt_iff_toInt_lt, z2]; omega)) v2_1 iv1_1 c_3)) (by rw [show ti f_3 q0 28 = ((ti f_1 q0 28) + 1) from w_6]; first | done | exact (show ((ti f_1 q0 28) + 1) = (((ti f q0 28) + 3) - (v2_1 + (-1))) from ((fun (a_0 : Int32) (a_1 : Int32) (a_2 : Int32) (k_0 : ¬ (400 < a_0)) (k_1 : ¬ (3 < a_2)) (k_2 : ¬ (a_2 < 0)) (k_3 : a_1 = ((a_0 + 3) - a_2)) => (show (a_1 + 1) = ((a_0 + 3) - (a_2 + (-1))) from by have z0 : (-1 : Int32).toInt = -1 := (by decide +kernel); have z1 : (0 : Int32).toInt = 0 := (by decide +kernel); have z2 : (1 : Int32).toInt = 1 := (by decide +kernel); have z3 : (3 : Int32).toInt = 3 := (by decide +kernel); have z4 : (400 : Int32).toInt = 400 := (by decide +kernel); have r0 := fb_rng (a_0); have r1 := fb_rng (a_1); have r2 := fb_rng (a_2); have e0 := k_0; rw [Int32.lt_iff_toInt_lt, z4] at e0; have e1 := k_1; rw [Int32.lt_iff_toInt_lt, z3] at e1; obtain ⟨n_0, hn_0, s0⟩ := nd_add (x := a_0) (y := (3 : Int32)) (by (try rw [z3]); omega) (by (try rw [z3]); omega); rw [z3] at s0; have e2 := k_2; rw [Int32.lt_iff_toInt_lt, z1] at e2; obtain ⟨n_1, hn_1, s1⟩ := nd_sub (x := n_0) (y := (a_2)) (by omega) (by omega); have e3 := k_3; rw [hn_0, hn_1, ← Int32.toInt_inj] at e3; obtain ⟨n_2, hn_2, s2⟩ := nd_add (x := a_1) (y := (1 : Int32)) (by (try rw [z2]); omega) (by (try rw [z2]); omega); rw [z2] at s2; obtain ⟨n_3, hn_3, s3⟩ := nd_add (x := (a_2)) (y := (-1 : Int32)) (by (try rw [z0]); omega) (by (try rw [z0]); omega); rw [z0] at s3; obtain ⟨n_4, hn_4, s4⟩ := nd_sub (x := n_0) (y := n_3) (by omega) (by omega); rw [hn_2, hn_0, hn_3, hn_4, ← Int32.toInt_inj]; omega)) (ti f q0 28) (ti f_1 q0 28) v2_1 bp_28.2 iv1_1 c_3 iv2_1))) (by exact ms_2 ((fun (a_0 : Int32) (k_0 : ¬ (a_0 < 0)) => (show 1 ≤ (a_0).toInt - (-1 : Int32).toInt ∧ ((a_0) + (-1 : Int32)).toInt - (-1 : Int32).toInt + 1 ≤ (a_0).toInt - (-1 : Int32).toInt from by have z0 : (-1 : Int32).toInt = -1 := (by decide +kernel); have z1 : (0 : Int32).toInt = 0 := (by decide +kernel); have r0 := fb_rng (a_0); have e0 := k_0; rw [Int32.lt_iff_toInt_lt, z1] at e0; obtain ⟨n_0, hn_0, s0⟩ := nd_add (x := (a_0)) (y := (-1 : Int32)) (by (try rw [z0]); omega) (by (try rw [z0]); omega); rw [z0] at s0; rw [hn_0]; (try rw [z0]); omega)) v2_1 c_3) hm_1) (by rw [← hrec_1, wpR_Md_four_w_2_1_pos (ms_3 ((fun (a_0 : Int32) (k_0 : ¬ (a_0 < 0)) => (show 1 ≤ (a_0).toInt - (-1 : Int32).toInt ∧ ((a_0) + (-1 : Int32)).toInt - (-1 : Int32).toInt + 1 ≤ (a_0).toInt - (-1 : Int32).toInt from by have z0 : (-1 : Int32).toInt = -1 := (by decide +kernel); have z1 : (0 : Int32).toInt = 0 := (by decide +kernel); have r0 := fb_rng (a_0); have e0 := k_0; rw [Int32.lt_iff_toInt_lt, z1] at e0; obtain ⟨n_0, hn_0, s0⟩ := nd_add (x := (a_0)) (y := (-1 : Int32)) (by (try rw [z0]); omega) (by (try rw [z0]); omega); rw [z0] at s0; rw [hn_0]; (try rw [z0]); omega)) v2_1 c_3) hm_1)] at hQ; exact hQ) (lv_sub hl [1, 2, 0] rfl)
  exact cut_1 ((3 : Int32).toInt - (-1 : Int32).toInt).toNat (3 : Int32) _ _ _ _ _ hP hD hS hO_0 Ext.rf (by decide +kernel) (by decide +kernel) (show (ti f q0 28) = (((ti f q0 28) + 3) - 3) from ((fun (a_0 : Int32) (k_0 : ¬ (400 < a_0)) => (show a_0 = ((a_0 + 3) - 3) from by have z0 : (3 : Int32).toInt = 3 := (by decide +kernel); have z1 : (400 : Int32).toInt = 400 := (by decide +kernel); have r0 := fb_rng (a_0); have e0 := k_0; rw [Int32.lt_iff_toInt_lt, z1] at e0; obtain ⟨n_0, hn_0, s0⟩ := nd_add (x := a_0) (y := (3 : Int32)) (by (try rw [z0]); omega) (by (try rw [z0]); omega); rw [z0] at s0; obtain ⟨n_1, hn_1, s1⟩ := nd_sub (x := n_0) (y := (3 : Int32)) (by (try rw [z0]); omega) (by (try rw [z0]); omega); rw [z0] at s1; rw [hn_0, hn_1, ← Int32.toInt_inj]; omega)) (ti f q0 28) bp_28.2)) (by exact ms_e _ _) hQ (lv_sub hl [1, 2, 0] rfl)
def W_Md_feed_w : List (Nat × Nat) := [(27, 28), (50, 1000)]
def wp_Md_feed_w (L : List Nat) (f : TF) (q0 : Nat) (p_0 : Int32) (p_1 : Int32) (p_2 : Int32) (p_3 : Int32) (p_4 : Int32) (Q : Int32 → List Nat → TF → Prop) : Prop := ((((ti f q0 28) + 20) ≤ 400 → wp_Md_four_w L f q0 p_0 (fun (L_1 : List Nat) (f_1 : TF) => Ok L_1 f_1 → Ext W_Md_four_w L f L_1 f_1 → (wp_Md_four_w L_1 f_1 q0 p_1 (fun (L_2 : List Nat) (f_2 : TF) => Ok L_2 f_2 → Ext W_Md_four_w L_1 f_1 L_2 f_2 → (wp_Md_four_w L_2 f_2 q0 p_2 (fun (L_3 : List Nat) (f_3 : TF) => Ok L_3 f_3 → Ext W_Md_four_w L_2 f_2 L_3 f_3 → (wp_Md_four_w L_3 f_3 q0 p_3 (fun (L_4 : List Nat) (f_4 : TF) => Ok L_4 f_4 → Ext W_Md_four_w L_3 f_3 L_4 f_4 → (wp_Md_four_w L_4 f_4 q0 p_4 (fun (L_5 : List Nat) (f_5 : TF) => Ok L_5 f_5 → Ext W_Md_four_w L_4 f_4 L_5 f_5 → (Q (ti f_5 q0 28) L_5 f_5))))))))))) ∧ (¬ (((ti f q0 28) + 20) ≤ 400) → Q (-3) L f))
set_option maxHeartbeats 4000000 in
set_option maxRecDepth 100000 in
theorem c_Md_feed_w (l : Launch) (dC : Nat → ClassId) (dI : Nat → Nat → Nat) (ct : Nat → ClassId) (L : List Nat) (f : TF) (hO_0 : Ok L f) (q0 : Nat) (m0 : q0 ∈ L ∧ tk f q0 = 27) (sz : Nat) (p_0 : Int32) (p_1 : Int32) (p_2 : Int32) (p_3 : Int32) (p_4 : Int32)   (Q : Int32 → List Nat → TF → Prop) (hQ : wp_Md_feed_w L f q0 p_0 p_1 p_2 p_3 p_4 Q) : Met l y_Md_feed (.code y_Md_feed b_Md_feed 6 (some .int) :: TB) ({ frames := 1, cells := 0, slots := 0, locals := 22 }) (va_Pc [.ref q0, .int p_0, .int p_1, .int p_2, .int p_3, .int p_4] (PC dC dI (TW ct L f) (TT ct) sz)) (va_Qi (fun r (u : TSt) => Ok u.1 u.2 ∧ Ext W_Md_feed_w L f u.1 u.2 ∧ (True) ∧ Q r u.1 u.2) (fun (u : TSt) t => va_P (dC, dI) vwCl (TW ct u.1 u.2) t.heap ∧ va_K (dC, dI) vwCl (TT ct) t ∧ va_D (va_A (TW ct L f) sz) (TW ct u.1 u.2)) (va_A (TW ct L f) sz)) 0 0 (va_A (TW ct L f) sz) := by
  refine Met.ofW (cc := b_Md_feed) (maxL := 6) (ret := (some .int)) (by decide) rfl ?_
  intro p e s m args below meth c s₁ B hml hv
  obtain ⟨rfl, hsz, hP, hK, hD0, hN⟩ := hv
  have hx := B.exec
  have hb := B.bytes
  have hr := B.returns
  have hts := atoms_spec (ws := (.code y_Md_feed b_Md_feed 6 (some .int) :: TB)) B.pre
  have htb := fun w (h : w ∈ TB) => hts w (List.mem_cons_of_mem _ h)
  have hown : s.vm.findClass R_Md = some m.cls := findClass_of_methodNamed B.named
  have hlocks := B.notSynchronized
  have hl := lv_entry ([.ref q0, .int p_0, .int p_1, .int p_2, .int p_3, .int p_4]) (n := 6) (Nat.le_of_ble_eq_true rfl)
  rw [lg_entry_eq]
  generalize (lg_sl ([.ref q0, .int p_0, .int p_1, .int p_2, .int p_3, .int p_4]) ++ List.replicate (6 - (lg_sl ([.ref q0, .int p_0, .int p_1, .int p_2, .int p_3, .int p_4])).length) Slot.unset).toArray = ls at hl ⊢
  have hl : lv_has ls 6 [(0, .ref q0), (1, .int p_0), (2, .int p_1), (3, .int p_2), (4, .int p_3), (5, .int p_4)] := hl
  subst hsz
  have hD := hD0.self (sz := s.heap.size)
  obtain ⟨A, hAe⟩ : ∃ A, va_A (TW ct L f) s.heap.size = A := ⟨_, rfl⟩
  rw [hAe] at hD
  have hA : ∀ q : Nat, s.heap.size ≤ q → A q := fun q h => by rw [← hAe]; exact Or.inr h
  have hS : va_S A s.heap s.heap [] := va_S.rf
  have hA_0 : Ext [] L f L f := Ext.rf
  suffices hGo : ∀ (H : Heap) (locs : List Loc), va_P (dC, dI) vwCl (TW ct L f) H → va_S A s.heap H locs → W p l e (headSpec (.code y_Md_feed b_Md_feed 6 (some .int) :: TB) ({ frames := 1, cells := 0, slots := 0, locals := 22 })).room s m [.ref q0, .int p_0, .int p_1, .int p_2, .int p_3, .int p_4].toArray below meth c H locs 0 0 (MQ below (va_Qi (fun r (u : TSt) => Ok u.1 u.2 ∧ Ext W_Md_feed_w L f u.1 u.2 ∧ (True) ∧ Q r u.1 u.2) (fun (u : TSt) t => va_P (dC, dI) vwCl (TW ct u.1 u.2) t.heap ∧ va_K (dC, dI) vwCl (TT ct) t ∧ va_D (va_A (TW ct L f) s.heap.size) (TW ct u.1 u.2)) (va_A (TW ct L f) s.heap.size)) [.ref q0, .int p_0, .int p_1, .int p_2, .int p_3, .int p_4].toArray s 0 0 (va_A (TW ct L f) s.heap.size)) (F0 m 0 ls []) from hGo _ _ hP hS
  clear hP hS
  intro H locs hP hS
  unfold wp_Md_feed_w at hQ
  have bs_1 := hO_0.i m0 (show slotD 27 28 = some (.inl (0, 400)) from rfl)
  refine lv_aload_n hx hb d_Md_feed_0 rfl (lv_at hl 0 rfl) ?_
  refine tw_getI (x := (ti f q0 28)) (D := (dC, dI)) (C := R_Md) (T := F_Md) (N := 64) (ci := 7) (kd := 27) (ct := ct) hx hb htb i_Md hown hK hP m0 rfl rfl 28 rfl (by decide) (htb (.fieldLink R_Md 212 "WaterMenModel" "taped" "I") tw_187) (fun _ h9 => h9) rfl d_Md_feed_1 ?_
  refine lv_bipush (v := 20) hx hb d_Md_feed_4 (by decide +kernel) ?_
  refine lv_iadd hx hb d_Md_feed_6 ?_
  refine lv_sipush (v := 400) hx hb d_Md_feed_7 (by decide +kernel) ?_
  refine lv_icmp_le (tgt := 16) hx hb d_Md_feed_10 (by decide) (fun c_2 => ?_) (fun c_2 => ?_)
  · have hQ := hQ.1 c_2
    refine lv_aload_n hx hb d_Md_feed_16 rfl (lv_at hl 0 rfl) ?_
    refine lv_iload_n hx hb d_Md_feed_17 rfl (lv_at hl 1 rfl) ?_
    have hFc := hb_free hD hS hA
    refine va_callv (va_runV (As := [.int p_0]) (rest := []) ⟨hx, hb, hml, hown, htb⟩ (c_Md_four_w l dC dI ct L f hO_0 q0 m0 _ p_0 (by rw [show ti f q0 28 = (ti f q0 28) from rfl]; first | done | exact (show ¬ (396 < (ti f q0 28)) from ((fun (a_0 : Int32) (k_0 : ¬ (400 < a_0)) (k_1 : (a_0 + 20) ≤ 400) => (show ¬ (396 < a_0) from by have z0 : (20 : Int32).toInt = 20 := (by decide +kernel); have z1 : (396 : Int32).toInt = 396 := (by decide +kernel); have z2 : (400 : Int32).toInt = 400 := (by decide +kernel); have r0 := fb_rng (a_0); have e0 := k_0; rw [Int32.lt_iff_toInt_lt, z2] at e0; obtain ⟨n_0, hn_0, s0⟩ := nd_add (x := a_0) (y := (20 : Int32)) (by (try rw [z0]); omega) (by (try rw [z0]); omega); rw [z0] at s0; have e1 := k_1; rw [hn_0, Int32.le_iff_toInt_le, z2] at e1; rw [Int32.lt_iff_toInt_lt, z1]; omega)) (ti f q0 28) bs_1.2 c_2))) _ hQ) (cwV 1 htb (gd_V tw_190 tw_191 tw_192 tw_89 tw_189) rfl rfl rfl (by decide +kernel) ⟨Nat.le_of_ble_eq_true rfl, Nat.le_of_ble_eq_true rfl⟩) ⟨pc_blind, tw_recv hK hP m0 rfl rfl, pc_pre hP hK hD hN⟩ rfl rfl hl.1 rfl (lv_room (Nat.le_of_ble_eq_true rfl)) d_Md_feed_18 ⟨Nat.le_of_ble_eq_true rfl, Nat.le_of_ble_eq_true rfl⟩) hS (fun q _ h => hFc q h) hFc (fun u t H locs ht hvm er hB hz1 hk1 hS => ?_)
    obtain ⟨L_1, f_1⟩ := u
    obtain ⟨hO_1, hE_1, er, hQ⟩ := er
    obtain ⟨hP, hK1, hD1⟩ := hB
    rw [ht] at hP
    have hP : va_P (dC, dI) vwCl (TW ct L_1 f_1) H := hP
    have hD : va_D A (TW ct L_1 f_1) := hD1.weaken (fun _ q _ h => hFc q.1 h)
    have hO_1 : Ok L_1 f_1 := hO_1
    have hE_1 : Ext W_Md_four_w L f L_1 f_1 := hE_1
    clear hK1 hD1 ht hvm hz1 hk1
    have hA_1 := hA_0.trans hE_1
    have hQ := hQ hO_1 hE_1
    obtain ⟨po_4, -⟩ := er
    refine lv_aload_n hx hb d_Md_feed_21 rfl (lv_at hl 0 rfl) ?_
    refine lv_iload_n hx hb d_Md_feed_22 rfl (lv_at hl 2 rfl) ?_
    have hFc := hb_free hD hS hA
    refine va_callv (va_runV (As := [.int p_1]) (rest := []) ⟨hx, hb, hml, hown, htb⟩ (c_Md_four_w l dC dI ct L_1 f_1 hO_1 q0 (hA_1.m m0) _ p_1 (by rw [show ti f_1 q0 28 = (ti f_1 q0 28) from rfl]; first | done | exact (show ¬ (396 < (ti f_1 q0 28)) from ((fun (a_0 : Int32) (a_1 : Int32) (k_0 : ¬ (400 < a_0)) (k_1 : (a_0 + 20) ≤ 400) (k_2 : a_1 = (a_0 + 4)) => (show ¬ (396 < a_1) from by have z0 : (4 : Int32).toInt = 4 := (by decide +kernel); have z1 : (20 : Int32).toInt = 20 := (by decide +kernel); have z2 : (396 : Int32).toInt = 396 := (by decide +kernel); have z3 : (400 : Int32).toInt = 400 := (by decide +kernel); have r0 := fb_rng (a_0); have r1 := fb_rng (a_1); have e0 := k_0; rw [Int32.lt_iff_toInt_lt, z3] at e0; obtain ⟨n_0, hn_0, s0⟩ := nd_add (x := a_0) (y := (20 : Int32)) (by (try rw [z1]); omega) (by (try rw [z1]); omega); rw [z1] at s0; have e1 := k_1; rw [hn_0, Int32.le_iff_toInt_le, z3] at e1; obtain ⟨n_1, hn_1, s1⟩ := nd_add (x := a_0) (y := (4 : Int32)) (by (try rw [z0]); omega) (by (try rw [z0]); omega); rw [z0] at s1; have e2 := k_2; rw [hn_1, ← Int32.toInt_inj] at e2; rw [Int32.lt_iff_toInt_lt, z2]; omega)) (ti f q0 28) (ti f_1 q0 28) bs_1.2 c_2 po_4))) _ hQ) (cwV 1 htb (gd_V tw_190 tw_191 tw_192 tw_89 tw_189) rfl rfl rfl (by decide +kernel) ⟨Nat.le_of_ble_eq_true rfl, Nat.le_of_ble_eq_true rfl⟩) ⟨pc_blind, tw_recv hK hP (hA_1.m m0) rfl rfl, pc_pre hP hK hD hN⟩ rfl rfl hl.1 rfl (lv_room (Nat.le_of_ble_eq_true rfl)) d_Md_feed_23 ⟨Nat.le_of_ble_eq_true rfl, Nat.le_of_ble_eq_true rfl⟩) hS (fun q _ h => hFc q h) hFc (fun u t H locs ht hvm er hB hz1 hk1 hS => ?_)
    obtain ⟨L_2, f_2⟩ := u
    obtain ⟨hO_2, hE_2, er, hQ⟩ := er
    obtain ⟨hP, hK1, hD1⟩ := hB
    rw [ht] at hP
    have hP : va_P (dC, dI) vwCl (TW ct L_2 f_2) H := hP
    have hD : va_D A (TW ct L_2 f_2) := hD1.weaken (fun _ q _ h => hFc q.1 h)
    have hO_2 : Ok L_2 f_2 := hO_2
    have hE_2 : Ext W_Md_four_w L_1 f_1 L_2 f_2 := hE_2
    clear hK1 hD1 ht hvm hz1 hk1
    have hA_2 := hA_1.trans hE_2
    have hQ := hQ hO_2 hE_2
    obtain ⟨po_6, -⟩ := er
    refine lv_aload_n hx hb d_Md_feed_26 rfl (lv_at hl 0 rfl) ?_
    refine lv_iload_n hx hb d_Md_feed_27 rfl (lv_at hl 3 rfl) ?_
    have hFc := hb_free hD hS hA
    refine va_callv (va_runV (As := [.int p_2]) (rest := []) ⟨hx, hb, hml, hown, htb⟩ (c_Md_four_w l dC dI ct L_2 f_2 hO_2 q0 (hA_2.m m0) _ p_2 (by rw [show ti f_2 q0 28 = (ti f_2 q0 28) from rfl]; first | done | exact (show ¬ (396 < (ti f_2 q0 28)) from ((fun (a_0 : Int32) (a_1 : Int32) (a_2 : Int32) (k_0 : ¬ (400 < a_0)) (k_1 : (a_0 + 20) ≤ 400) (k_2 : a_1 = (a_0 + 4)) (k_3 : a_2 = (a_1 + 4)) => (show ¬ (396 < a_2) from by have z0 : (4 : Int32).toInt = 4 := (by decide +kernel); have z1 : (20 : Int32).toInt = 20 := (by decide +kernel); have z2 : (396 : Int32).toInt = 396 := (by decide +kernel); have z3 : (400 : Int32).toInt = 400 := (by decide +kernel); have r0 := fb_rng (a_0); have r1 := fb_rng (a_1); have r2 := fb_rng (a_2); have e0 := k_0; rw [Int32.lt_iff_toInt_lt, z3] at e0; obtain ⟨n_0, hn_0, s0⟩ := nd_add (x := a_0) (y := (20 : Int32)) (by (try rw [z1]); omega) (by (try rw [z1]); omega); rw [z1] at s0; have e1 := k_1; rw [hn_0, Int32.le_iff_toInt_le, z3] at e1; obtain ⟨n_1, hn_1, s1⟩ := nd_add (x := a_0) (y := (4 : Int32)) (by (try rw [z0]); omega) (by (try rw [z0]); omega); rw [z0] at s1; have e2 := k_2; rw [hn_1, ← Int32.toInt_inj] at e2; obtain ⟨n_2, hn_2, s2⟩ := nd_add (x := a_1) (y := (4 : Int32)) (by (try rw [z0]); omega) (by (try rw [z0]); omega); rw [z0] at s2; have e3 := k_3; rw [hn_2, ← Int32.toInt_inj] at e3; rw [Int32.lt_iff_toInt_lt, z2]; omega)) (ti f q0 28) (ti f_1 q0 28) (ti f_2 q0 28) bs_1.2 c_2 po_4 po_6))) _ hQ) (cwV 1 htb (gd_V tw_190 tw_191 tw_192 tw_89 tw_189) rfl rfl rfl (by decide +kernel) ⟨Nat.le_of_ble_eq_true rfl, Nat.le_of_ble_eq_true rfl⟩) ⟨pc_blind, tw_recv hK hP (hA_2.m m0) rfl rfl, pc_pre hP hK hD hN⟩ rfl rfl hl.1 rfl (lv_room (Nat.le_of_ble_eq_true rfl)) d_Md_feed_28 ⟨Nat.le_of_ble_eq_true rfl, Nat.le_of_ble_eq_true rfl⟩) hS (fun q _ h => hFc q h) hFc (fun u t H locs ht hvm er hB hz1 hk1 hS => ?_)
    obtain ⟨L_3, f_3⟩ := u
    obtain ⟨hO_3, hE_3, er, hQ⟩ := er
    obtain ⟨hP, hK1, hD1⟩ := hB
    rw [ht] at hP
    have hP : va_P (dC, dI) vwCl (TW ct L_3 f_3) H := hP
    have hD : va_D A (TW ct L_3 f_3) := hD1.weaken (fun _ q _ h => hFc q.1 h)
    have hO_3 : Ok L_3 f_3 := hO_3
    have hE_3 : Ext W_Md_four_w L_2 f_2 L_3 f_3 := hE_3
    clear hK1 hD1 ht hvm hz1 hk1
    have hA_3 := hA_2.trans hE_3
    have hQ := hQ hO_3 hE_3
    obtain ⟨po_8, -⟩ := er
    refine lv_aload_n hx hb d_Md_feed_31 rfl (lv_at hl 0 rfl) ?_
    refine lv_iload hx hb d_Md_feed_32 (lv_at hl 4 rfl) ?_
    have hFc := hb_free hD hS hA
    refine va_callv (va_runV (As := [.int p_3]) (rest := []) ⟨hx, hb, hml, hown, htb⟩ (c_Md_four_w l dC dI ct L_3 f_3 hO_3 q0 (hA_3.m m0) _ p_3 (by rw [show ti f_3 q0 28 = (ti f_3 q0 28) from rfl]; first | done | exact (show ¬ (396 < (ti f_3 q0 28)) from ((fun (a_0 : Int32) (a_1 : Int32) (a_2 : Int32) (a_3 : Int32) (k_0 : ¬ (400 < a_0)) (k_1 : (a_0 + 20) ≤ 400) (k_2 : a_1 = (a_0 + 4)) (k_3 : a_2 = (a_1 + 4)) (k_4 : a_3 = (a_2 + 4)) => (show ¬ (396 < a_3) from by have z0 : (4 : Int32).toInt = 4 := (by decide +kernel); have z1 : (20 : Int32).toInt = 20 := (by decide +kernel); have z2 : (396 : Int32).toInt = 396 := (by decide +kernel); have z3 : (400 : Int32).toInt = 400 := (by decide +kernel); have r0 := fb_rng (a_0); have r1 := fb_rng (a_1); have r2 := fb_rng (a_2); have r3 := fb_rng (a_3); have e0 := k_0; rw [Int32.lt_iff_toInt_lt, z3] at e0; obtain ⟨n_0, hn_0, s0⟩ := nd_add (x := a_0) (y := (20 : Int32)) (by (try rw [z1]); omega) (by (try rw [z1]); omega); rw [z1] at s0; have e1 := k_1; rw [hn_0, Int32.le_iff_toInt_le, z3] at e1; obtain ⟨n_1, hn_1, s1⟩ := nd_add (x := a_0) (y := (4 : Int32)) (by (try rw [z0]); omega) (by (try rw [z0]); omega); rw [z0] at s1; have e2 := k_2; rw [hn_1, ← Int32.toInt_inj] at e2; obtain ⟨n_2, hn_2, s2⟩ := nd_add (x := a_1) (y := (4 : Int32)) (by (try rw [z0]); omega) (by (try rw [z0]); omega); rw [z0] at s2; have e3 := k_3; rw [hn_2, ← Int32.toInt_inj] at e3; obtain ⟨n_3, hn_3, s3⟩ := nd_add (x := a_2) (y := (4 : Int32)) (by (try rw [z0]); omega) (by (try rw [z0]); omega); rw [z0] at s3; have e4 := k_4; rw [hn_3, ← Int32.toInt_inj] at e4; rw [Int32.lt_iff_toInt_lt, z2]; omega)) (ti f q0 28) (ti f_1 q0 28) (ti f_2 q0 28) (ti f_3 q0 28) bs_1.2 c_2 po_4 po_6 po_8))) _ hQ) (cwV 1 htb (gd_V tw_190 tw_191 tw_192 tw_89 tw_189) rfl rfl rfl (by decide +kernel) ⟨Nat.le_of_ble_eq_true rfl, Nat.le_of_ble_eq_true rfl⟩) ⟨pc_blind, tw_recv hK hP (hA_3.m m0) rfl rfl, pc_pre hP hK hD hN⟩ rfl rfl hl.1 rfl (lv_room (Nat.le_of_ble_eq_true rfl)) d_Md_feed_34 ⟨Nat.le_of_ble_eq_true rfl, Nat.le_of_ble_eq_true rfl⟩) hS (fun q _ h => hFc q h) hFc (fun u t H locs ht hvm er hB hz1 hk1 hS => ?_)
    obtain ⟨L_4, f_4⟩ := u
    obtain ⟨hO_4, hE_4, er, hQ⟩ := er
    obtain ⟨hP, hK1, hD1⟩ := hB
    rw [ht] at hP
    have hP : va_P (dC, dI) vwCl (TW ct L_4 f_4) H := hP
    have hD : va_D A (TW ct L_4 f_4) := hD1.weaken (fun _ q _ h => hFc q.1 h)
    have hO_4 : Ok L_4 f_4 := hO_4
    have hE_4 : Ext W_Md_four_w L_3 f_3 L_4 f_4 := hE_4
    clear hK1 hD1 ht hvm hz1 hk1
    have hA_4 := hA_3.trans hE_4
    have hQ := hQ hO_4 hE_4
    obtain ⟨po_10, -⟩ := er
    refine lv_aload_n hx hb d_Md_feed_37 rfl (lv_at hl 0 rfl) ?_
    refine lv_iload hx hb d_Md_feed_38 (lv_at hl 5 rfl) ?_
    have hFc := hb_free hD hS hA
    refine va_callv (va_runV (As := [.int p_4]) (rest := []) ⟨hx, hb, hml, hown, htb⟩ (c_Md_four_w l dC dI ct L_4 f_4 hO_4 q0 (hA_4.m m0) _ p_4 (by rw [show ti f_4 q0 28 = (ti f_4 q0 28) from rfl]; first | done | exact (show ¬ (396 < (ti f_4 q0 28)) from ((fun (a_0 : Int32) (a_1 : Int32) (a_2 : Int32) (a_3 : Int32) (a_4 : Int32) (k_0 : ¬ (400 < a_0)) (k_1 : (a_0 + 20) ≤ 400) (k_2 : a_1 = (a_0 + 4)) (k_3 : a_2 = (a_1 + 4)) (k_4 : a_3 = (a_2 + 4)) (k_5 : a_4 = (a_3 + 4)) => (show ¬ (396 < a_4) from by have z0 : (4 : Int32).toInt = 4 := (by decide +kernel); have z1 : (20 : Int32).toInt = 20 := (by decide +kernel); have z2 : (396 : Int32).toInt = 396 := (by decide +kernel); have z3 : (400 : Int32).toInt = 400 := (by decide +kernel); have r0 := fb_rng (a_0); have r1 := fb_rng (a_1); have r2 := fb_rng (a_2); have r3 := fb_rng (a_3); have r4 := fb_rng (a_4); have e0 := k_0; rw [Int32.lt_iff_toInt_lt, z3] at e0; obtain ⟨n_0, hn_0, s0⟩ := nd_add (x := a_0) (y := (20 : Int32)) (by (try rw [z1]); omega) (by (try rw [z1]); omega); rw [z1] at s0; have e1 := k_1; rw [hn_0, Int32.le_iff_toInt_le, z3] at e1; obtain ⟨n_1, hn_1, s1⟩ := nd_add (x := a_0) (y := (4 : Int32)) (by (try rw [z0]); omega) (by (try rw [z0]); omega); rw [z0] at s1; have e2 := k_2; rw [hn_1, ← Int32.toInt_inj] at e2; obtain ⟨n_2, hn_2, s2⟩ := nd_add (x := a_1) (y := (4 : Int32)) (by (try rw [z0]); omega) (by (try rw [z0]); omega); rw [z0] at s2; have e3 := k_3; rw [hn_2, ← Int32.toInt_inj] at e3; obtain ⟨n_3, hn_3, s3⟩ := nd_add (x := a_2) (y := (4 : Int32)) (by (try rw [z0]); omega) (by (try rw [z0]); omega); rw [z0] at s3; have e4 := k_4; rw [hn_3, ← Int32.toInt_inj] at e4; obtain ⟨n_4, hn_4, s4⟩ := nd_add (x := a_3) (y := (4 : Int32)) (by (try rw [z0]); omega) (by (try rw [z0]); omega); rw [z0] at s4; have e5 := k_5; rw [hn_4, ← Int32.toInt_inj] at e5; rw [Int32.lt_iff_toInt_lt, z2]; omega)) (ti f q0 28) (ti f_1 q0 28) (ti f_2 q0 28) (ti f_3 q0 28) (ti f_4 q0 28) bs_1.2 c_2 po_4 po_6 po_8 po_10))) _ hQ) (cwV 1 htb (gd_V tw_190 tw_191 tw_192 tw_89 tw_189) rfl rfl rfl (by decide +kernel) ⟨Nat.le_of_ble_eq_true rfl, Nat.le_of_ble_eq_true rfl⟩) ⟨pc_blind, tw_recv hK hP (hA_4.m m0) rfl rfl, pc_pre hP hK hD hN⟩ rfl rfl hl.1 rfl (lv_room (Nat.le_of_ble_eq_true rfl)) d_Md_feed_40 ⟨Nat.le_of_ble_eq_true rfl, Nat.le_of_ble_eq_true rfl⟩) hS (fun q _ h => hFc q h) hFc (fun u t H locs ht hvm er hB hz1 hk1 hS => ?_)
    obtain ⟨L_5, f_5⟩ := u
    obtain ⟨hO_5, hE_5, er, hQ⟩ := er
    obtain ⟨hP, hK1, hD1⟩ := hB
    rw [ht] at hP
    have hP : va_P (dC, dI) vwCl (TW ct L_5 f_5) H := hP
    have hD : va_D A (TW ct L_5 f_5) := hD1.weaken (fun _ q _ h => hFc q.1 h)
    have hO_5 : Ok L_5 f_5 := hO_5
    have hE_5 : Ext W_Md_four_w L_4 f_4 L_5 f_5 := hE_5
    clear hK1 hD1 ht hvm hz1 hk1
    have hA_5 := hA_4.trans hE_5
    have hQ := hQ hO_5 hE_5
    obtain ⟨po_12, -⟩ := er
    refine lv_aload_n hx hb d_Md_feed_43 rfl (lv_at hl 0 rfl) ?_
    refine tw_getI (x := (ti f_5 q0 28)) (D := (dC, dI)) (C := R_Md) (T := F_Md) (N := 64) (ci := 7) (kd := 27) (ct := ct) hx hb htb i_Md hown hK hP (hA_5.m m0) rfl rfl 28 rfl (by decide) (htb (.fieldLink R_Md 212 "WaterMenModel" "taped" "I") tw_187) (fun _ h9 => h9) rfl d_Md_feed_44 ?_
    refine W.widen (k := 0) (n := 0) (Nat.le_of_ble_eq_true rfl) (Nat.le_of_ble_eq_true rfl) ?_
    exact W.iret (v := (ti f_5 q0 28)) hx hb hr (fun t ht hW => ⟨⟨(ti f_5 q0 28), (L_5, f_5), rfl, ⟨hO_5, hA_5.mono (by decide +kernel), trivial, hQ⟩, by rw [ht]; exact hP, va_K.moved hW.alike hK, by rw [hAe]; exact hD⟩, by rw [hAe]; exact hS.F ht⟩) (by rw [hAe]; exact hS.2.2) d_Md_feed_47
  · have hQ := hQ.2 c_2
    refine lv_bipush (v := (-3)) hx hb d_Md_feed_13 (by decide +kernel) ?_
    refine W.widen (k := 0) (n := 0) (Nat.le_of_ble_eq_true rfl) (Nat.le_of_ble_eq_true rfl) ?_
    exact W.iret (v := (-3)) hx hb hr (fun t ht hW => ⟨⟨(-3), (L, f), rfl, ⟨hO_0, hA_0.mono (by decide +kernel), trivial, hQ⟩, by rw [ht]; exact hP, va_K.moved hW.alike hK, by rw [hAe]; exact hD⟩, by rw [hAe]; exact hS.F ht⟩) (by rw [hAe]; exact hS.2.2) d_Md_feed_15
