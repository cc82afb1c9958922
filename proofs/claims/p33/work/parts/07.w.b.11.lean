def W_Or_addLine_5_w : List (Nat × Nat) := [(18, 1000)]
def wp_Or_addLine_5_w (L : List Nat) (f : TF) (q0 : Nat) (p_1 : Int32) (p_2 : Int32) (p_3 : Int32) (Q : List Nat → TF → Prop) : Prop := ∀ q_1 : Nat, tr f q0 4 = some q_1 → ∀ f_1 : TF, f_1 = sI f q_1 (5 : Int32).toNatClampNeg p_1 → Ok L f_1 → Q L f_1
set_option maxHeartbeats 4000000 in
set_option maxRecDepth 100000 in
theorem c_Or_addLine_5_w (l : Launch) (dC : Nat → ClassId) (dI : Nat → Nat → Nat) (ct : Nat → ClassId) (L : List Nat) (f : TF) (hO_0 : Ok L f) (q0 : Nat) (m0 : q0 ∈ L ∧ tk f q0 = 15) (sz : Nat) (p_1 : Int32) (p_2 : Int32) (p_3 : Int32)   (Q : List Nat → TF → Prop) (hQ : wp_Or_addLine_5_w L f q0 p_1 p_2 p_3 Q) : Met l y_Or_addLine (.code y_Or_addLine b_Or_addLine 5 none :: TB) ({ frames := 0, cells := 0, slots := 0, locals := 0 }) (va_Pc [.ref q0, .int 5, .int p_1, .int p_2, .int p_3] (PC dC dI (TW ct L f) (TT ct) sz)) (va_Qv (fun (u : TSt) => Ok u.1 u.2 ∧ Ext W_Or_addLine_5_w L f u.1 u.2 ∧ (True) ∧ Q u.1 u.2) (fun (u : TSt) t => va_P (dC, dI) vwCl (TW ct u.1 u.2) t.heap ∧ va_K (dC, dI) vwCl (TT ct) t ∧ va_D (va_A (TW ct L f) sz) (TW ct u.1 u.2)) (va_A (TW ct L f) sz)) 0 0 (va_A (TW ct L f) sz) := by
  refine Met.ofW (cc := b_Or_addLine) (maxL := 5) (ret := none) (by decide) rfl ?_
  intro p e s m args below meth c s₁ B hml hv
  obtain ⟨rfl, hsz, hP, hK, hD0, hN⟩ := hv
  have hx := B.exec
  have hb := B.bytes
  have hr := B.returns
  have hts := atoms_spec (ws := (.code y_Or_addLine b_Or_addLine 5 none :: TB)) B.pre
  have htb := fun w (h : w ∈ TB) => hts w (List.mem_cons_of_mem _ h)
  have hown : s.vm.findClass R_Or = some m.cls := findClass_of_methodNamed B.named
  have hlocks := B.notSynchronized
  have hl := lv_entry ([.ref q0, .int 5, .int p_1, .int p_2, .int p_3]) (n := 5) (Nat.le_of_ble_eq_true rfl)
  rw [lg_entry_eq]
  generalize (lg_sl ([.ref q0, .int 5, .int p_1, .int p_2, .int p_3]) ++ List.replicate (5 - (lg_sl ([.ref q0, .int 5, .int p_1, .int p_2, .int p_3])).length) Slot.unset).toArray = ls at hl ⊢
  have hl : lv_has ls 5 [(0, .ref q0), (1, .int 5), (2, .int p_1), (3, .int p_2), (4, .int p_3)] := hl
  subst hsz
  have hD := hD0.self (sz := s.heap.size)
  obtain ⟨A, hAe⟩ : ∃ A, va_A (TW ct L f) s.heap.size = A := ⟨_, rfl⟩
  rw [hAe] at hD
  have hA : ∀ q : Nat, s.heap.size ≤ q → A q := fun q h => by rw [← hAe]; exact Or.inr h
  have hS : va_S A s.heap s.heap [] := va_S.rf
  have hA_0 : Ext [] L f L f := Ext.rf
  suffices hGo : ∀ (H : Heap) (locs : List Loc), va_P (dC, dI) vwCl (TW ct L f) H → va_S A s.heap H locs → W p l e (headSpec (.code y_Or_addLine b_Or_addLine 5 none :: TB) ({ frames := 0, cells := 0, slots := 0, locals := 0 })).room s m [.ref q0, .int 5, .int p_1, .int p_2, .int p_3].toArray below meth c H locs 0 0 (MQ below (va_Qv (fun (u : TSt) => Ok u.1 u.2 ∧ Ext W_Or_addLine_5_w L f u.1 u.2 ∧ (True) ∧ Q u.1 u.2) (fun (u : TSt) t => va_P (dC, dI) vwCl (TW ct u.1 u.2) t.heap ∧ va_K (dC, dI) vwCl (TT ct) t ∧ va_D (va_A (TW ct L f) s.heap.size) (TW ct u.1 u.2)) (va_A (TW ct L f) s.heap.size)) [.ref q0, .int 5, .int p_1, .int p_2, .int p_3].toArray s 0 0 (va_A (TW ct L f) s.heap.size)) (F0 m 0 ls []) from hGo _ _ hP hS
  clear hP hS
  intro H locs hP hS
  unfold wp_Or_addLine_5_w at hQ
  refine lv_iload_n hx hb d_Or_addLine_0 rfl (lv_at hl 1 rfl) ?_
  refine lv_if_ne (tgt := 32) hx hb d_Or_addLine_1 (by decide) (fun _ => ?_) (fun h => absurd h (by decide +kernel))
  refine lv_iload_n hx hb d_Or_addLine_32 rfl (lv_at hl 1 rfl) ?_
  refine lv_iconst (v := 1) hx hb d_Or_addLine_33 (by decide +kernel) ?_
  refine lv_icmp_ne (tgt := 65) hx hb d_Or_addLine_34 (by decide) (fun _ => ?_) (fun h => absurd h (by decide +kernel))
  refine lv_aload_n hx hb d_Or_addLine_65 rfl (lv_at hl 0 rfl) ?_
  refine tw_getr (D := (dC, dI)) (C := R_Or) (T := F_Or) (N := 9) (ci := 3) (kd := 15) (ct := ct) hx hb htb i_Or hown hK hP hO_0 m0 rfl rfl 4 (by decide) (htb (.fieldLink R_Or 20 "WaterMen$Order" "single" "[I") tw_248) (fun _ h9 => h9) rfl d_Or_addLine_66 (fun q_1 e_1 m_1 => ?_)
  have hQ := hQ q_1 e_1
  refine lv_iload_n hx hb d_Or_addLine_69 rfl (lv_at hl 1 rfl) ?_
  refine lv_iload_n hx hb d_Or_addLine_70 rfl (lv_at hl 2 rfl) ?_
  refine tw_astI (ct := ct) (x := p_1) hx hb hK hP hD hS hO_0 m_1 rfl (by unfold vp_in; decide +kernel) (i32_full _) d_Or_addLine_71 (fun f_1 H locs hP hD hS hO_1 hE_1 w_2 ow_2 hF_1 => ?_)
  have hA_1 := hA_0.trans hE_1
  have hQ := hQ f_1 hF_1
  have hQ := hQ hO_1
  refine lv_iload_n hx hb d_Or_addLine_72 rfl (lv_at hl 1 rfl) ?_
  refine lv_bipush (v := 6) hx hb d_Or_addLine_73 (by decide +kernel) ?_
  refine lv_icmp_ne (tgt := 88) hx hb d_Or_addLine_75 (by decide) (fun _ => ?_) (fun h => absurd h (by decide +kernel))
  refine W.widen (k := 0) (n := 0) (Nat.le_of_ble_eq_true rfl) (Nat.le_of_ble_eq_true rfl) ?_
  exact W.vret hx hb hr (fun t ht hW => ⟨⟨(L, f_1), rfl, ⟨hO_1, hA_1.mono (by decide +kernel), trivial, hQ⟩, by rw [ht]; exact hP, va_K.moved hW.alike hK, by rw [hAe]; exact hD⟩, by rw [hAe]; exact hS.F ht⟩) (by rw [hAe]; exact hS.2.2) d_Or_addLine_88
def wp_Or_takesLine_6_w (L : List Nat) (f : TF) (q0 : Nat) (Q : Int32 → Prop) : Prop := ∀ q_3 : Nat, tr f q0 4 = some q_3 → ∀ x_4 : Int32, ti f q_3 (6 : Int32).toNatClampNeg = x_4 → ((x_4 = (-1) → Q 1) ∧ (¬ (x_4 = (-1)) → Q 0))
set_option maxHeartbeats 4000000 in
set_option maxRecDepth 100000 in
theorem c_Or_takesLine_6_w (l : Launch) (dC : Nat → ClassId) (dI : Nat → Nat → Nat) (ct : Nat → ClassId) (L : List Nat) (f : TF) (hO_0 : Ok L f) (q0 : Nat) (m0 : q0 ∈ L ∧ tk f q0 = 15)    (Q : Int32 → Prop) (hQ : wp_Or_takesLine_6_w L f q0 Q) : Met l y_Or_takesLine (.code y_Or_takesLine b_Or_takesLine 2 (some .boolean) :: TB) ({ frames := 0, cells := 0, slots := 0, locals := 0 }) (va_Pc [.ref q0, .int 6] (PR dC dI (TW ct L f) (TT ct))) (vp_Si (fun r => ((r = 0 ∧ True) ∨ (r = 1 ∧ True)) ∧ Q r)) 0 0 (fun _ => False) := by
  refine Met.ofW (cc := b_Or_takesLine) (maxL := 2) (ret := (some .boolean)) (by decide) rfl ?_
  intro p e s m args below meth c s₁ B hml hv
  obtain ⟨rfl, hP, hK, hN⟩ := hv
  have hx := B.exec
  have hb := B.bytes
  have hr := B.returns
  have hts := atoms_spec (ws := (.code y_Or_takesLine b_Or_takesLine 2 (some .boolean) :: TB)) B.pre
  have htb := fun w (h : w ∈ TB) => hts w (List.mem_cons_of_mem _ h)
  have hown : s.vm.findClass R_Or = some m.cls := findClass_of_methodNamed B.named
  have hlocks := B.notSynchronized
  have hl := lv_entry ([.ref q0, .int 6]) (n := 2) (Nat.le_of_ble_eq_true rfl)
  rw [lg_entry_eq]
  generalize (lg_sl ([.ref q0, .int 6]) ++ List.replicate (2 - (lg_sl ([.ref q0, .int 6])).length) Slot.unset).toArray = ls at hl ⊢
  have hl : lv_has ls 2 [(0, .ref q0), (1, .int 6)] := hl
  unfold wp_Or_takesLine_6_w at hQ
  have bs_1 := hO_0.i m0 (show slotD 15 5 = some (.inl (0, 12)) from rfl)
  have bs_2 := hO_0.i m0 (show slotD 15 6 = some (.inl (0, 12)) from rfl)
  refine lv_iload_n hx hb d_Or_takesLine_0 rfl (lv_at hl 1 rfl) ?_
  refine lv_if_ne (tgt := 19) hx hb d_Or_takesLine_1 (by decide) (fun _ => ?_) (fun h => absurd h (by decide +kernel))
  refine lv_iload_n hx hb d_Or_takesLine_19 rfl (lv_at hl 1 rfl) ?_
  refine lv_iconst (v := 1) hx hb d_Or_takesLine_20 (by decide +kernel) ?_
  refine lv_icmp_ne (tgt := 39) hx hb d_Or_takesLine_21 (by decide) (fun _ => ?_) (fun h => absurd h (by decide +kernel))
  refine lv_aload_n hx hb d_Or_takesLine_39 rfl (lv_at hl 0 rfl) ?_
  refine tw_getr (D := (dC, dI)) (C := R_Or) (T := F_Or) (N := 9) (ci := 3) (kd := 15) (ct := ct) hx hb htb i_Or hown hK hP hO_0 m0 rfl rfl 4 (by decide) (htb (.fieldLink R_Or 20 "WaterMen$Order" "single" "[I") tw_248) (fun _ h9 => h9) rfl d_Or_takesLine_40 (fun q_3 e_3 m_3 => ?_)
  have hQ := hQ q_3 e_3
  refine lv_iload_n hx hb d_Or_takesLine_43 rfl (lv_at hl 1 rfl) ?_
  refine tw_aldI (ct := ct) hx hb hK hP hO_0 m_3 rfl (by unfold vp_in; decide +kernel) d_Or_takesLine_44 (fun x_4 e_4 b_4 => ?_)
  have hQ := hQ x_4 e_4
  refine lv_iconst (v := (-1)) hx hb d_Or_takesLine_45 (by decide +kernel) ?_
  refine lv_icmp_ne (tgt := 53) hx hb d_Or_takesLine_46 (by decide) (fun c_5 => ?_) (fun c_5 => ?_)
  · have hQ := hQ.2 c_5
    refine lv_iconst (v := 0) hx hb d_Or_takesLine_53 (by decide +kernel) ?_
    exact W.zret (v := 0) hx hb hr (by decide +kernel) (fun t ht hW => ⟨0, rfl, ⟨(Or.inl ⟨rfl, trivial⟩), hQ⟩, ht⟩) t_nil d_Or_takesLine_54
  · have hQ := hQ.1 c_5
    refine lv_iconst (v := 1) hx hb d_Or_takesLine_49 (by decide +kernel) ?_
    refine lv_goto (tgt := 54) hx hb d_Or_takesLine_50 (by decide) ?_
    exact W.zret (v := 1) hx hb hr (by decide +kernel) (fun t ht hW => ⟨1, rfl, ⟨(Or.inr ⟨rfl, trivial⟩), hQ⟩, ht⟩) t_nil d_Or_takesLine_54
def W_Or_addLine_6_w : List (Nat × Nat) := [(15, 7), (15, 8), (18, 1000)]
def wp_Or_addLine_6_w (L : List Nat) (f : TF) (q0 : Nat) (p_1 : Int32) (p_2 : Int32) (p_3 : Int32) (Q : List Nat → TF → Prop) : Prop := ∀ q_1 : Nat, tr f q0 4 = some q_1 → ∀ f_1 : TF, f_1 = sI f q_1 (6 : Int32).toNatClampNeg p_1 → Ok L f_1 → ∀ f_2 : TF, f_2 = sI f_1 q0 7 p_1 → Ok L f_2 → ∀ f_3 : TF, f_3 = sI f_2 q0 8 p_2 → Ok L f_3 → Q L f_3
set_option maxHeartbeats 4000000 in
set_option maxRecDepth 100000 in
theorem c_Or_addLine_6_w (l : Launch) (dC : Nat → ClassId) (dI : Nat → Nat → Nat) (ct : Nat → ClassId) (L : List Nat) (f : TF) (hO_0 : Ok L f) (q0 : Nat) (m0 : q0 ∈ L ∧ tk f q0 = 15) (sz : Nat) (p_1 : Int32) (p_2 : Int32) (p_3 : Int32)   (Q : List Nat → TF → Prop) (hQ : wp_Or_addLine_6_w L f q0 p_1 p_2 p_3 Q) : Met l y_Or_addLine (.code y_Or_addLine b_Or_addLine 5 none :: TB) ({ frames := 0, cells := 0, slots := 0, locals := 0 }) (va_Pc [.ref q0, .int 6, .int p_1, .int p_2, .int p_3] (PC dC dI (TW ct L f) (TT ct) sz)) (va_Qv (fun (u : TSt) => Ok u.1 u.2 ∧ Ext W_Or_addLine_6_w L f u.1 u.2 ∧ (True) ∧ Q u.1 u.2) (fun (u : TSt) t => va_P (dC, dI) vwCl (TW ct u.1 u.2) t.heap ∧ va_K (dC, dI) vwCl (TT ct) t ∧ va_D (va_A (TW ct L f) sz) (TW ct u.1 u.2)) (va_A (TW ct L f) sz)) 0 0 (va_A (TW ct L f) sz) := by
  refine Met.ofW (cc := b_Or_addLine) (maxL := 5) (ret := none) (by decide) rfl ?_
  intro p e s m args below meth c s₁ B hml hv
  obtain ⟨rfl, hsz, hP, hK, hD0, hN⟩ := hv
  have hx := B.exec
  have hb := B.bytes
  have hr := B.returns
  have hts := atoms_spec (ws := (.code y_Or_addLine b_Or_addLine 5 none :: TB)) B.pre
  have htb := fun w (h : w ∈ TB) => hts w (List.mem_cons_of_mem _ h)
  have hown : s.vm.findClass R_Or = some m.cls := findClass_of_methodNamed B.named
  have hlocks := B.notSynchronized
  have hl := lv_entry ([.ref q0, .int 6, .int p_1, .int p_2, .int p_3]) (n := 5) (Nat.le_of_ble_eq_true rfl)
  rw [lg_entry_eq]
  generalize (lg_sl ([.ref q0, .int 6, .int p_1, .int p_2, .int p_3]) ++ List.replicate (5 - (lg_sl ([.ref q0, .int 6, .int p_1, .int p_2, .int p_3])).length) Slot.unset).toArray = ls at hl ⊢
  have hl : lv_has ls 5 [(0, .ref q0), (1, .int 6), (2, .int p_1), (3, .int p_2), (4, .int p_3)] := hl
  subst hsz
  have hD := hD0.self (sz := s.heap.size)
  obtain ⟨A, hAe⟩ : ∃ A, va_A (TW ct L f) s.heap.size = A := ⟨_, rfl⟩
  rw [hAe] at hD
  have hA : ∀ q : Nat, s.heap.size ≤ q → A q := fun q h => by rw [← hAe]; exact Or.inr h
  have hS : va_S A s.heap s.heap [] := va_S.rf
  have hA_0 : Ext [] L f L f := Ext.rf
  suffices hGo : ∀ (H : Heap) (locs : List Loc), va_P (dC, dI) vwCl (TW ct L f) H → va_S A s.heap H locs → W p l e (headSpec (.code y_Or_addLine b_Or_addLine 5 none :: TB) ({ frames := 0, cells := 0, slots := 0, locals := 0 })).room s m [.ref q0, .int 6, .int p_1, .int p_2, .int p_3].toArray below meth c H locs 0 0 (MQ below (va_Qv (fun (u : TSt) => Ok u.1 u.2 ∧ Ext W_Or_addLine_6_w L f u.1 u.2 ∧ (True) ∧ Q u.1 u.2) (fun (u : TSt) t => va_P (dC, dI) vwCl (TW ct u.1 u.2) t.heap ∧ va_K (dC, dI) vwCl (TT ct) t ∧ va_D (va_A (TW ct L f) s.heap.size) (TW ct u.1 u.2)) (va_A (TW ct L f) s.heap.size)) [.ref q0, .int 6, .int p_1, .int p_2, .int p_3].toArray s 0 0 (va_A (TW ct L f) s.heap.size)) (F0 m 0 ls []) from hGo _ _ hP hS
  clear hP hS
  intro H locs hP hS
  unfold wp_Or_addLine_6_w at hQ
  refine lv_iload_n hx hb d_Or_addLine_0 rfl (lv_at hl 1 rfl) ?_
  refine lv_if_ne (tgt := 32) hx hb d_Or_addLine_1 (by decide) (fun _ => ?_) (fun h => absurd h (by decide +kernel))
  refine lv_iload_n hx hb d_Or_addLine_32 rfl (lv_at hl 1 rfl) ?_
  refine lv_iconst (v := 1) hx hb d_Or_addLine_33 (by decide +kernel) ?_
  refine lv_icmp_ne (tgt := 65) hx hb d_Or_addLine_34 (by decide) (fun _ => ?_) (fun h => absurd h (by decide +kernel))
  refine lv_aload_n hx hb d_Or_addLine_65 rfl (lv_at hl 0 rfl) ?_
  refine tw_getr (D := (dC, dI)) (C := R_Or) (T := F_Or) (N := 9) (ci := 3) (kd := 15) (ct := ct) hx hb htb i_Or hown hK hP hO_0 m0 rfl rfl 4 (by decide) (htb (.fieldLink R_Or 20 "WaterMen$Order" "single" "[I") tw_248) (fun _ h9 => h9) rfl d_Or_addLine_66 (fun q_1 e_1 m_1 => ?_)
  have hQ := hQ q_1 e_1
  refine lv_iload_n hx hb d_Or_addLine_69 rfl (lv_at hl 1 rfl) ?_
  refine lv_iload_n hx hb d_Or_addLine_70 rfl (lv_at hl 2 rfl) ?_
  refine tw_astI (ct := ct) (x := p_1) hx hb hK hP hD hS hO_0 m_1 rfl (by unfold vp_in; decide +kernel) (i32_full _) d_Or_addLine_71 (fun f_1 H locs hP hD hS hO_1 hE_1 w_2 ow_2 hF_1 => ?_)
  have hA_1 := hA_0.trans hE_1
  have hQ := hQ f_1 hF_1
  have hQ := hQ hO_1
  refine lv_iload_n hx hb d_Or_addLine_72 rfl (lv_at hl 1 rfl) ?_
  refine lv_bipush (v := 6) hx hb d_Or_addLine_73 (by decide +kernel) ?_
  refine lv_icmp_ne (tgt := 88) hx hb d_Or_addLine_75 (by decide) (fun h => absurd (by decide +kernel) h) (fun _ => ?_)
  refine lv_aload_n hx hb d_Or_addLine_78 rfl (lv_at hl 0 rfl) ?_
  refine lv_iload_n hx hb d_Or_addLine_79 rfl (lv_at hl 2 rfl) ?_
  refine tw_puti (v := p_1) (D := (dC, dI)) (C := R_Or) (T := F_Or) (N := 9) (ci := 3) (kd := 15) (ct := ct) (ty := .int) hx hb htb i_Or t_Or t_Or_ok n_Or hown hK hP hD hS hO_1 (hA_1.m m0) rfl rfl 7 (by decide) (htb (.fieldLink R_Or 34 "WaterMen$Order" "bridgeOpens" "I") tw_313) (fun _ h9 => h9) rfl (by decide +kernel) rfl rfl rfl (i32_full _) d_Or_addLine_80 (fun f_2 H locs hP hD hS hO_2 hE_2 w_3 hF_2 => ?_)
  have hA_2 := hA_1.trans hE_2
  have hQ := hQ f_2 hF_2
  have hQ := hQ hO_2
  refine lv_aload_n hx hb d_Or_addLine_83 rfl (lv_at hl 0 rfl) ?_
  refine lv_iload_n hx hb d_Or_addLine_84 rfl (lv_at hl 3 rfl) ?_
  refine tw_puti (v := p_2) (D := (dC, dI)) (C := R_Or) (T := F_Or) (N := 9) (ci := 3) (kd := 15) (ct := ct) (ty := .int) hx hb htb i_Or t_Or t_Or_ok n_Or hown hK hP hD hS hO_2 (hA_2.m m0) rfl rfl 8 (by decide) (htb (.fieldLink R_Or 37 "WaterMen$Order" "bridgeShuts" "I") tw_314) (fun _ h9 => h9) rfl (by decide +kernel) rfl rfl rfl (i32_full _) d_Or_addLine_85 (fun f_3 H locs hP hD hS hO_3 hE_3 w_4 hF_3 => ?_)
  have hA_3 := hA_2.trans hE_3
  have hQ := hQ f_3 hF_3
  have hQ := hQ hO_3
  refine W.widen (k := 0) (n := 0) (Nat.le_of_ble_eq_true rfl) (Nat.le_of_ble_eq_true rfl) ?_
  exact W.vret hx hb hr (fun t ht hW => ⟨⟨(L, f_3), rfl, ⟨hO_3, hA_3.mono (by decide +kernel), trivial, hQ⟩, by rw [ht]; exact hP, va_K.moved hW.alike hK, by rw [hAe]; exact hD⟩, by rw [hAe]; exact hS.F ht⟩) (by rw [hAe]; exact hS.2.2) d_Or_addLine_88
def wp_Or_takesLine_7_w (L : List Nat) (f : TF) (q0 : Nat) (Q : Int32 → Prop) : Prop := ∀ q_3 : Nat, tr f q0 4 = some q_3 → ∀ x_4 : Int32, ti f q_3 (7 : Int32).toNatClampNeg = x_4 → ((x_4 = (-1) → Q 1) ∧ (¬ (x_4 = (-1)) → Q 0))
set_option maxHeartbeats 4000000 in
set_option maxRecDepth 100000 in
theorem c_Or_takesLine_7_w (l : Launch) (dC : Nat → ClassId) (dI : Nat → Nat → Nat) (ct : Nat → ClassId) (L : List Nat) (f : TF) (hO_0 : Ok L f) (q0 : Nat) (m0 : q0 ∈ L ∧ tk f q0 = 15)    (Q : Int32 → Prop) (hQ : wp_Or_takesLine_7_w L f q0 Q) : Met l y_Or_takesLine (.code y_Or_takesLine b_Or_takesLine 2 (some .boolean) :: TB) ({ frames := 0, cells := 0, slots := 0, locals := 0 }) (va_Pc [.ref q0, .int 7] (PR dC dI (TW ct L f) (TT ct))) (vp_Si (fun r => ((r = 0 ∧ True) ∨ (r = 1 ∧ True)) ∧ Q r)) 0 0 (fun _ => False) := by
  refine Met.ofW (cc := b_Or_takesLine) (maxL := 2) (ret := (some .boolean)) (by decide) rfl ?_
  intro p e s m args below meth c s₁ B hml hv
  obtain ⟨rfl, hP, hK, hN⟩ := hv
  have hx := B.exec
  have hb := B.bytes
  have hr := B.returns
  have hts := atoms_spec (ws := (.code y_Or_takesLine b_Or_takesLine 2 (some .boolean) :: TB)) B.pre
  have htb := fun w (h : w ∈ TB) => hts w (List.mem_cons_of_mem _ h)
  have hown : s.vm.findClass R_Or = some m.cls := findClass_of_methodNamed B.named
  have hlocks := B.notSynchronized
  have hl := lv_entry ([.ref q0, .int 7]) (n := 2) (Nat.le_of_ble_eq_true rfl)
  rw [lg_entry_eq]
  generalize (lg_sl ([.ref q0, .int 7]) ++ List.replicate (2 - (lg_sl ([.ref q0, .int 7])).length) Slot.unset).toArray = ls at hl ⊢
  have hl : lv_has ls 2 [(0, .ref q0), (1, .int 7)] := hl
  unfold wp_Or_takesLine_7_w at hQ
  have bs_1 := hO_0.i m0 (show slotD 15 5 = some (.inl (0, 12)) from rfl)
  have bs_2 := hO_0.i m0 (show slotD 15 6 = some (.inl (0, 12)) from rfl)
  refine lv_iload_n hx hb d_Or_takesLine_0 rfl (lv_at hl 1 rfl) ?_
  refine lv_if_ne (tgt := 19) hx hb d_Or_takesLine_1 (by decide) (fun _ => ?_) (fun h => absurd h (by decide +kernel))
  refine lv_iload_n hx hb d_Or_takesLine_19 rfl (lv_at hl 1 rfl) ?_
  refine lv_iconst (v := 1) hx hb d_Or_takesLine_20 (by decide +kernel) ?_
  refine lv_icmp_ne (tgt := 39) hx hb d_Or_takesLine_21 (by decide) (fun _ => ?_) (fun h => absurd h (by decide +kernel))
  refine lv_aload_n hx hb d_Or_takesLine_39 rfl (lv_at hl 0 rfl) ?_
  refine tw_getr (D := (dC, dI)) (C := R_Or) (T := F_Or) (N := 9) (ci := 3) (kd := 15) (ct := ct) hx hb htb i_Or hown hK hP hO_0 m0 rfl rfl 4 (by decide) (htb (.fieldLink R_Or 20 "WaterMen$Order" "single" "[I") tw_248) (fun _ h9 => h9) rfl d_Or_takesLine_40 (fun q_3 e_3 m_3 => ?_)
  have hQ := hQ q_3 e_3
  refine lv_iload_n hx hb d_Or_takesLine_43 rfl (lv_at hl 1 rfl) ?_
  refine tw_aldI (ct := ct) hx hb hK hP hO_0 m_3 rfl (by unfold vp_in; decide +kernel) d_Or_takesLine_44 (fun x_4 e_4 b_4 => ?_)
  have hQ := hQ x_4 e_4
  refine lv_iconst (v := (-1)) hx hb d_Or_takesLine_45 (by decide +kernel) ?_
  refine lv_icmp_ne (tgt := 53) hx hb d_Or_takesLine_46 (by decide) (fun c_5 => ?_) (fun c_5 => ?_)
  · have hQ := hQ.2 c_5
    refine lv_iconst (v := 0) hx hb d_Or_takesLine_53 (by decide +kernel) ?_
    exact W.zret (v := 0) hx hb hr (by decide +kernel) (fun t ht hW => ⟨0, rfl, ⟨(Or.inl ⟨rfl, trivial⟩), hQ⟩, ht⟩) t_nil d_Or_takesLine_54
  · have hQ := hQ.1 c_5
    refine lv_iconst (v := 1) hx hb d_Or_takesLine_49 (by decide +kernel) ?_
    refine lv_goto (tgt := 54) hx hb d_Or_takesLine_50 (by decide) ?_
    exact W.zret (v := 1) hx hb hr (by decide +kernel) (fun t ht hW => ⟨1, rfl, ⟨(Or.inr ⟨rfl, trivial⟩), hQ⟩, ht⟩) t_nil d_Or_takesLine_54
def W_Or_addLine_7_w : List (Nat × Nat) := [(18, 1000)]
def wp_Or_addLine_7_w (L : List Nat) (f : TF) (q0 : Nat) (p_1 : Int32) (p_2 : Int32) (p_3 : Int32) (Q : List Nat → TF → Prop) : Prop := ∀ q_1 : Nat, tr f q0 4 = some q_1 → ∀ f_1 : TF, f_1 = sI f q_1 (7 : Int32).toNatClampNeg p_1 → Ok L f_1 → Q L f_1
set_option maxHeartbeats 4000000 in
set_option maxRecDepth 100000 in
theorem c_Or_addLine_7_w (l : Launch) (dC : Nat → ClassId) (dI : Nat → Nat → Nat) (ct : Nat → ClassId) (L : List Nat) (f : TF) (hO_0 : Ok L f) (q0 : Nat) (m0 : q0 ∈ L ∧ tk f q0 = 15) (sz : Nat) (p_1 : Int32) (p_2 : Int32) (p_3 : Int32)   (Q : List Nat → TF → Prop) (hQ : wp_Or_addLine_7_w L f q0 p_1 p_2 p_3 Q) : Met l y_Or_addLine (.code y_Or_addLine b_Or_addLine 5 none :: TB) ({ frames := 0, cells := 0, slots := 0, locals := 0 }) (va_Pc [.ref q0, .int 7, .int p_1, .int p_2, .int p_3] (PC dC dI (TW ct L f) (TT ct) sz)) (va_Qv (fun (u : TSt) => Ok u.1 u.2 ∧ Ext W_Or_addLine_7_w L f u.1 u.2 ∧ (True) ∧ Q u.1 u.2) (fun (u : TSt) t => va_P (dC, dI) vwCl (TW ct u.1 u.2) t.heap ∧ va_K (dC, dI) vwCl (TT ct) t ∧ va_D (va_A (TW ct L f) sz) (TW ct u.1 u.2)) (va_A (TW ct L f) sz)) 0 0 (va_A (TW ct L f) sz) := by
  refine Met.ofW (cc := b_Or_addLine) (maxL := 5) (ret := none) (by decide) rfl ?_
  intro p e s m args below meth c s₁ B hml hv
  obtain ⟨rfl, hsz, hP, hK, hD0, hN⟩ := hv
  have hx := B.exec
  have hb := B.bytes
  have hr := B.returns
  have hts := atoms_spec (ws := (.code y_Or_addLine b_Or_addLine 5 none :: TB)) B.pre
  have htb := fun w (h : w ∈ TB) => hts w (List.mem_cons_of_mem _ h)
  have hown : s.vm.findClass R_Or = some m.cls := findClass_of_methodNamed B.named
  have hlocks := B.notSynchronized
  have hl := lv_entry ([.ref q0, .int 7, .int p_1, .int p_2, .int p_3]) (n := 5) (Nat.le_of_ble_eq_true rfl)
  rw [lg_entry_eq]
  generalize (lg_sl ([.ref q0, .int 7, .int p_1, .int p_2, .int p_3]) ++ List.replicate (5 - (lg_sl ([.ref q0, .int 7, .int p_1, .int p_2, .int p_3])).length) Slot.unset).toArray = ls at hl ⊢
  have hl : lv_has ls 5 [(0, .ref q0), (1, .int 7), (2, .int p_1), (3, .int p_2), (4, .int p_3)] := hl
  subst hsz
  have hD := hD0.self (sz := s.heap.size)
  obtain ⟨A, hAe⟩ : ∃ A, va_A (TW ct L f) s.heap.size = A := ⟨_, rfl⟩
  rw [hAe] at hD
  have hA : ∀ q : Nat, s.heap.size ≤ q → A q := fun q h => by rw [← hAe]; exact Or.inr h
  have hS : va_S A s.heap s.heap [] := va_S.rf
  have hA_0 : Ext [] L f L f := Ext.rf
  suffices hGo : ∀ (H : Heap) (locs : List Loc), va_P (dC, dI) vwCl (TW ct L f) H → va_S A s.heap H locs → W p l e (headSpec (.code y_Or_addLine b_Or_addLine 5 none :: TB) ({ frames := 0, cells := 0, slots := 0, locals := 0 })).room s m [.ref q0, .int 7, .int p_1, .int p_2, .int p_3].toArray below meth c H locs 0 0 (MQ below (va_Qv (fun (u : TSt) => Ok u.1 u.2 ∧ Ext W_Or_addLine_7_w L f u.1 u.2 ∧ (True) ∧ Q u.1 u.2) (fun (u : TSt) t => va_P (dC, dI) vwCl (TW ct u.1 u.2) t.heap ∧ va_K (dC, dI) vwCl (TT ct) t ∧ va_D (va_A (TW ct L f) s.heap.size) (TW ct u.1 u.2)) (va_A (TW ct L f) s.heap.size)) [.ref q0, .int 7, .int p_1, .int p_2, .int p_3].toArray s 0 0 (va_A (TW ct L f) s.heap.size)) (F0 m 0 ls []) from hGo _ _ hP hS
  clear hP hS
  intro H locs hP hS
  unfold wp_Or_addLine_7_w at hQ
  refine lv_iload_n hx hb d_Or_addLine_0 rfl (lv_at hl 1 rfl) ?_
  refine lv_if_ne (tgt := 32) hx hb d_Or_addLine_1 (by decide) (fun _ => ?_) (fun h => absurd h (by decide +kernel))
  refine lv_iload_n hx hb d_Or_addLine_32 rfl (lv_at hl 1 rfl) ?_
  refine lv_iconst (v := 1) hx hb d_Or_addLine_33 (by decide +kernel) ?_
  refine lv_icmp_ne (tgt := 65) hx hb d_Or_addLine_34 (by decide) (fun _ => ?_) (fun h => absurd h (by decide +kernel))
  refine lv_aload_n hx hb d_Or_addLine_65 rfl (lv_at hl 0 rfl) ?_
  refine tw_getr (D := (dC, dI)) (C := R_Or) (T := F_Or) (N := 9) (ci := 3) (kd := 15) (ct := ct) hx hb htb i_Or hown hK hP hO_0 m0 rfl rfl 4 (by decide) (htb (.fieldLink R_Or 20 "WaterMen$Order" "single" "[I") tw_248) (fun _ h9 => h9) rfl d_Or_addLine_66 (fun q_1 e_1 m_1 => ?_)
  have hQ := hQ q_1 e_1
  refine lv_iload_n hx hb d_Or_addLine_69 rfl (lv_at hl 1 rfl) ?_
  refine lv_iload_n hx hb d_Or_addLine_70 rfl (lv_at hl 2 rfl) ?_
  refine tw_astI (ct := ct) (x := p_1) hx hb hK hP hD hS hO_0 m_1 rfl (by unfold vp_in; decide +kernel) (i32_full _) d_Or_addLine_71 (fun f_1 H locs hP hD hS hO_1 hE_1 w_2 ow_2 hF_1 => ?_)
  have hA_1 := hA_0.trans hE_1
  have hQ := hQ f_1 hF_1
  have hQ := hQ hO_1
  refine lv_iload_n hx hb d_Or_addLine_72 rfl (lv_at hl 1 rfl) ?_
  refine lv_bipush (v := 6) hx hb d_Or_addLine_73 (by decide +kernel) ?_
  refine lv_icmp_ne (tgt := 88) hx hb d_Or_addLine_75 (by decide) (fun _ => ?_) (fun h => absurd h (by decide +kernel))
  refine W.widen (k := 0) (n := 0) (Nat.le_of_ble_eq_true rfl) (Nat.le_of_ble_eq_true rfl) ?_
  exact W.vret hx hb hr (fun t ht hW => ⟨⟨(L, f_1), rfl, ⟨hO_1, hA_1.mono (by decide +kernel), trivial, hQ⟩, by rw [ht]; exact hP, va_K.moved hW.alike hK, by rw [hAe]; exact hD⟩, by rw [hAe]; exact hS.F ht⟩) (by rw [hAe]; exact hS.2.2) d_Or_addLine_88
def wp_Or_takesLine_8_w (L : List Nat) (f : TF) (q0 : Nat) (Q : Int32 → Prop) : Prop := ∀ q_3 : Nat, tr f q0 4 = some q_3 → ∀ x_4 : Int32, ti f q_3 (8 : Int32).toNatClampNeg = x_4 → ((x_4 = (-1) → Q 1) ∧ (¬ (x_4 = (-1)) → Q 0))
set_option maxHeartbeats 4000000 in
set_option maxRecDepth 100000 in
theorem c_Or_takesLine_8_w (l : Launch) (dC : Nat → ClassId) (dI : Nat → Nat → Nat) (ct : Nat → ClassId) (L : List Nat) (f : TF) (hO_0 : Ok L f) (q0 : Nat) (m0 : q0 ∈ L ∧ tk f q0 = 15)    (Q : Int32 → Prop) (hQ : wp_Or_takesLine_8_w L f q0 Q) : Met l y_Or_takesLine (.code y_Or_takesLine b_Or_takesLine 2 (some .boolean) :: TB) ({ frames := 0, cells := 0, slots := 0, locals := 0 }) (va_Pc [.ref q0, .int 8] (PR dC dI (TW ct L f) (TT ct))) (vp_Si (fun r => ((r = 0 ∧ True) ∨ (r = 1 ∧ True)) ∧ Q r)) 0 0 (fun _ => False) := by
  refine Met.ofW (cc := b_Or_takesLine) (maxL := 2) (ret := (some .boolean)) (by decide) rfl ?_
  intro p e s m args below meth c s₁ B hml hv
  obtain ⟨rfl, hP, hK, hN⟩ := hv
  have hx := B.exec
  have hb := B.bytes
  have hr := B.returns
  have hts := atoms_spec (ws := (.code y_Or_takesLine b_Or_takesLine 2 (some .boolean) :: TB)) B.pre
  have htb := fun w (h : w ∈ TB) => hts w (List.mem_cons_of_mem _ h)
  have hown : s.vm.findClass R_Or = some m.cls := findClass_of_methodNamed B.named
  have hlocks := B.notSynchronized
  have hl := lv_entry ([.ref q0, .int 8]) (n := 2) (Nat.le_of_ble_eq_true rfl)
  rw [lg_entry_eq]
  generalize (lg_sl ([.ref q0, .int 8]) ++ List.replicate (2 - (lg_sl ([.ref q0, .int 8])).length) Slot.unset).toArray = ls at hl ⊢
  have hl : lv_has ls 2 [(0, .ref q0), (1, .int 8)] := hl
  unfold wp_Or_takesLine_8_w at hQ
  have bs_1 := hO_0.i m0 (show slotD 15 5 = some (.inl (0, 12)) from rfl)
  have bs_2 := hO_0.i m0 (show slotD 15 6 = some (.inl (0, 12)) from rfl)
  refine lv_iload_n hx hb d_Or_takesLine_0 rfl (lv_at hl 1 rfl) ?_
  refine lv_if_ne (tgt := 19) hx hb d_Or_takesLine_1 (by decide) (fun _ => ?_) (fun h => absurd h (by decide +kernel))
  refine lv_iload_n hx hb d_Or_takesLine_19 rfl (lv_at hl 1 rfl) ?_
  refine lv_iconst (v := 1) hx hb d_Or_takesLine_20 (by decide +kernel) ?_
  refine lv_icmp_ne (tgt := 39) hx hb d_Or_takesLine_21 (by decide) (fun _ => ?_) (fun h => absurd h (by decide +kernel))
  refine lv_aload_n hx hb d_Or_takesLine_39 rfl (lv_at hl 0 rfl) ?_
  refine tw_getr (D := (dC, dI)) (C := R_Or) (T := F_Or) (N := 9) (ci := 3) (kd := 15) (ct := ct) hx hb htb i_Or hown hK hP hO_0 m0 rfl rfl 4 (by decide) (htb (.fieldLink R_Or 20 "WaterMen$Order" "single" "[I") tw_248) (fun _ h9 => h9) rfl d_Or_takesLine_40 (fun q_3 e_3 m_3 => ?_)
  have hQ := hQ q_3 e_3
  refine lv_iload_n hx hb d_Or_takesLine_43 rfl (lv_at hl 1 rfl) ?_
  refine tw_aldI (ct := ct) hx hb hK hP hO_0 m_3 rfl (by unfold vp_in; decide +kernel) d_Or_takesLine_44 (fun x_4 e_4 b_4 => ?_)
  have hQ := hQ x_4 e_4
  refine lv_iconst (v := (-1)) hx hb d_Or_takesLine_45 (by decide +kernel) ?_
  refine lv_icmp_ne (tgt := 53) hx hb d_Or_takesLine_46 (by decide) (fun c_5 => ?_) (fun c_5 => ?_)
  · have hQ := hQ.2 c_5
    refine lv_iconst (v := 0) hx hb d_Or_takesLine_53 (by decide +kernel) ?_
    exact W.zret (v := 0) hx hb hr (by decide +kernel) (fun t ht hW => ⟨0, rfl, ⟨(Or.inl ⟨rfl, trivial⟩), hQ⟩, ht⟩) t_nil d_Or_takesLine_54
  · have hQ := hQ.1 c_5
    refine lv_iconst (v := 1) hx hb d_Or_takesLine_49 (by decide +kernel) ?_
    refine lv_goto (tgt := 54) hx hb d_Or_takesLine_50 (by decide) ?_
    exact W.zret (v := 1) hx hb hr (by decide +kernel) (fun t ht hW => ⟨1, rfl, ⟨(Or.inr ⟨rfl, trivial⟩), hQ⟩, ht⟩) t_nil d_Or_takesLine_54
def W_Or_addLine_8_w : List (Nat × Nat) := [(18, 1000)]
def wp_Or_addLine_8_w (L : List Nat) (f : TF) (q0 : Nat) (p_1 : Int32) (p_2 : Int32) (p_3 : Int32) (Q : List Nat → TF → Prop) : Prop := ∀ q_1 : Nat, tr f q0 4 = some q_1 → ∀ f_1 : TF, f_1 = sI f q_1 (8 : Int32).toNatClampNeg p_1 → Ok L f_1 → Q L f_1
set_option maxHeartbeats 4000000 in
set_option maxRecDepth 100000 in
theorem c_Or_addLine_8_w (l : Launch) (dC : Nat → ClassId) (dI : Nat → Nat → Nat) (ct : Nat → ClassId) (L : List Nat) (f : TF) (hO_0 : Ok L f) (q0 : Nat) (m0 : q0 ∈ L ∧ tk f q0 = 15) (sz : Nat) (p_1 : Int32) (p_2 : Int32) (p_3 : Int32)   (Q : List Nat → TF → Prop) (hQ : wp_Or_addLine_8_w L f q0 p_1 p_2 p_3 Q) : Met l y_Or_addLine (.code y_Or_addLine b_Or_addLine 5 none :: TB) ({ frames := 0, cells := 0, slots := 0, locals := 0 }) (va_Pc [.ref q0, .int 8, .int p_1, .int p_2, .int p_3] (PC dC dI (TW ct L f) (TT ct) sz)) (va_Qv (fun (u : TSt) => Ok u.1 u.2 ∧ Ext W_Or_addLine_8_w L f u.1 u.2 ∧ (True) ∧ Q u.1 u.2) (fun (u : TSt) t => va_P (dC, dI) vwCl (TW ct u.1 u.2) t.heap ∧ va_K (dC, dI) vwCl (TT ct) t ∧ va_D (va_A (TW ct L f) sz) (TW ct u.1 u.2)) (va_A (TW ct L f) sz)) 0 0 (va_A (TW ct L f) sz) := by
  refine Met.ofW (cc := b_Or_addLine) (maxL := 5) (ret := none) (by decide) rfl ?_
  intro p e s m args below meth c s₁ B hml hv
  obtain ⟨rfl, hsz, hP, hK, hD0, hN⟩ := hv
  have hx := B.exec
  have hb := B.bytes
  have hr := B.returns
  have hts := atoms_spec (ws := (.code y_Or_addLine b_Or_addLine 5 none :: TB)) B.pre
  have htb := fun w (h : w ∈ TB) => hts w (List.mem_cons_of_mem _ h)
  have hown : s.vm.findClass R_Or = some m.cls := findClass_of_methodNamed B.named
  have hlocks := B.notSynchronized
  have hl := lv_entry ([.ref q0, .int 8, .int p_1, .int p_2, .int p_3]) (n := 5) (Nat.le_of_ble_eq_true rfl)
  rw [lg_entry_eq]
  generalize (lg_sl ([.ref q0, .int 8, .int p_1, .int p_2, .int p_3]) ++ List.replicate (5 - (lg_sl ([.ref q0, .int 8, .int p_1, .int p_2, .int p_3])).length) Slot.unset).toArray = ls at hl ⊢
  have hl : lv_has ls 5 [(0, .ref q0), (1, .int 8), (2, .int p_1), (3, .int p_2), (4, .int p_3)] := hl
  subst hsz
  have hD := hD0.self (sz := s.heap.size)
  obtain ⟨A, hAe⟩ : ∃ A, va_A (TW ct L f) s.heap.size = A := ⟨_, rfl⟩
  rw [hAe] at hD
  have hA : ∀ q : Nat, s.heap.size ≤ q → A q := fun q h => by rw [← hAe]; exact Or.inr h
  have hS : va_S A s.heap s.heap [] := va_S.rf
  have hA_0 : Ext [] L f L f := Ext.rf
  suffices hGo : ∀ (H : Heap) (locs : List Loc), va_P (dC, dI) vwCl (TW ct L f) H → va_S A s.heap H locs → W p l e (headSpec (.code y_Or_addLine b_Or_addLine 5 none :: TB) ({ frames := 0, cells := 0, slots := 0, locals := 0 })).room s m [.ref q0, .int 8, .int p_1, .int p_2, .int p_3].toArray below meth c H locs 0 0 (MQ below (va_Qv (fun (u : TSt) => Ok u.1 u.2 ∧ Ext W_Or_addLine_8_w L f u.1 u.2 ∧ (True) ∧ Q u.1 u.2) (fun (u : TSt) t => va_P (dC, dI) vwCl (TW ct u.1 u.2) t.heap ∧ va_K (dC, dI) vwCl (TT ct) t ∧ va_D (va_A (TW ct L f) s.heap.size) (TW ct u.1 u.2)) (va_A (TW ct L f) s.heap.size)) [.ref q0, .int 8, .int p_1, .int p_2, .int p_3].toArray s 0 0 (va_A (TW ct L f) s.heap.size)) (F0 m 0 ls []) from hGo _ _ hP hS
  clear hP hS
  intro H locs hP hS
  unfold wp_Or_addLine_8_w at hQ
  refine lv_iload_n hx hb d_Or_addLine_0 rfl (lv_at hl 1 rfl) ?_
  refine lv_if_ne (tgt := 32) hx hb d_Or_addLine_1 (by decide) (fun _ => ?_) (fun h => absurd h (by decide +kernel))
  refine lv_iload_n hx hb d_Or_addLine_32 rfl (lv_at hl 1 rfl) ?_
  refine lv_iconst (v := 1) hx hb d_Or_addLine_33 (by decide +kernel) ?_
  refine lv_icmp_ne (tgt := 65) hx hb d_Or_addLine_34 (by decide) (fun _ => ?_) (fun h => absurd h (by decide +kernel))
  refine lv_aload_n hx hb d_Or_addLine_65 rfl (lv_at hl 0 rfl) ?_
  refine tw_getr (D := (dC, dI)) (C := R_Or) (T := F_Or) (N := 9) (ci := 3) (kd := 15) (ct := ct) hx hb htb i_Or hown hK hP hO_0 m0 rfl rfl 4 (by decide) (htb (.fieldLink R_Or 20 "WaterMen$Order" "single" "[I") tw_248) (fun _ h9 => h9) rfl d_Or_addLine_66 (fun q_1 e_1 m_1 => ?_)
  have hQ := hQ q_1 e_1
  refine lv_iload_n hx hb d_Or_addLine_69 rfl (lv_at hl 1 rfl) ?_
  refine lv_iload_n hx hb d_Or_addLine_70 rfl (lv_at hl 2 rfl) ?_
  refine tw_astI (ct := ct) (x := p_1) hx hb hK hP hD hS hO_0 m_1 rfl (by unfold vp_in; decide +kernel) (i32_full _) d_Or_addLine_71 (fun f_1 H locs hP hD hS hO_1 hE_1 w_2 ow_2 hF_1 => ?_)
  have hA_1 := hA_0.trans hE_1
  have hQ := hQ f_1 hF_1
  have hQ := hQ hO_1
  refine lv_iload_n hx hb d_Or_addLine_72 rfl (lv_at hl 1 rfl) ?_
  refine lv_bipush (v := 6) hx hb d_Or_addLine_73 (by decide +kernel) ?_
  refine lv_icmp_ne (tgt := 88) hx hb d_Or_addLine_75 (by decide) (fun _ => ?_) (fun h => absurd h (by decide +kernel))
  refine W.widen (k := 0) (n := 0) (Nat.le_of_ble_eq_true rfl) (Nat.le_of_ble_eq_true rfl) ?_
  exact W.vret hx hb hr (fun t ht hW => ⟨⟨(L, f_1), rfl, ⟨hO_1, hA_1.mono (by decide +kernel), trivial, hQ⟩, by rw [ht]; exact hP, va_K.moved hW.alike hK, by rw [hAe]; exact hD⟩, by rw [hAe]; exact hS.F ht⟩) (by rw [hAe]; exact hS.2.2) d_Or_addLine_88
def W_Tp_readLine_w : List (Nat × Nat) := [(10, 2), (10, 3), (10, 4), (10, 5), (15, 5), (15, 6), (15, 7), (15, 8), (16, 1000), (17, 1000), (18, 1000)]
def wp_Tp_readLine_w (L : List Nat) (f : TF) (q0 : Nat) (pq_0 : Nat) (Q : Int32 → List Nat → TF → Prop) : Prop := ∀ x_1 : Int32, ti f q0 2 = x_1 → ((x_1 = 1 → wp_Tp_kindOfLine_w L f q0 (fun (r_3 : Int32) => ((r_3 = (-1) → Q 0 L f) ∧ (r_3 = 0 → wp_Or_takesLine_0_w L f pq_0 (fun (r_4 : Int32) => ((r_4 = 0 → Q 0 L f) ∧ (r_4 = 1 → wp_Tp_step_w L f q0 (fun (L_1 : List Nat) (f_1 : TF) => Ok L_1 f_1 → Ext W_Tp_step_w L f L_1 f_1 → ∀ x_7 : Int32, ti f_1 q0 5 = x_7 → wp_Tp_stepOverNumber_w L_1 f_1 q0 (fun (r_8 : Int32) (L_2 : List Nat) (f_2 : TF) => Ok L_2 f_2 → Ext W_Tp_stepOverNumber_w L_1 f_1 L_2 f_2 → ((r_8 = 0 → Q 0 L_2 f_2) ∧ (r_8 = 1 → wp_Tp_stepOverWord_w L_2 f_2 q0 9 (fun (r_9 : Int32) (L_3 : List Nat) (f_3 : TF) => Ok L_3 f_3 → Ext W_Tp_stepOverWord_w L_2 f_2 L_3 f_3 → ((r_9 = 0 → Q 0 L_3 f_3) ∧ (r_9 = 1 → ∀ x_10 : Int32, ti f_3 q0 5 = x_10 → wp_Tp_stepOverNumber_w L_3 f_3 q0 (fun (r_11 : Int32) (L_4 : List Nat) (f_4 : TF) => Ok L_4 f_4 → Ext W_Tp_stepOverNumber_w L_3 f_3 L_4 f_4 → ((r_11 = 0 → Q 0 L_4 f_4) ∧ (r_11 = 1 → wp_Tp_stepOverWord_w L_4 f_4 q0 10 (fun (r_12 : Int32) (L_5 : List Nat) (f_5 : TF) => Ok L_5 f_5 → Ext W_Tp_stepOverWord_w L_4 f_4 L_5 f_5 → ((r_12 = 0 → Q 0 L_5 f_5) ∧ (r_12 = 1 → ∀ x_13 : Int32, ti f_5 q0 5 = x_13 → wp_Tp_stepOverNumber_w L_5 f_5 q0 (fun (r_14 : Int32) (L_6 : List Nat) (f_6 : TF) => Ok L_6 f_6 → Ext W_Tp_stepOverNumber_w L_5 f_5 L_6 f_6 → ((r_14 = 0 → Q 0 L_6 f_6) ∧ (r_14 = 1 → ∀ x_15 : Int32, ti f_6 q0 2 = x_15 → ((x_15 = 3 → wp_Or_addLine_0_w L_6 f_6 pq_0 x_7 x_10 x_13 (fun (L_7 : List Nat) (f_7 : TF) => Ok L_7 f_7 → Ext W_Or_addLine_0_w L_6 f_6 L_7 f_7 → wp_Tp_step_w L_7 f_7 q0 (fun (L_8 : List Nat) (f_8 : TF) => Ok L_8 f_8 → Ext W_Tp_step_w L_7 f_7 L_8 f_8 → Q 1 L_8 f_8))) ∧ (¬ (x_15 = 3) → Q 0 L_6 f_6)))))))))))))))))))))) ∧ (r_3 = 1 → wp_Or_takesLine_1_w L f pq_0 (fun (r_19 : Int32) => ((r_19 = 0 → Q 0 L f) ∧ (r_19 = 1 → wp_Tp_step_w L f q0 (fun (L_1 : List Nat) (f_1 : TF) => Ok L_1 f_1 → Ext W_Tp_step_w L f L_1 f_1 → ∀ x_22 : Int32, ti f_1 q0 5 = x_22 → wp_Tp_stepOverNumber_w L_1 f_1 q0 (fun (r_23 : Int32) (L_2 : List Nat) (f_2 : TF) => Ok L_2 f_2 → Ext W_Tp_stepOverNumber_w L_1 f_1 L_2 f_2 → ((r_23 = 0 → Q 0 L_2 f_2) ∧ (r_23 = 1 → wp_Tp_stepOverWord_w L_2 f_2 q0 9 (fun (r_24 : Int32) (L_3 : List Nat) (f_3 : TF) => Ok L_3 f_3 → Ext W_Tp_stepOverWord_w L_2 f_2 L_3 f_3 → ((r_24 = 0 → Q 0 L_3 f_3) ∧ (r_24 = 1 → ∀ x_25 : Int32, ti f_3 q0 5 = x_25 → wp_Tp_stepOverNumber_w L_3 f_3 q0 (fun (r_26 : Int32) (L_4 : List Nat) (f_4 : TF) => Ok L_4 f_4 → Ext W_Tp_stepOverNumber_w L_3 f_3 L_4 f_4 → ((r_26 = 0 → Q 0 L_4 f_4) ∧ (r_26 = 1 → wp_Tp_stepOverWord_w L_4 f_4 q0 10 (fun (r_27 : Int32) (L_5 : List Nat) (f_5 : TF) => Ok L_5 f_5 → Ext W_Tp_stepOverWord_w L_4 f_4 L_5 f_5 → ((r_27 = 0 → Q 0 L_5 f_5) ∧ (r_27 = 1 → ∀ x_28 : Int32, ti f_5 q0 5 = x_28 → wp_Tp_stepOverNumber_w L_5 f_5 q0 (fun (r_29 : Int32) (L_6 : List Nat) (f_6 : TF) => Ok L_6 f_6 → Ext W_Tp_stepOverNumber_w L_5 f_5 L_6 f_6 → ((r_29 = 0 → Q 0 L_6 f_6) ∧ (r_29 = 1 → ∀ x_30 : Int32, ti f_6 q0 2 = x_30 → ((x_30 = 3 → wp_Or_addLine_1_w L_6 f_6 pq_0 x_22 x_25 x_28 (fun (L_7 : List Nat) (f_7 : TF) => Ok L_7 f_7 → Ext W_Or_addLine_1_w L_6 f_6 L_7 f_7 → wp_Tp_step_w L_7 f_7 q0 (fun (L_8 : List Nat) (f_8 : TF) => Ok L_8 f_8 → Ext W_Tp_step_w L_7 f_7 L_8 f_8 → Q 1 L_8 f_8))) ∧ (¬ (x_30 = 3) → Q 0 L_6 f_6)))))))))))))))))))))) ∧ (r_3 = 2 → wp_Or_takesLine_2_w L f pq_0 (fun (r_34 : Int32) => ((r_34 = 0 → Q 0 L f) ∧ (r_34 = 1 → wp_Tp_step_w L f q0 (fun (L_1 : List Nat) (f_1 : TF) => Ok L_1 f_1 → Ext W_Tp_step_w L f L_1 f_1 → ∀ x_36 : Int32, ti f_1 q0 5 = x_36 → wp_Tp_stepOverNumber_w L_1 f_1 q0 (fun (r_37 : Int32) (L_2 : List Nat) (f_2 : TF) => Ok L_2 f_2 → Ext W_Tp_stepOverNumber_w L_1 f_1 L_2 f_2 → ((r_37 = 0 → Q 0 L_2 f_2) ∧ (r_37 = 1 → ∀ x_38 : Int32, ti f_2 q0 2 = x_38 → ((x_38 = 3 → wp_Or_addLine_2_w L_2 f_2 pq_0 x_36 (0 : Int32) (0 : Int32) (fun (L_3 : List Nat) (f_3 : TF) => Ok L_3 f_3 → Ext W_Or_addLine_2_w L_2 f_2 L_3 f_3 → wp_Tp_step_w L_3 f_3 q0 (fun (L_4 : List Nat) (f_4 : TF) => Ok L_4 f_4 → Ext W_Tp_step_w L_3 f_3 L_4 f_4 → Q 1 L_4 f_4))) ∧ (¬ (x_38 = 3) → Q 0 L_2 f_2)))))))))) ∧ (r_3 = 3 → wp_Or_takesLine_3_w L f pq_0 (fun (r_42 : Int32) => ((r_42 = 0 → Q 0 L f) ∧ (r_42 = 1 → wp_Tp_step_w L f q0 (fun (L_1 : List Nat) (f_1 : TF) => Ok L_1 f_1 → Ext W_Tp_step_w L f L_1 f_1 → ∀ x_44 : Int32, ti f_1 q0 5 = x_44 → wp_Tp_stepOverNumber_w L_1 f_1 q0 (fun (r_45 : Int32) (L_2 : List Nat) (f_2 : TF) => Ok L_2 f_2 → Ext W_Tp_stepOverNumber_w L_1 f_1 L_2 f_2 → ((r_45 = 0 → Q 0 L_2 f_2) ∧ (r_45 = 1 → ∀ x_46 : Int32, ti f_2 q0 2 = x_46 → ((x_46 = 3 → wp_Or_addLine_3_w L_2 f_2 pq_0 x_44 (0 : Int32) (0 : Int32) (fun (L_3 : List Nat) (f_3 : TF) => Ok L_3 f_3 → Ext W_Or_addLine_3_w L_2 f_2 L_3 f_3 → wp_Tp_step_w L_3 f_3 q0 (fun (L_4 : List Nat) (f_4 : TF) => Ok L_4 f_4 → Ext W_Tp_step_w L_3 f_3 L_4 f_4 → Q 1 L_4 f_4))) ∧ (¬ (x_46 = 3) → Q 0 L_2 f_2)))))))))) ∧ (r_3 = 4 → wp_Or_takesLine_4_w L f pq_0 (fun (r_50 : Int32) => ((r_50 = 0 → Q 0 L f) ∧ (r_50 = 1 → wp_Tp_step_w L f q0 (fun (L_1 : List Nat) (f_1 : TF) => Ok L_1 f_1 → Ext W_Tp_step_w L f L_1 f_1 → ∀ x_52 : Int32, ti f_1 q0 5 = x_52 → wp_Tp_stepOverNumber_w L_1 f_1 q0 (fun (r_53 : Int32) (L_2 : List Nat) (f_2 : TF) => Ok L_2 f_2 → Ext W_Tp_stepOverNumber_w L_1 f_1 L_2 f_2 → ((r_53 = 0 → Q 0 L_2 f_2) ∧ (r_53 = 1 → ∀ x_54 : Int32, ti f_2 q0 2 = x_54 → ((x_54 = 3 → wp_Or_addLine_4_w L_2 f_2 pq_0 x_52 (0 : Int32) (0 : Int32) (fun (L_3 : List Nat) (f_3 : TF) => Ok L_3 f_3 → Ext W_Or_addLine_4_w L_2 f_2 L_3 f_3 → wp_Tp_step_w L_3 f_3 q0 (fun (L_4 : List Nat) (f_4 : TF) => Ok L_4 f_4 → Ext W_Tp_step_w L_3 f_3 L_4 f_4 → Q 1 L_4 f_4))) ∧ (¬ (x_54 = 3) → Q 0 L_2 f_2)))))))))) ∧ (r_3 = 5 → wp_Or_takesLine_5_w L f pq_0 (fun (r_58 : Int32) => ((r_58 = 0 → Q 0 L f) ∧ (r_58 = 1 → wp_Tp_step_w L f q0 (fun (L_1 : List Nat) (f_1 : TF) => Ok L_1 f_1 → Ext W_Tp_step_w L f L_1 f_1 → ∀ x_60 : Int32, ti f_1 q0 5 = x_60 → wp_Tp_stepOverNumber_w L_1 f_1 q0 (fun (r_61 : Int32) (L_2 : List Nat) (f_2 : TF) => Ok L_2 f_2 → Ext W_Tp_stepOverNumber_w L_1 f_1 L_2 f_2 → ((r_61 = 0 → Q 0 L_2 f_2) ∧ (r_61 = 1 → ∀ x_62 : Int32, ti f_2 q0 2 = x_62 → ((x_62 = 3 → wp_Or_addLine_5_w L_2 f_2 pq_0 x_60 (0 : Int32) (0 : Int32) (fun (L_3 : List Nat) (f_3 : TF) => Ok L_3 f_3 → Ext W_Or_addLine_5_w L_2 f_2 L_3 f_3 → wp_Tp_step_w L_3 f_3 q0 (fun (L_4 : List Nat) (f_4 : TF) => Ok L_4 f_4 → Ext W_Tp_step_w L_3 f_3 L_4 f_4 → Q 1 L_4 f_4))) ∧ (¬ (x_62 = 3) → Q 0 L_2 f_2)))))))))) ∧ (r_3 = 6 → wp_Or_takesLine_6_w L f pq_0 (fun (r_66 : Int32) => ((r_66 = 0 → Q 0 L f) ∧ (r_66 = 1 → wp_Tp_step_w L f q0 (fun (L_1 : List Nat) (f_1 : TF) => Ok L_1 f_1 → Ext W_Tp_step_w L f L_1 f_1 → ∀ x_68 : Int32, ti f_1 q0 5 = x_68 → wp_Tp_stepOverNumber_w L_1 f_1 q0 (fun (r_69 : Int32) (L_2 : List Nat) (f_2 : TF) => Ok L_2 f_2 → Ext W_Tp_stepOverNumber_w L_1 f_1 L_2 f_2 → ((r_69 = 0 → Q 0 L_2 f_2) ∧ (r_69 = 1 → wp_Tp_stepOverWord_w L_2 f_2 q0 9 (fun (r_70 : Int32) (L_3 : List Nat) (f_3 : TF) => Ok L_3 f_3 → Ext W_Tp_stepOverWord_w L_2 f_2 L_3 f_3 → ((r_70 = 0 → Q 0 L_3 f_3) ∧ (r_70 = 1 → ∀ x_71 : Int32, ti f_3 q0 5 = x_71 → wp_Tp_stepOverNumber_w L_3 f_3 q0 (fun (r_72 : Int32) (L_4 : List Nat) (f_4 : TF) => Ok L_4 f_4 → Ext W_Tp_stepOverNumber_w L_3 f_3 L_4 f_4 → ((r_72 = 0 → Q 0 L_4 f_4) ∧ (r_72 = 1 → ∀ x_73 : Int32, ti f_4 q0 2 = x_73 → ((x_73 = 3 → wp_Or_addLine_6_w L_4 f_4 pq_0 x_68 x_71 (0 : Int32) (fun (L_5 : List Nat) (f_5 : TF) => Ok L_5 f_5 → Ext W_Or_addLine_6_w L_4 f_4 L_5 f_5 → wp_Tp_step_w L_5 f_5 q0 (fun (L_6 : List Nat) (f_6 : TF) => Ok L_6 f_6 → Ext W_Tp_step_w L_5 f_5 L_6 f_6 → Q 1 L_6 f_6))) ∧ (¬ (x_73 = 3) → Q 0 L_4 f_4)))))))))))))))) ∧ (r_3 = 7 → wp_Or_takesLine_7_w L f pq_0 (fun (r_77 : Int32) => ((r_77 = 0 → Q 0 L f) ∧ (r_77 = 1 → wp_Tp_step_w L f q0 (fun (L_1 : List Nat) (f_1 : TF) => Ok L_1 f_1 → Ext W_Tp_step_w L f L_1 f_1 → ∀ x_79 : Int32, ti f_1 q0 5 = x_79 → wp_Tp_stepOverNumber_w L_1 f_1 q0 (fun (r_80 : Int32) (L_2 : List Nat) (f_2 : TF) => Ok L_2 f_2 → Ext W_Tp_stepOverNumber_w L_1 f_1 L_2 f_2 → ((r_80 = 0 → Q 0 L_2 f_2) ∧ (r_80 = 1 → ∀ x_81 : Int32, ti f_2 q0 2 = x_81 → ((x_81 = 3 → wp_Or_addLine_7_w L_2 f_2 pq_0 x_79 (0 : Int32) (0 : Int32) (fun (L_3 : List Nat) (f_3 : TF) => Ok L_3 f_3 → Ext W_Or_addLine_7_w L_2 f_2 L_3 f_3 → wp_Tp_step_w L_3 f_3 q0 (fun (L_4 : List Nat) (f_4 : TF) => Ok L_4 f_4 → Ext W_Tp_step_w L_3 f_3 L_4 f_4 → Q 1 L_4 f_4))) ∧ (¬ (x_81 = 3) → Q 0 L_2 f_2)))))))))) ∧ (r_3 = 8 → wp_Or_takesLine_8_w L f pq_0 (fun (r_85 : Int32) => ((r_85 = 0 → Q 0 L f) ∧ (r_85 = 1 → wp_Tp_step_w L f q0 (fun (L_1 : List Nat) (f_1 : TF) => Ok L_1 f_1 → Ext W_Tp_step_w L f L_1 f_1 → ∀ x_87 : Int32, ti f_1 q0 5 = x_87 → wp_Tp_stepOverNumber_w L_1 f_1 q0 (fun (r_88 : Int32) (L_2 : List Nat) (f_2 : TF) => Ok L_2 f_2 → Ext W_Tp_stepOverNumber_w L_1 f_1 L_2 f_2 → ((r_88 = 0 → Q 0 L_2 f_2) ∧ (r_88 = 1 → ∀ x_89 : Int32, ti f_2 q0 2 = x_89 → ((x_89 = 3 → wp_Or_addLine_8_w L_2 f_2 pq_0 x_87 (0 : Int32) (0 : Int32) (fun (L_3 : List Nat) (f_3 : TF) => Ok L_3 f_3 → Ext W_Or_addLine_8_w L_2 f_2 L_3 f_3 → wp_Tp_step_w L_3 f_3 q0 (fun (L_4 : List Nat) (f_4 : TF) => Ok L_4 f_4 → Ext W_Tp_step_w L_3 f_3 L_4 f_4 → Q 1 L_4 f_4))) ∧ (¬ (x_89 = 3) → Q 0 L_2 f_2))))))))))))) ∧ (¬ (x_1 = 1) → Q 0 L f))
set_option maxHeartbeats 4000000 in
set_option maxRecDepth 100000 in
theorem c_Tp_readLine_w (l : Launch) (dC : Nat → ClassId) (dI : Nat → Nat → Nat) (ct : Nat → ClassId) (L : List Nat) (f : TF) (hO_0 : Ok L f) (q0 : Nat) (m0 : q0 ∈ L ∧ tk f q0 = 10) (pq_0 : Nat) (pm_0 : pq_0 ∈ L ∧ tk f pq_0 = 15) (adK adV : Nat → Nat) (sz : Nat)    (Q : Int32 → List Nat → TF → Prop) (hQ : wp_Tp_readLine_w L f q0 pq_0 Q) : Met l y_Tp_readLine (.code y_Tp_readLine b_Tp_readLine 8 (some .boolean) :: TB) ({ frames := 6, cells := 0, slots := 0, locals := 128 }) (va_Pc [.ref q0, .ref pq_0] (PCs dC dI (TW ct L f) (TT ct) adK adV sz)) (va_Qi (fun r (u : TSt) => Ok u.1 u.2 ∧ Ext W_Tp_readLine_w L f u.1 u.2 ∧ ((r = 0 ∧ True) ∨ (r = 1 ∧ True)) ∧ Q r u.1 u.2) (fun (u : TSt) t => va_P (dC, dI) vwCl (TW ct u.1 u.2) t.heap ∧ va_K (dC, dI) vwCl (TT ct) t ∧ va_D (va_A (TW ct L f) sz) (TW ct u.1 u.2)) (va_A (TW ct L f) sz)) 0 0 (va_A (TW ct L f) sz) := by
  refine Met.ofW (cc := b_Tp_readLine) (maxL := 8) (ret := (some .boolean)) (by decide) rfl ?_
  intro p e s m args below meth c s₁ B hml hv
  obtain ⟨rfl, ⟨hsz, hP, hK, hD0, hN⟩, hW0⟩ := hv
  have hx := B.exec
  have hb := B.bytes
  have hr := B.returns
  have hts := atoms_spec (ws := (.code y_Tp_readLine b_Tp_readLine 8 (some .boolean) :: TB)) B.pre
  have htb := fun w (h : w ∈ TB) => hts w (List.mem_cons_of_mem _ h)
  have hown : s.vm.findClass R_Tp = some m.cls := findClass_of_methodNamed B.named
  have hlocks := B.notSynchronized
  have hl := lv_entry ([.ref q0, .ref pq_0]) (n := 8) (Nat.le_of_ble_eq_true rfl)
  rw [lg_entry_eq]
  generalize (lg_sl ([.ref q0, .ref pq_0]) ++ List.replicate (8 - (lg_sl ([.ref q0, .ref pq_0])).length) Slot.unset).toArray = ls at hl ⊢
  have hl : lv_has ls 8 [(0, .ref q0), (1, .ref pq_0)] := hl
  subst hsz
  have hD := hD0.self (sz := s.heap.size)
  obtain ⟨A, hAe⟩ : ∃ A, va_A (TW ct L f) s.heap.size = A := ⟨_, rfl⟩
  rw [hAe] at hD
  rw [hAe] at hW0
  have hA : ∀ q : Nat, s.heap.size ≤ q → A q := fun q h => by rw [← hAe]; exact Or.inr h
  have hS : va_S A s.heap s.heap [] := va_S.rf
  have hA_0 : Ext [] L f L f := Ext.rf
  suffices hGo : ∀ (H : Heap) (locs : List Loc), va_P (dC, dI) vwCl (TW ct L f) H → va_S A s.heap H locs → W p l e (headSpec (.code y_Tp_readLine b_Tp_readLine 8 (some .boolean) :: TB) ({ frames := 6, cells := 0, slots := 0, locals := 128 })).room s m [.ref q0, .ref pq_0].toArray below meth c H locs 0 0 (MQ below (va_Qi (fun r (u : TSt) => Ok u.1 u.2 ∧ Ext W_Tp_readLine_w L f u.1 u.2 ∧ ((r = 0 ∧ True) ∨ (r = 1 ∧ True)) ∧ Q r u.1 u.2) (fun (u : TSt) t => va_P (dC, dI) vwCl (TW ct u.1 u.2) t.heap ∧ va_K (dC, dI) vwCl (TT ct) t ∧ va_D (va_A (TW ct L f) s.heap.size) (TW ct u.1 u.2)) (va_A (TW ct L f) s.heap.size)) [.ref q0, .ref pq_0].toArray s 0 0 (va_A (TW ct L f) s.heap.size)) (F0 m 0 ls []) from hGo _ _ hP hS
  clear hP hS
  intro H locs hP hS
  unfold wp_Tp_readLine_w at hQ
  refine lv_aload_n hx hb d_Tp_readLine_0 rfl (lv_at hl 0 rfl) ?_
  refine tw_geti (D := (dC, dI)) (C := R_Tp) (T := F_Tp) (N := 6) (ci := 4) (kd := 10) (ct := ct) hx hb htb i_Tp hown hK hP hO_0 m0 rfl rfl 2 (by decide) (htb (.fieldLink R_Tp 37 "WaterMen$Tape" "sort" "I") tw_257) (fun _ h9 => h9) rfl d_Tp_readLine_1 (fun x_1 e_1 b_1 => ?_)
  have hQ := hQ x_1 e_1
  refine lv_iconst (v := 1) hx hb d_Tp_readLine_4 (by decide +kernel) ?_
  refine lv_icmp_ne (tgt := 15) hx hb d_Tp_readLine_5 (by decide) (fun c_2 => ?_) (fun c_2 => ?_)
  · have hQ := hQ.2 c_2
    refine lv_iconst (v := (-1)) hx hb d_Tp_readLine_15 (by decide +kernel) ?_
    refine lv_istore_n (lv' := [(2, .int (-1)), (0, .ref q0), (1, .ref pq_0)]) hx hb d_Tp_readLine_16 rfl hl (by decide) rfl (fun ls hl => ?_)
    refine lv_iload_n hx hb d_Tp_readLine_17 rfl (lv_at hl 0 rfl) ?_
    refine lv_iconst (v := (-1)) hx hb d_Tp_readLine_18 (by decide +kernel) ?_
    refine lv_icmp_eq (tgt := 30) hx hb d_Tp_readLine_19 (by decide) (fun _ => ?_) (fun h => absurd (by decide +kernel) h)
    refine lv_iconst (v := 0) hx hb d_Tp_readLine_30 (by decide +kernel) ?_
    refine W.widen (k := 0) (n := 0) (Nat.le_of_ble_eq_true rfl) (Nat.le_of_ble_eq_true rfl) ?_
    exact W.zret (v := 0) hx hb hr (by decide +kernel) (fun t ht hW => ⟨⟨0, (L, f), rfl, ⟨hO_0, hA_0.mono (by decide +kernel), (Or.inl ⟨rfl, trivial⟩), hQ⟩, by rw [ht]; exact hP, va_K.moved hW.alike hK, by rw [hAe]; exact hD⟩, by rw [hAe]; exact hS.F ht⟩) (by rw [hAe]; exact hS.2.2) d_Tp_readLine_31
  · have hQ := hQ.1 c_2
    refine lv_aload_n hx hb d_Tp_readLine_8 rfl (lv_at hl 0 rfl) ?_
    refine vp_callSi (va_Run.run (va_runV (As := []) (rest := []) ⟨hx, hb, hml, hown, htb⟩ (c_Tp_kindOfLine_w l dC dI ct L f hO_0 q0 m0 adK adV A _ hQ) (cwV 0 htb (gd_V tw_289 tw_290 tw_291 tw_177 tw_288) rfl rfl rfl (by decide +kernel) ⟨Nat.le_of_ble_eq_true rfl, Nat.le_of_ble_eq_true rfl⟩) ⟨prs_blind, tw_recv hK hP m0 rfl rfl, prs_pre hP hK hN hS hW0⟩ rfl rfl hl.1 rfl (lv_room (Nat.le_of_ble_eq_true rfl)) d_Tp_readLine_9 ⟨Nat.le_of_ble_eq_true rfl, Nat.le_of_ble_eq_true rfl⟩)) (fun r_3 er_3 => ?_)
    obtain ⟨er_3, hQ⟩ := er_3
    rcases er_3 with ⟨rfl, -⟩ | ⟨rfl, -⟩ | ⟨rfl, -⟩ | ⟨rfl, -⟩ | ⟨rfl, -⟩ | ⟨rfl, -⟩ | ⟨rfl, -⟩ | ⟨rfl, -⟩ | ⟨rfl, -⟩ | ⟨rfl, -⟩
    · have hQ := hQ.1 rfl
      refine lv_goto (tgt := 16) hx hb d_Tp_readLine_12 (by decide) ?_
      refine lv_istore_n (lv' := [(2, .int (-1)), (0, .ref q0), (1, .ref pq_0)]) hx hb d_Tp_readLine_16 rfl hl (by decide) rfl (fun ls hl => ?_)
      refine lv_iload_n hx hb d_Tp_readLine_17 rfl (lv_at hl 0 rfl) ?_
      refine lv_iconst (v := (-1)) hx hb d_Tp_readLine_18 (by decide +kernel) ?_
      refine lv_icmp_eq (tgt := 30) hx hb d_Tp_readLine_19 (by decide) (fun _ => ?_) (fun h => absurd (by decide +kernel) h)
      refine lv_iconst (v := 0) hx hb d_Tp_readLine_30 (by decide +kernel) ?_
      refine W.widen (k := 0) (n := 0) (Nat.le_of_ble_eq_true rfl) (Nat.le_of_ble_eq_true rfl) ?_
      exact W.zret (v := 0) hx hb hr (by decide +kernel) (fun t ht hW => ⟨⟨0, (L, f), rfl, ⟨hO_0, hA_0.mono (by decide +kernel), (Or.inl ⟨rfl, trivial⟩), hQ⟩, by rw [ht]; exact hP, va_K.moved hW.alike hK, by rw [hAe]; exact hD⟩, by rw [hAe]; exact hS.F ht⟩) (by rw [hAe]; exact hS.2.2) d_Tp_readLine_31
    · have hQ := hQ.2.1 rfl
      refine lv_goto (tgt := 16) hx hb d_Tp_readLine_12 (by decide) ?_
      refine lv_istore_n (lv' := [(2, .int 0), (0, .ref q0), (1, .ref pq_0)]) hx hb d_Tp_readLine_16 rfl hl (by decide) rfl (fun ls hl => ?_)
      refine lv_iload_n hx hb d_Tp_readLine_17 rfl (lv_at hl 0 rfl) ?_
      refine lv_iconst (v := (-1)) hx hb d_Tp_readLine_18 (by decide +kernel) ?_
      refine lv_icmp_eq (tgt := 30) hx hb d_Tp_readLine_19 (by decide) (fun h => absurd h (by decide +kernel)) (fun _ => ?_)
      refine lv_aload_n hx hb d_Tp_readLine_22 rfl (lv_at hl 2 rfl) ?_
      refine lv_iload_n hx hb d_Tp_readLine_23 rfl (lv_at hl 0 rfl) ?_
      refine vp_callSi (va_Run.run (va_runV (As := [.int 0]) (rest := []) ⟨hx, hb, hml, hown, htb⟩ (c_Or_takesLine_0_w l dC dI ct L f hO_0 pq_0 pm_0 _ hQ) (cwV 1 htb (gd_V tw_293 tw_294 tw_295 tw_250 tw_292) rfl rfl rfl (by decide +kernel) ⟨Nat.le_of_ble_eq_true rfl, Nat.le_of_ble_eq_true rfl⟩) ⟨pr_blind, tw_recv hK hP pm_0 rfl rfl, pr_pre hP hK hN⟩ rfl rfl hl.1 rfl (lv_room (Nat.le_of_ble_eq_true rfl)) d_Tp_readLine_24 ⟨Nat.le_of_ble_eq_true rfl, Nat.le_of_ble_eq_true rfl⟩)) (fun r_4 er_4 => ?_)
      obtain ⟨er_4, hQ⟩ := er_4
      rcases er_4 with ⟨rfl, -⟩ | ⟨rfl, po_5, -⟩
      · have hQ := hQ.1 rfl
        refine lv_if_ne (tgt := 32) hx hb d_Tp_readLine_27 (by decide) (fun h => absurd (by decide +kernel) h) (fun _ => ?_)
        refine lv_iconst (v := 0) hx hb d_Tp_readLine_30 (by decide +kernel) ?_
        refine W.widen (k := 0) (n := 0) (Nat.le_of_ble_eq_true rfl) (Nat.le_of_ble_eq_true rfl) ?_
        exact W.zret (v := 0) hx hb hr (by decide +kernel) (fun t ht hW => ⟨⟨0, (L, f), rfl, ⟨hO_0, hA_0.mono (by decide +kernel), (Or.inl ⟨rfl, trivial⟩), hQ⟩, by rw [ht]; exact hP, va_K.moved hW.alike hK, by rw [hAe]; exact hD⟩, by rw [hAe]; exact hS.F ht⟩) (by rw [hAe]; exact hS.2.2) d_Tp_readLine_31
      · have hQ := hQ.2 rfl
        refine lv_if_ne (tgt := 32) hx hb d_Tp_readLine_27 (by decide) (fun _ => ?_) (fun h => absurd h (by decide +kernel))
        refine lv_iload_n hx hb d_Tp_readLine_32 rfl (lv_at hl 0 rfl) ?_
        refine lv_if_eq (tgt := 47) hx hb d_Tp_readLine_33 (by decide) (fun _ => ?_) (fun h => absurd (by decide +kernel) h)
        refine lv_iconst (v := 1) hx hb d_Tp_readLine_47 (by decide +kernel) ?_
        refine lv_goto (tgt := 52) hx hb d_Tp_readLine_48 (by decide) ?_
        refine lv_istore_n (lv' := [(3, .int 1), (2, .int 0), (0, .ref q0), (1, .ref pq_0)]) hx hb d_Tp_readLine_52 rfl hl (by decide) rfl (fun ls hl => ?_)
        refine lv_iload_n hx hb d_Tp_readLine_53 rfl (lv_at hl 1 rfl) ?_
        refine lv_if_eq (tgt := 62) hx hb d_Tp_readLine_54 (by decide) (fun _ => ?_) (fun h => absurd (by decide +kernel) h)
        refine lv_iconst (v := 1) hx hb d_Tp_readLine_62 (by decide +kernel) ?_
        refine lv_goto (tgt := 67) hx hb d_Tp_readLine_63 (by decide) ?_
        refine lv_istore (lv' := [(4, .int 1), (3, .int 1), (2, .int 0), (0, .ref q0), (1, .ref pq_0)]) hx hb d_Tp_readLine_67 hl (by decide) rfl (fun ls hl => ?_)
        refine lv_aload_n hx hb d_Tp_readLine_69 rfl (lv_at hl 3 rfl) ?_
        have hFc := hb_free hD hS hA
        refine va_callv (va_runV (As := []) (rest := []) ⟨hx, hb, hml, hown, htb⟩ (c_Tp_step_w l dC dI ct L f hO_0 q0 m0 _ _ hQ) (cwV 0 htb (gd_V tw_273 tw_274 tw_275 tw_177 tw_272) rfl rfl rfl (by decide +kernel) ⟨Nat.le_of_ble_eq_true rfl, Nat.le_of_ble_eq_true rfl⟩) ⟨pc_blind, tw_recv hK hP m0 rfl rfl, pc_pre hP hK hD hN⟩ rfl rfl hl.1 rfl (lv_room (Nat.le_of_ble_eq_true rfl)) d_Tp_readLine_70 ⟨Nat.le_of_ble_eq_true rfl, Nat.le_of_ble_eq_true rfl⟩) hS (fun q _ h => hFc q h) hFc (fun u t H locs ht hvm er hB hz1 hk1 hS => ?_)
        obtain ⟨L_1, f_1⟩ := u
        obtain ⟨hO_1, hE_1, er, hQ⟩ := er
        obtain ⟨hP, hK1, hD1⟩ := hB
        rw [ht] at hP
        have hP : va_P (dC, dI) vwCl (TW ct L_1 f_1) H := hP
        have hD : va_D A (TW ct L_1 f_1) := hD1.weaken (fun _ q _ h => hFc q.1 h)
        have hO_1 : Ok L_1 f_1 := hO_1
        have hE_1 : Ext W_Tp_step_w L f L_1 f_1 := hE_1
        clear hK1 hD1 ht hvm hz1 hk1
        have hA_1 := hA_0.trans hE_1
        have hQ := hQ hO_1 hE_1
        clear er
        refine lv_aload_n hx hb d_Tp_readLine_73 rfl (lv_at hl 3 rfl) ?_
        refine tw_geti (D := (dC, dI)) (C := R_Tp) (T := F_Tp) (N := 6) (ci := 4) (kd := 10) (ct := ct) hx hb htb i_Tp hown hK hP hO_1 (hA_1.m m0) rfl rfl 5 (by decide) (htb (.fieldLink R_Tp 48 "WaterMen$Tape" "value" "I") tw_256) (fun _ h9 => h9) rfl d_Tp_readLine_74 (fun x_7 e_7 b_7 => ?_)
        have hQ := hQ x_7 e_7
        refine lv_istore (lv' := [(5, .int x_7), (4, .int 1), (3, .int 1), (2, .int 0), (0, .ref q0), (1, .ref pq_0)]) hx hb d_Tp_readLine_77 hl (by decide) rfl (fun ls hl => ?_)
        refine lv_aload_n hx hb d_Tp_readLine_79 rfl (lv_at hl 4 rfl) ?_
        have hFc := hb_free hD hS hA
        refine va_calli (va_runV (As := []) (rest := []) ⟨hx, hb, hml, hown, htb⟩ (c_Tp_stepOverNumber_w l dC dI ct L_1 f_1 hO_1 q0 (hA_1.m m0) _ _ hQ) (cwV 0 htb (gd_V tw_297 tw_298 tw_299 tw_177 tw_296) rfl rfl rfl (by decide +kernel) ⟨Nat.le_of_ble_eq_true rfl, Nat.le_of_ble_eq_true rfl⟩) ⟨pc_blind, tw_recv hK hP (hA_1.m m0) rfl rfl, pc_pre hP hK hD hN⟩ rfl rfl hl.1 rfl (lv_room (Nat.le_of_ble_eq_true rfl)) d_Tp_readLine_80 ⟨Nat.le_of_ble_eq_true rfl, Nat.le_of_ble_eq_true rfl⟩) hS (fun q _ h => hFc q h) hFc (fun r_8 u t H locs ht hvm er hB hz1 hk1 hS => ?_)
        obtain ⟨L_2, f_2⟩ := u
        obtain ⟨hO_2, hE_2, er, hQ⟩ := er
        obtain ⟨hP, hK1, hD1⟩ := hB
        rw [ht] at hP
        have hP : va_P (dC, dI) vwCl (TW ct L_2 f_2) H := hP
        have hD : va_D A (TW ct L_2 f_2) := hD1.weaken (fun _ q _ h => hFc q.1 h)
        have hO_2 : Ok L_2 f_2 := hO_2
        have hE_2 : Ext W_Tp_stepOverNumber_w L_1 f_1 L_2 f_2 := hE_2
        clear hK1 hD1 ht hvm hz1 hk1
        have hA_2 := hA_1.trans hE_2
        have hQ := hQ hO_2 hE_2
        rcases er with ⟨rfl, -⟩ | ⟨rfl, -⟩
        · have hQ := hQ.1 rfl
          refine lv_if_ne (tgt := 88) hx hb d_Tp_readLine_83 (by decide) (fun h => absurd (by decide +kernel) h) (fun _ => ?_)
          refine lv_iconst (v := 0) hx hb d_Tp_readLine_86 (by decide +kernel) ?_
          refine W.widen (k := 0) (n := 0) (Nat.le_of_ble_eq_true rfl) (Nat.le_of_ble_eq_true rfl) ?_
          exact W.zret (v := 0) hx hb hr (by decide +kernel) (fun t ht hW => ⟨⟨0, (L_2, f_2), rfl, ⟨hO_2, hA_2.mono (by decide +kernel), (Or.inl ⟨rfl, trivial⟩), hQ⟩, by rw [ht]; exact hP, va_K.moved hW.alike hK, by rw [hAe]; exact hD⟩, by rw [hAe]; exact hS.F ht⟩) (by rw [hAe]; exact hS.2.2) d_Tp_readLine_87
        · have hQ := hQ.2 rfl
          refine lv_if_ne (tgt := 88) hx hb d_Tp_readLine_83 (by decide) (fun _ => ?_) (fun h => absurd h (by decide +kernel))
          refine lv_iconst (v := 0) hx hb d_Tp_readLine_88 (by decide +kernel) ?_
          refine lv_istore (lv' := [(6, .int 0), (5, .int x_7), (4, .int 1), (3, .int 1), (2, .int 0), (0, .ref q0), (1, .ref pq_0)]) hx hb d_Tp_readLine_89 hl (by decide) rfl (fun ls hl => ?_)
          refine lv_iload_n hx hb d_Tp_readLine_91 rfl (lv_at hl 3 rfl) ?_
          refine lv_if_eq (tgt := 121) hx hb d_Tp_readLine_92 (by decide) (fun h => absurd h (by decide +kernel)) (fun _ => ?_)
          refine lv_aload_n hx hb d_Tp_readLine_95 rfl (lv_at hl 5 rfl) ?_
          refine va_ldcS hx hb hown (show vk_R R_Tp 55 "to" (adK 9) s from hW0.2.1 9 (by decide)) d_Tp_readLine_96 ?_
          have hFc := hb_free hD hS hA
          refine va_calli (va_runV (As := [.ref (adK 9)]) (rest := []) ⟨hx, hb, hml, hown, htb⟩ (c_Tp_stepOverWord_w l dC dI ct L_2 f_2 hO_2 q0 (hA_2.m m0) adK adV 9 (by decide) _ _ hQ) (cwV 1 htb (gd_V tw_301 tw_302 tw_303 tw_177 tw_300) rfl rfl rfl (by decide +kernel) ⟨Nat.le_of_ble_eq_true rfl, Nat.le_of_ble_eq_true rfl⟩) ⟨pcs_blind, tw_recv hK hP (hA_2.m m0) rfl rfl, pcs_pre hP hK hD hN hS hW0 hFc⟩ rfl rfl hl.1 rfl (lv_room (Nat.le_of_ble_eq_true rfl)) d_Tp_readLine_98 ⟨Nat.le_of_ble_eq_true rfl, Nat.le_of_ble_eq_true rfl⟩) hS (fun q _ h => hFc q h) hFc (fun r_9 u t H locs ht hvm er hB hz1 hk1 hS => ?_)
          obtain ⟨L_3, f_3⟩ := u
          obtain ⟨hO_3, hE_3, er, hQ⟩ := er
          obtain ⟨hP, hK1, hD1⟩ := hB
          rw [ht] at hP
          have hP : va_P (dC, dI) vwCl (TW ct L_3 f_3) H := hP
          have hD : va_D A (TW ct L_3 f_3) := hD1.weaken (fun _ q _ h => hFc q.1 h)
          have hO_3 : Ok L_3 f_3 := hO_3
          have hE_3 : Ext W_Tp_stepOverWord_w L_2 f_2 L_3 f_3 := hE_3
          clear hK1 hD1 ht hvm hz1 hk1
          have hA_3 := hA_2.trans hE_3
          have hQ := hQ hO_3 hE_3
          rcases er with ⟨rfl, -⟩ | ⟨rfl, -⟩
          · have hQ := hQ.1 rfl
            refine lv_if_ne (tgt := 106) hx hb d_Tp_readLine_101 (by decide) (fun h => absurd (by decide +kernel) h) (fun _ => ?_)
            refine lv_iconst (v := 0) hx hb d_Tp_readLine_104 (by decide +kernel) ?_
            refine W.widen (k := 0) (n := 0) (Nat.le_of_ble_eq_true rfl) (Nat.le_of_ble_eq_true rfl) ?_
            exact W.zret (v := 0) hx hb hr (by decide +kernel) (fun t ht hW => ⟨⟨0, (L_3, f_3), rfl, ⟨hO_3, hA_3.mono (by decide +kernel), (Or.inl ⟨rfl, trivial⟩), hQ⟩, by rw [ht]; exact hP, va_K.moved hW.alike hK, by rw [hAe]; exact hD⟩, by rw [hAe]; exact hS.F ht⟩) (by rw [hAe]; exact hS.2.2) d_Tp_readLine_105
          · have hQ := hQ.2 rfl
            refine lv_if_ne (tgt := 106) hx hb d_Tp_readLine_101 (by decide) (fun _ => ?_) (fun h => absurd h (by decide +kernel))
            refine lv_aload_n hx hb d_Tp_readLine_106 rfl (lv_at hl 5 rfl) ?_
            refine tw_geti (D := (dC, dI)) (C := R_Tp) (T := F_Tp) (N := 6) (ci := 4) (kd := 10) (ct := ct) hx hb htb i_Tp hown hK hP hO_3 (hA_3.m m0) rfl rfl 5 (by decide) (htb (.fieldLink R_Tp 48 "WaterMen$Tape" "value" "I") tw_256) (fun _ h9 => h9) rfl d_Tp_readLine_107 (fun x_10 e_10 b_10 => ?_)
            have hQ := hQ x_10 e_10
            refine lv_istore (lv' := [(6, .int x_10), (5, .int x_7), (4, .int 1), (3, .int 1), (2, .int 0), (0, .ref q0), (1, .ref pq_0)]) hx hb d_Tp_readLine_110 hl (by decide) rfl (fun ls hl => ?_)
            refine lv_aload_n hx hb d_Tp_readLine_112 rfl (lv_at hl 5 rfl) ?_
            have hFc := hb_free hD hS hA
            refine va_calli (va_runV (As := []) (rest := []) ⟨hx, hb, hml, hown, htb⟩ (c_Tp_stepOverNumber_w l dC dI ct L_3 f_3 hO_3 q0 (hA_3.m m0) _ _ hQ) (cwV 0 htb (gd_V tw_297 tw_298 tw_299 tw_177 tw_296) rfl rfl rfl (by decide +kernel) ⟨Nat.le_of_ble_eq_true rfl, Nat.le_of_ble_eq_true rfl⟩) ⟨pc_blind, tw_recv hK hP (hA_3.m m0) rfl rfl, pc_pre hP hK hD hN⟩ rfl rfl hl.1 rfl (lv_room (Nat.le_of_ble_eq_true rfl)) d_Tp_readLine_113 ⟨Nat.le_of_ble_eq_true rfl, Nat.le_of_ble_eq_true rfl⟩) hS (fun q _ h => hFc q h) hFc (fun r_11 u t H locs ht hvm er hB hz1 hk1 hS => ?_)
            obtain ⟨L_4, f_4⟩ := u
            obtain ⟨hO_4, hE_4, er, hQ⟩ := er
            obtain ⟨hP, hK1, hD1⟩ := hB
            rw [ht] at hP
            have hP : va_P (dC, dI) vwCl (TW ct L_4 f_4) H := hP
            have hD : va_D A (TW ct L_4 f_4) := hD1.weaken (fun _ q _ h => hFc q.1 h)
            have hO_4 : Ok L_4 f_4 := hO_4
            have hE_4 : Ext W_Tp_stepOverNumber_w L_3 f_3 L_4 f_4 := hE_4
            clear hK1 hD1 ht hvm hz1 hk1
            have hA_4 := hA_3.trans hE_4
            have hQ := hQ hO_4 hE_4
            rcases er with ⟨rfl, -⟩ | ⟨rfl, -⟩
            · have hQ := hQ.1 rfl
              refine lv_if_ne (tgt := 121) hx hb d_Tp_readLine_116 (by decide) (fun h => absurd (by decide +kernel) h) (fun _ => ?_)
              refine lv_iconst (v := 0) hx hb d_Tp_readLine_119 (by decide +kernel) ?_
              refine W.widen (k := 0) (n := 0) (Nat.le_of_ble_eq_true rfl) (Nat.le_of_ble_eq_true rfl) ?_
              exact W.zret (v := 0) hx hb hr (by decide +kernel) (fun t ht hW => ⟨⟨0, (L_4, f_4), rfl, ⟨hO_4, hA_4.mono (by decide +kernel), (Or.inl ⟨rfl, trivial⟩), hQ⟩, by rw [ht]; exact hP, va_K.moved hW.alike hK, by rw [hAe]; exact hD⟩, by rw [hAe]; exact hS.F ht⟩) (by rw [hAe]; exact hS.2.2) d_Tp_readLine_120
            · have hQ := hQ.2 rfl
              refine lv_if_ne (tgt := 121) hx hb d_Tp_readLine_116 (by decide) (fun _ => ?_) (fun h => absurd h (by decide +kernel))
              refine lv_iconst (v := 0) hx hb d_Tp_readLine_121 (by decide +kernel) ?_
              refine lv_istore (lv' := [(7, .int 0), (6, .int x_10), (5, .int x_7), (4, .int 1), (3, .int 1), (2, .int 0), (0, .ref q0), (1, .ref pq_0)]) hx hb d_Tp_readLine_122 hl (by decide) rfl (fun ls hl => ?_)
              refine lv_iload hx hb d_Tp_readLine_124 (lv_at hl 3 rfl) ?_
              refine lv_if_eq (tgt := 155) hx hb d_Tp_readLine_126 (by decide) (fun h => absurd h (by decide +kernel)) (fun _ => ?_)
              refine lv_aload_n hx hb d_Tp_readLine_129 rfl (lv_at hl 6 rfl) ?_
              refine va_ldcS hx hb hown (show vk_R R_Tp 61 "is" (adK 10) s from hW0.2.1 10 (by decide)) d_Tp_readLine_130 ?_
              have hFc := hb_free hD hS hA
              refine va_calli (va_runV (As := [.ref (adK 10)]) (rest := []) ⟨hx, hb, hml, hown, htb⟩ (c_Tp_stepOverWord_w l dC dI ct L_4 f_4 hO_4 q0 (hA_4.m m0) adK adV 10 (by decide) _ _ hQ) (cwV 1 htb (gd_V tw_301 tw_302 tw_303 tw_177 tw_300) rfl rfl rfl (by decide +kernel) ⟨Nat.le_of_ble_eq_true rfl, Nat.le_of_ble_eq_true rfl⟩) ⟨pcs_blind, tw_recv hK hP (hA_4.m m0) rfl rfl, pcs_pre hP hK hD hN hS hW0 hFc⟩ rfl rfl hl.1 rfl (lv_room (Nat.le_of_ble_eq_true rfl)) d_Tp_readLine_132 ⟨Nat.le_of_ble_eq_true rfl, Nat.le_of_ble_eq_true rfl⟩) hS (fun q _ h => hFc q h) hFc (fun r_12 u t H locs ht hvm er hB hz1 hk1 hS => ?_)
              obtain ⟨L_5, f_5⟩ := u
              obtain ⟨hO_5, hE_5, er, hQ⟩ := er
              obtain ⟨hP, hK1, hD1⟩ := hB
              rw [ht] at hP
              have hP : va_P (dC, dI) vwCl (TW ct L_5 f_5) H := hP
              have hD : va_D A (TW ct L_5 f_5) := hD1.weaken (fun _ q _ h => hFc q.1 h)
              have hO_5 : Ok L_5 f_5 := hO_5
              have hE_5 : Ext W_Tp_stepOverWord_w L_4 f_4 L_5 f_5 := hE_5
              clear hK1 hD1 ht hvm hz1 hk1
              have hA_5 := hA_4.trans hE_5
              have hQ := hQ hO_5 hE_5
              rcases er with ⟨rfl, -⟩ | ⟨rfl, -⟩
              · have hQ := hQ.1 rfl
                refine lv_if_ne (tgt := 140) hx hb d_Tp_readLine_135 (by decide) (fun h => absurd (by decide +kernel) h) (fun _ => ?_)
                refine lv_iconst (v := 0) hx hb d_Tp_readLine_138 (by decide +kernel) ?_
                refine W.widen (k := 0) (n := 0) (Nat.le_of_ble_eq_true rfl) (Nat.le_of_ble_eq_true rfl) ?_
                exact W.zret (v := 0) hx hb hr (by decide +kernel) (fun t ht hW => ⟨⟨0, (L_5, f_5), rfl, ⟨hO_5, hA_5.mono (by decide +kernel), (Or.inl ⟨rfl, trivial⟩), hQ⟩, by rw [ht]; exact hP, va_K.moved hW.alike hK, by rw [hAe]; exact hD⟩, by rw [hAe]; exact hS.F ht⟩) (by rw [hAe]; exact hS.2.2) d_Tp_readLine_139
              · have hQ := hQ.2 rfl
                refine lv_if_ne (tgt := 140) hx hb d_Tp_readLine_135 (by decide) (fun _ => ?_) (fun h => absurd h (by decide +kernel))
                refine lv_aload_n hx hb d_Tp_readLine_140 rfl (lv_at hl 6 rfl) ?_
                refine tw_geti (D := (dC, dI)) (C := R_Tp) (T := F_Tp) (N := 6) (ci := 4) (kd := 10) (ct := ct) hx hb htb i_Tp hown hK hP hO_5 (hA_5.m m0) rfl rfl 5 (by decide) (htb (.fieldLink R_Tp 48 "WaterMen$Tape" "value" "I") tw_256) (fun _ h9 => h9) rfl d_Tp_readLine_141 (fun x_13 e_13 b_13 => ?_)
                have hQ := hQ x_13 e_13
                refine lv_istore (lv' := [(7, .int x_13), (6, .int x_10), (5, .int x_7), (4, .int 1), (3, .int 1), (2, .int 0), (0, .ref q0), (1, .ref pq_0)]) hx hb d_Tp_readLine_144 hl (by decide) rfl (fun ls hl => ?_)
                refine lv_aload_n hx hb d_Tp_readLine_146 rfl (lv_at hl 6 rfl) ?_
                have hFc := hb_free hD hS hA
                refine va_calli (va_runV (As := []) (rest := []) ⟨hx, hb, hml, hown, htb⟩ (c_Tp_stepOverNumber_w l dC dI ct L_5 f_5 hO_5 q0 (hA_5.m m0) _ _ hQ) (cwV 0 htb (gd_V tw_297 tw_298 tw_299 tw_177 tw_296) rfl rfl rfl (by decide +kernel) ⟨Nat.le_of_ble_eq_true rfl, Nat.le_of_ble_eq_true rfl⟩) ⟨pc_blind, tw_recv hK hP (hA_5.m m0) rfl rfl, pc_pre hP hK hD hN⟩ rfl rfl hl.1 rfl (lv_room (Nat.le_of_ble_eq_true rfl)) d_Tp_readLine_147 ⟨Nat.le_of_ble_eq_true rfl, Nat.le_of_ble_eq_true rfl⟩) hS (fun q _ h => hFc q h) hFc (fun r_14 u t H locs ht hvm er hB hz1 hk1 hS => ?_)
                obtain ⟨L_6, f_6⟩ := u
                obtain ⟨hO_6, hE_6, er, hQ⟩ := er
                obtain ⟨hP, hK1, hD1⟩ := hB
                rw [ht] at hP
                have hP : va_P (dC, dI) vwCl (TW ct L_6 f_6) H := hP
                have hD : va_D A (TW ct L_6 f_6) := hD1.weaken (fun _ q _ h => hFc q.1 h)
                have hO_6 : Ok L_6 f_6 := hO_6
                have hE_6 : Ext W_Tp_stepOverNumber_w L_5 f_5 L_6 f_6 := hE_6
                clear hK1 hD1 ht hvm hz1 hk1
                have hA_6 := hA_5.trans hE_6
                have hQ := hQ hO_6 hE_6
                rcases er with ⟨rfl, -⟩ | ⟨rfl, -⟩
                · have hQ := hQ.1 rfl
                  refine lv_if_ne (tgt := 155) hx hb d_Tp_readLine_150 (by decide) (fun h => absurd (by decide +kernel) h) (fun _ => ?_)
                  refine lv_iconst (v := 0) hx hb d_Tp_readLine_153 (by decide +kernel) ?_
                  refine W.widen (k := 0) (n := 0) (Nat.le_of_ble_eq_true rfl) (Nat.le_of_ble_eq_true rfl) ?_
                  exact W.zret (v := 0) hx hb hr (by decide +kernel) (fun t ht hW => ⟨⟨0, (L_6, f_6), rfl, ⟨hO_6, hA_6.mono (by decide +kernel), (Or.inl ⟨rfl, trivial⟩), hQ⟩, by rw [ht]; exact hP, va_K.moved hW.alike hK, by rw [hAe]; exact hD⟩, by rw [hAe]; exact hS.F ht⟩) (by rw [hAe]; exact hS.2.2) d_Tp_readLine_154
                · have hQ := hQ.2 rfl
                  refine lv_if_ne (tgt := 155) hx hb d_Tp_readLine_150 (by decide) (fun _ => ?_) (fun h => absurd h (by decide +kernel))
                  refine lv_aload_n hx hb d_Tp_readLine_155 rfl (lv_at hl 6 rfl) ?_
                  refine tw_geti (D := (dC, dI)) (C := R_Tp) (T := F_Tp) (N := 6) (ci := 4) (kd := 10) (ct := ct) hx hb htb i_Tp hown hK hP hO_6 (hA_6.m m0) rfl rfl 2 (by decide) (htb (.fieldLink R_Tp 37 "WaterMen$Tape" "sort" "I") tw_257) (fun _ h9 => h9) rfl d_Tp_readLine_156 (fun x_15 e_15 b_15 => ?_)
                  have hQ := hQ x_15 e_15
                  refine lv_iconst (v := 3) hx hb d_Tp_readLine_159 (by decide +kernel) ?_
                  refine lv_icmp_eq (tgt := 165) hx hb d_Tp_readLine_160 (by decide) (fun c_16 => ?_) (fun c_16 => ?_)
                  · have hQ := hQ.1 c_16
                    refine lv_aload_n hx hb d_Tp_readLine_165 rfl (lv_at hl 7 rfl) ?_
                    refine lv_iload_n hx hb d_Tp_readLine_166 rfl (lv_at hl 5 rfl) ?_
                    refine lv_iload hx hb d_Tp_readLine_167 (lv_at hl 2 rfl) ?_
                    refine lv_iload hx hb d_Tp_readLine_169 (lv_at hl 1 rfl) ?_
                    refine lv_iload hx hb d_Tp_readLine_171 (lv_at hl 0 rfl) ?_
                    have hFc := hb_free hD hS hA
                    refine va_callv (va_runV (As := [.int 0, .int x_7, .int x_10, .int x_13]) (rest := []) ⟨hx, hb, hml, hown, htb⟩ (c_Or_addLine_0_w l dC dI ct L_6 f_6 hO_6 pq_0 (hA_6.m pm_0) _ x_7 x_10 x_13 (by rw [show ti f_6 pq_0 5 = (ti f pq_0 5) from ((hA_6.ei pm_0 rfl).trans rfl)]; first | done | exact po_5) _ hQ) (cwV 4 htb (gd_V tw_309 tw_310 tw_311 tw_250 tw_308) rfl rfl rfl (by decide +kernel) ⟨Nat.le_of_ble_eq_true rfl, Nat.le_of_ble_eq_true rfl⟩) ⟨pc_blind, tw_recv hK hP (hA_6.m pm_0) rfl rfl, pc_pre hP hK hD hN⟩ rfl rfl hl.1 rfl (lv_room (Nat.le_of_ble_eq_true rfl)) d_Tp_readLine_173 ⟨Nat.le_of_ble_eq_true rfl, Nat.le_of_ble_eq_true rfl⟩) hS (fun q _ h => hFc q h) hFc (fun u t H locs ht hvm er hB hz1 hk1 hS => ?_)
                    obtain ⟨L_7, f_7⟩ := u
                    obtain ⟨hO_7, hE_7, er, hQ⟩ := er
                    obtain ⟨hP, hK1, hD1⟩ := hB
                    rw [ht] at hP
                    have hP : va_P (dC, dI) vwCl (TW ct L_7 f_7) H := hP
                    have hD : va_D A (TW ct L_7 f_7) := hD1.weaken (fun _ q _ h => hFc q.1 h)
                    have hO_7 : Ok L_7 f_7 := hO_7
                    have hE_7 : Ext W_Or_addLine_0_w L_6 f_6 L_7 f_7 := hE_7
                    clear hK1 hD1 ht hvm hz1 hk1
                    have hA_7 := hA_6.trans hE_7
                    have hQ := hQ hO_7 hE_7
                    clear er
                    refine lv_aload_n hx hb d_Tp_readLine_176 rfl (lv_at hl 6 rfl) ?_
                    have hFc := hb_free hD hS hA
                    refine va_callv (va_runV (As := []) (rest := []) ⟨hx, hb, hml, hown, htb⟩ (c_Tp_step_w l dC dI ct L_7 f_7 hO_7 q0 (hA_7.m m0) _ _ hQ) (cwV 0 htb (gd_V tw_273 tw_274 tw_275 tw_177 tw_272) rfl rfl rfl (by decide +kernel) ⟨Nat.le_of_ble_eq_true rfl, Nat.le_of_ble_eq_true rfl⟩) ⟨pc_blind, tw_recv hK hP (hA_7.m m0) rfl rfl, pc_pre hP hK hD hN⟩ rfl rfl hl.1 rfl (lv_room (Nat.le_of_ble_eq_true rfl)) d_Tp_readLine_177 ⟨Nat.le_of_ble_eq_true rfl, Nat.le_of_ble_eq_true rfl⟩) hS (fun q _ h => hFc q h) hFc (fun u t H locs ht hvm er hB hz1 hk1 hS => ?_)
                    obtain ⟨L_8, f_8⟩ := u
                    obtain ⟨hO_8, hE_8, er, hQ⟩ := er
                    obtain ⟨hP, hK1, hD1⟩ := hB
                    rw [ht] at hP
                    have hP : va_P (dC, dI) vwCl (TW ct L_8 f_8) H := hP
                    have hD : va_D A (TW ct L_8 f_8) := hD1.weaken (fun _ q _ h => hFc q.1 h)
                    have hO_8 : Ok L_8 f_8 := hO_8
                    have hE_8 : Ext W_Tp_step_w L_7 f_7 L_8 f_8 := hE_8
                    clear hK1 hD1 ht hvm hz1 hk1
                    have hA_8 := hA_7.trans hE_8
                    have hQ := hQ hO_8 hE_8
                    clear er
                    refine lv_iconst (v := 1) hx hb d_Tp_readLine_180 (by decide +kernel) ?_
                    refine W.widen (k := 0) (n := 0) (Nat.le_of_ble_eq_true rfl) (Nat.le_of_ble_eq_true rfl) ?_
                    exact W.zret (v := 1) hx hb hr (by decide +kernel) (fun t ht hW => ⟨⟨1, (L_8, f_8), rfl, ⟨hO_8, hA_8.mono (by decide +kernel), (Or.inr ⟨rfl, trivial⟩), hQ⟩, by rw [ht]; exact hP, va_K.moved hW.alike hK, by rw [hAe]; exact hD⟩, by rw [hAe]; exact hS.F ht⟩) (by rw [hAe]; exact hS.2.2) d_Tp_readLine_181
                  · have hQ := hQ.2 c_16
                    refine lv_iconst (v := 0) hx hb d_Tp_readLine_163 (by decide +kernel) ?_
                    refine W.widen (k := 0) (n := 0) (Nat.le_of_ble_eq_true rfl) (Nat.le_of_ble_eq_true rfl) ?_
                    exact W.zret (v := 0) hx hb hr (by decide +kernel) (fun t ht hW => ⟨⟨0, (L_6, f_6), rfl, ⟨hO_6, hA_6.mono (by decide +kernel), (Or.inl ⟨rfl, trivial⟩), hQ⟩, by rw [ht]; exact hP, va_K.moved hW.alike hK, by rw [hAe]; exact hD⟩, by rw [hAe]; exact hS.F ht⟩) (by rw [hAe]; exact hS.2.2) d_Tp_readLine_164
    · have hQ := hQ.2.2.1 rfl
      refine lv_goto (tgt := 16) hx hb d_Tp_readLine_12 (by decide) ?_
      refine lv_istore_n (lv' := [(2, .int 1), (0, .ref q0), (1, .ref pq_0)]) hx hb d_Tp_readLine_16 rfl hl (by decide) rfl (fun ls hl => ?_)
      refine lv_iload_n hx hb d_Tp_readLine_17 rfl (lv_at hl 0 rfl) ?_
      refine lv_iconst (v := (-1)) hx hb d_Tp_readLine_18 (by decide +kernel) ?_
      refine lv_icmp_eq (tgt := 30) hx hb d_Tp_readLine_19 (by decide) (fun h => absurd h (by decide +kernel)) (fun _ => ?_)
      refine lv_aload_n hx hb d_Tp_readLine_22 rfl (lv_at hl 2 rfl) ?_
      refine lv_iload_n hx hb d_Tp_readLine_23 rfl (lv_at hl 0 rfl) ?_
      refine vp_callSi (va_Run.run (va_runV (As := [.int 1]) (rest := []) ⟨hx, hb, hml, hown, htb⟩ (c_Or_takesLine_1_w l dC dI ct L f hO_0 pq_0 pm_0 _ hQ) (cwV 1 htb (gd_V tw_293 tw_294 tw_295 tw_250 tw_292) rfl rfl rfl (by decide +kernel) ⟨Nat.le_of_ble_eq_true rfl, Nat.le_of_ble_eq_true rfl⟩) ⟨pr_blind, tw_recv hK hP pm_0 rfl rfl, pr_pre hP hK hN⟩ rfl rfl hl.1 rfl (lv_room (Nat.le_of_ble_eq_true rfl)) d_Tp_readLine_24 ⟨Nat.le_of_ble_eq_true rfl, Nat.le_of_ble_eq_true rfl⟩)) (fun r_19 er_19 => ?_)
      obtain ⟨er_19, hQ⟩ := er_19
      rcases er_19 with ⟨rfl, -⟩ | ⟨rfl, po_20, -⟩
      · have hQ := hQ.1 rfl
        refine lv_if_ne (tgt := 32) hx hb d_Tp_readLine_27 (by decide) (fun h => absurd (by decide +kernel) h) (fun _ => ?_)
        refine lv_iconst (v := 0) hx hb d_Tp_readLine_30 (by decide +kernel) ?_
        refine W.widen (k := 0) (n := 0) (Nat.le_of_ble_eq_true rfl) (Nat.le_of_ble_eq_true rfl) ?_
        exact W.zret (v := 0) hx hb hr (by decide +kernel) (fun t ht hW => ⟨⟨0, (L, f), rfl, ⟨hO_0, hA_0.mono (by decide +kernel), (Or.inl ⟨rfl, trivial⟩), hQ⟩, by rw [ht]; exact hP, va_K.moved hW.alike hK, by rw [hAe]; exact hD⟩, by rw [hAe]; exact hS.F ht⟩) (by rw [hAe]; exact hS.2.2) d_Tp_readLine_31
      · have hQ := hQ.2 rfl
        refine lv_if_ne (tgt := 32) hx hb d_Tp_readLine_27 (by decide) (fun _ => ?_) (fun h => absurd h (by decide +kernel))
        refine lv_iload_n hx hb d_Tp_readLine_32 rfl (lv_at hl 0 rfl) ?_
        refine lv_if_eq (tgt := 47) hx hb d_Tp_readLine_33 (by decide) (fun h => absurd h (by decide +kernel)) (fun _ => ?_)
        refine lv_iload_n hx hb d_Tp_readLine_36 rfl (lv_at hl 0 rfl) ?_
        refine lv_iconst (v := 1) hx hb d_Tp_readLine_37 (by decide +kernel) ?_
        refine lv_icmp_eq (tgt := 47) hx hb d_Tp_readLine_38 (by decide) (fun _ => ?_) (fun h => absurd (by decide +kernel) h)
        refine lv_iconst (v := 1) hx hb d_Tp_readLine_47 (by decide +kernel) ?_
        refine lv_goto (tgt := 52) hx hb d_Tp_readLine_48 (by decide) ?_
        refine lv_istore_n (lv' := [(3, .int 1), (2, .int 1), (0, .ref q0), (1, .ref pq_0)]) hx hb d_Tp_readLine_52 rfl hl (by decide) rfl (fun ls hl => ?_)
        refine lv_iload_n hx hb d_Tp_readLine_53 rfl (lv_at hl 1 rfl) ?_
        refine lv_if_eq (tgt := 62) hx hb d_Tp_readLine_54 (by decide) (fun h => absurd h (by decide +kernel)) (fun _ => ?_)
        refine lv_iload_n hx hb d_Tp_readLine_57 rfl (lv_at hl 1 rfl) ?_
        refine lv_iconst (v := 1) hx hb d_Tp_readLine_58 (by decide +kernel) ?_
        refine lv_icmp_ne (tgt := 66) hx hb d_Tp_readLine_59 (by decide) (fun h => absurd (by decide +kernel) h) (fun _ => ?_)
        refine lv_iconst (v := 1) hx hb d_Tp_readLine_62 (by decide +kernel) ?_
        refine lv_goto (tgt := 67) hx hb d_Tp_readLine_63 (by decide) ?_
        refine lv_istore (lv' := [(4, .int 1), (3, .int 1), (2, .int 1), (0, .ref q0), (1, .ref pq_0)]) hx hb d_Tp_readLine_67 hl (by decide) rfl (fun ls hl => ?_)
        refine lv_aload_n hx hb d_Tp_readLine_69 rfl (lv_at hl 3 rfl) ?_
        have hFc := hb_free hD hS hA
        refine va_callv (va_runV (As := []) (rest := []) ⟨hx, hb, hml, hown, htb⟩ (c_Tp_step_w l dC dI ct L f hO_0 q0 m0 _ _ hQ) (cwV 0 htb (gd_V tw_273 tw_274 tw_275 tw_177 tw_272) rfl rfl rfl (by decide +kernel) ⟨Nat.le_of_ble_eq_true rfl, Nat.le_of_ble_eq_true rfl⟩) ⟨pc_blind, tw_recv hK hP m0 rfl rfl, pc_pre hP hK hD hN⟩ rfl rfl hl.1 rfl (lv_room (Nat.le_of_ble_eq_true rfl)) d_Tp_readLine_70 ⟨Nat.le_of_ble_eq_true rfl, Nat.le_of_ble_eq_true rfl⟩) hS (fun q _ h => hFc q h) hFc (fun u t H locs ht hvm er hB hz1 hk1 hS => ?_)
        obtain ⟨L_1, f_1⟩ := u
        obtain ⟨hO_1, hE_1, er, hQ⟩ := er
        obtain ⟨hP, hK1, hD1⟩ := hB
        rw [ht] at hP
        have hP : va_P (dC, dI) vwCl (TW ct L_1 f_1) H := hP
        have hD : va_D A (TW ct L_1 f_1) := hD1.weaken (fun _ q _ h => hFc q.1 h)
        have hO_1 : Ok L_1 f_1 := hO_1
        have hE_1 : Ext W_Tp_step_w L f L_1 f_1 := hE_1
        clear hK1 hD1 ht hvm hz1 hk1
        have hA_1 := hA_0.trans hE_1
        have hQ := hQ hO_1 hE_1
        clear er
        refine lv_aload_n hx hb d_Tp_readLine_73 rfl (lv_at hl 3 rfl) ?_
        refine tw_geti (D := (dC, dI)) (C := R_Tp) (T := F_Tp) (N := 6) (ci := 4) (kd := 10) (ct := ct) hx hb htb i_Tp hown hK hP hO_1 (hA_1.m m0) rfl rfl 5 (by decide) (htb (.fieldLink R_Tp 48 "WaterMen$Tape" "value" "I") tw_256) (fun _ h9 => h9) rfl d_Tp_readLine_74 (fun x_22 e_22 b_22 => ?_)
        have hQ := hQ x_22 e_22
        refine lv_istore (lv' := [(5, .int x_22), (4, .int 1), (3, .int 1), (2, .int 1), (0, .ref q0), (1, .ref pq_0)]) hx hb d_Tp_readLine_77 hl (by decide) rfl (fun ls hl => ?_)
        refine lv_aload_n hx hb d_Tp_readLine_79 rfl (lv_at hl 4 rfl) ?_
        have hFc := hb_free hD hS hA
        refine va_calli (va_runV (As := []) (rest := []) ⟨hx, hb, hml, hown, htb⟩ (c_Tp_stepOverNumber_w l dC dI ct L_1 f_1 hO_1 q0 (hA_1.m m0) _ _ hQ) (cwV 0 htb (gd_V tw_297 tw_298 tw_299 tw_177 tw_296) rfl rfl rfl (by decide +kernel) ⟨Nat.le_of_ble_eq_true rfl, Nat.le_of_ble_eq_true rfl⟩) ⟨pc_blind, tw_recv hK hP (hA_1.m m0) rfl rfl, pc_pre hP hK hD hN⟩ rfl rfl hl.1 rfl (lv_room (Nat.le_of_ble_eq_true rfl)) d_Tp_readLine_80 ⟨Nat.le_of_ble_eq_true rfl, Nat.le_of_ble_eq_true rfl⟩) hS (fun q _ h => hFc q h) hFc (fun r_23 u t H locs ht hvm er hB hz1 hk1 hS => ?_)
        obtain ⟨L_2, f_2⟩ := u
        obtain ⟨hO_2, hE_2, er, hQ⟩ := er
        obtain ⟨hP, hK1, hD1⟩ := hB
        rw [ht] at hP
        have hP : va_P (dC, dI) vwCl (TW ct L_2 f_2) H := hP
        have hD : va_D A (TW ct L_2 f_2) := hD1.weaken (fun _ q _ h => hFc q.1 h)
        have hO_2 : Ok L_2 f_2 := hO_2
        have hE_2 : Ext W_Tp_stepOverNumber_w L_1 f_1 L_2 f_2 := hE_2
        clear hK1 hD1 ht hvm hz1 hk1
        have hA_2 := hA_1.trans hE_2
        have hQ := hQ hO_2 hE_2
        rcases er with ⟨rfl, -⟩ | ⟨rfl, -⟩
        · have hQ := hQ.1 rfl
          refine lv_if_ne (tgt := 88) hx hb d_Tp_readLine_83 (by decide) (fun h => absurd (by decide +kernel) h) (fun _ => ?_)
          refine lv_iconst (v := 0) hx hb d_Tp_readLine_86 (by decide +kernel) ?_
          refine W.widen (k := 0) (n := 0) (Nat.le_of_ble_eq_true rfl) (Nat.le_of_ble_eq_true rfl) ?_
          exact W.zret (v := 0) hx hb hr (by decide +kernel) (fun t ht hW => ⟨⟨0, (L_2, f_2), rfl, ⟨hO_2, hA_2.mono (by decide +kernel), (Or.inl ⟨rfl, trivial⟩), hQ⟩, by rw [ht]; exact hP, va_K.moved hW.alike hK, by rw [hAe]; exact hD⟩, by rw [hAe]; exact hS.F ht⟩) (by rw [hAe]; exact hS.2.2) d_Tp_readLine_87
        · have hQ := hQ.2 rfl
          refine lv_if_ne (tgt := 88) hx hb d_Tp_readLine_83 (by decide) (fun _ => ?_) (fun h => absurd h (by decide +kernel))
          refine lv_iconst (v := 0) hx hb d_Tp_readLine_88 (by decide +kernel) ?_
          refine lv_istore (lv' := [(6, .int 0), (5, .int x_22), (4, .int 1), (3, .int 1), (2, .int 1), (0, .ref q0), (1, .ref pq_0)]) hx hb d_Tp_readLine_89 hl (by decide) rfl (fun ls hl => ?_)
          refine lv_iload_n hx hb d_Tp_readLine_91 rfl (lv_at hl 3 rfl) ?_
          refine lv_if_eq (tgt := 121) hx hb d_Tp_readLine_92 (by decide) (fun h => absurd h (by decide +kernel)) (fun _ => ?_)
          refine lv_aload_n hx hb d_Tp_readLine_95 rfl (lv_at hl 5 rfl) ?_
          refine va_ldcS hx hb hown (show vk_R R_Tp 55 "to" (adK 9) s from hW0.2.1 9 (by decide)) d_Tp_readLine_96 ?_
          have hFc := hb_free hD hS hA
          refine va_calli (va_runV (As := [.ref (adK 9)]) (rest := []) ⟨hx, hb, hml, hown, htb⟩ (c_Tp_stepOverWord_w l dC dI ct L_2 f_2 hO_2 q0 (hA_2.m m0) adK adV 9 (by decide) _ _ hQ) (cwV 1 htb (gd_V tw_301 tw_302 tw_303 tw_177 tw_300) rfl rfl rfl (by decide +kernel) ⟨Nat.le_of_ble_eq_true rfl, Nat.le_of_ble_eq_true rfl⟩) ⟨pcs_blind, tw_recv hK hP (hA_2.m m0) rfl rfl, pcs_pre hP hK hD hN hS hW0 hFc⟩ rfl rfl hl.1 rfl (lv_room (Nat.le_of_ble_eq_true rfl)) d_Tp_readLine_98 ⟨Nat.le_of_ble_eq_true rfl, Nat.le_of_ble_eq_true rfl⟩) hS (fun q _ h => hFc q h) hFc (fun r_24 u t H locs ht hvm er hB hz1 hk1 hS => ?_)
          obtain ⟨L_3, f_3⟩ := u
          obtain ⟨hO_3, hE_3, er, hQ⟩ := er
          obtain ⟨hP, hK1, hD1⟩ := hB
          rw [ht] at hP
          have hP : va_P (dC, dI) vwCl (TW ct L_3 f_3) H := hP
          have hD : va_D A (TW ct L_3 f_3) := hD1.weaken (fun _ q _ h => hFc q.1 h)
          have hO_3 : Ok L_3 f_3 := hO_3
          have hE_3 : Ext W_Tp_stepOverWord_w L_2 f_2 L_3 f_3 := hE_3
          clear hK1 hD1 ht hvm hz1 hk1
          have hA_3 := hA_2.trans hE_3
          have hQ := hQ hO_3 hE_3
          rcases er with ⟨rfl, -⟩ | ⟨rfl, -⟩
          · have hQ := hQ.1 rfl
            refine lv_if_ne (tgt := 106) hx hb d_Tp_readLine_101 (by decide) (fun h => absurd (by decide +kernel) h) (fun _ => ?_)
            refine lv_iconst (v := 0) hx hb d_Tp_readLine_104 (by decide +kernel) ?_
            refine W.widen (k := 0) (n := 0) (Nat.le_of_ble_eq_true rfl) (Nat.le_of_ble_eq_true rfl) ?_
            exact W.zret (v := 0) hx hb hr (by decide +kernel) (fun t ht hW => ⟨⟨0, (L_3, f_3), rfl, ⟨hO_3, hA_3.mono (by decide +kernel), (Or.inl ⟨rfl, trivial⟩), hQ⟩, by rw [ht]; exact hP, va_K.moved hW.alike hK, by rw [hAe]; exact hD⟩, by rw [hAe]; exact hS.F ht⟩) (by rw [hAe]; exact hS.2.2) d_Tp_readLine_105
          · have hQ := hQ.2 rfl
            refine lv_if_ne (tgt := 106) hx hb d_Tp_readLine_101 (by decide) (fun _ => ?_) (fun h => absurd h (by decide +kernel))
            refine lv_aload_n hx hb d_Tp_readLine_106 rfl (lv_at hl 5 rfl) ?_
            refine tw_geti (D := (dC, dI)) (C := R_Tp) (T := F_Tp) (N := 6) (ci := 4) (kd := 10) (ct := ct) hx hb htb i_Tp hown hK hP hO_3 (hA_3.m m0) rfl rfl 5 (by decide) (htb (.fieldLink R_Tp 48 "WaterMen$Tape" "value" "I") tw_256) (fun _ h9 => h9) rfl d_Tp_readLine_107 (fun x_25 e_25 b_25 => ?_)
            have hQ := hQ x_25 e_25
            refine lv_istore (lv' := [(6, .int x_25), (5, .int x_22), (4, .int 1), (3, .int 1), (2, .int 1), (0, .ref q0), (1, .ref pq_0)]) hx hb d_Tp_readLine_110 hl (by decide) rfl (fun ls hl => ?_)
            refine lv_aload_n hx hb d_Tp_readLine_112 rfl (lv_at hl 5 rfl) ?_
            have hFc := hb_free hD hS hA
            refine va_calli (va_runV (As := []) (rest := []) ⟨hx, hb, hml, hown, htb⟩ (c_Tp_stepOverNumber_w l dC dI ct L_3 f_3 hO_3 q0 (hA_3.m m0) _ _ hQ) (cwV 0 htb (gd_V tw_297 tw_298 tw_299 tw_177 tw_296) rfl rfl rfl (by decide +kernel) ⟨Nat.le_of_ble_eq_true rfl, Nat.le_of_ble_eq_true rfl⟩) ⟨pc_blind, tw_recv hK hP (hA_3.m m0) rfl rfl, pc_pre hP hK hD hN⟩ rfl rfl hl.1 rfl (lv_room (Nat.le_of_ble_eq_true rfl)) d_Tp_readLine_113 ⟨Nat.le_of_ble_eq_true rfl, Nat.le_of_ble_eq_true rfl⟩) hS (fun q _ h => hFc q h) hFc (fun r_26 u t H locs ht hvm er hB hz1 hk1 hS => ?_)
            obtain ⟨L_4, f_4⟩ := u
            obtain ⟨hO_4, hE_4, er, hQ⟩ := er
            obtain ⟨hP, hK1, hD1⟩ := hB
            rw [ht] at hP
            have hP : va_P (dC, dI) vwCl (TW ct L_4 f_4) H := hP
            have hD : va_D A (TW ct L_4 f_4) := hD1.weaken (fun _ q _ h => hFc q.1 h)
            have hO_4 : Ok L_4 f_4 := hO_4
            have hE_4 : Ext W_Tp_stepOverNumber_w L_3 f_3 L_4 f_4 := hE_4
            clear hK1 hD1 ht hvm hz1 hk1
            have hA_4 := hA_3.trans hE_4
            have hQ := hQ hO_4 hE_4
            rcases er with ⟨rfl, -⟩ | ⟨rfl, -⟩
            · have hQ := hQ.1 rfl
              refine lv_if_ne (tgt := 121) hx hb d_Tp_readLine_116 (by decide) (fun h => absurd (by decide +kernel) h) (fun _ => ?_)
              refine lv_iconst (v := 0) hx hb d_Tp_readLine_119 (by decide +kernel) ?_
              refine W.widen (k := 0) (n := 0) (Nat.le_of_ble_eq_true rfl) (Nat.le_of_ble_eq_true rfl) ?_
              exact W.zret (v := 0) hx hb hr (by decide +kernel) (fun t ht hW => ⟨⟨0, (L_4, f_4), rfl, ⟨hO_4, hA_4.mono (by decide +kernel), (Or.inl ⟨rfl, trivial⟩), hQ⟩, by rw [ht]; exact hP, va_K.moved hW.alike hK, by rw [hAe]; exact hD⟩, by rw [hAe]; exact hS.F ht⟩) (by rw [hAe]; exact hS.2.2) d_Tp_readLine_120
            · have hQ := hQ.2 rfl
              refine lv_if_ne (tgt := 121) hx hb d_Tp_readLine_116 (by decide) (fun _ => ?_) (fun h => absurd h (by decide +kernel))
              refine lv_iconst (v := 0) hx hb d_Tp_readLine_121 (by decide +kernel) ?_
              refine lv_istore (lv' := [(7, .int 0), (6, .int x_25), (5, .int x_22), (4, .int 1), (3, .int 1), (2, .int 1), (0, .ref q0), (1, .ref pq_0)]) hx hb d_Tp_readLine_122 hl (by decide) rfl (fun ls hl => ?_)
              refine lv_iload hx hb d_Tp_readLine_124 (lv_at hl 3 rfl) ?_
              refine lv_if_eq (tgt := 155) hx hb d_Tp_readLine_126 (by decide) (fun h => absurd h (by decide +kernel)) (fun _ => ?_)
              refine lv_aload_n hx hb d_Tp_readLine_129 rfl (lv_at hl 6 rfl) ?_
              refine va_ldcS hx hb hown (show vk_R R_Tp 61 "is" (adK 10) s from hW0.2.1 10 (by decide)) d_Tp_readLine_130 ?_
              have hFc := hb_free hD hS hA
              refine va_calli (va_runV (As := [.ref (adK 10)]) (rest := []) ⟨hx, hb, hml, hown, htb⟩ (c_Tp_stepOverWord_w l dC dI ct L_4 f_4 hO_4 q0 (hA_4.m m0) adK adV 10 (by decide) _ _ hQ) (cwV 1 htb (gd_V tw_301 tw_302 tw_303 tw_177 tw_300) rfl rfl rfl (by decide +kernel) ⟨Nat.le_of_ble_eq_true rfl, Nat.le_of_ble_eq_true rfl⟩) ⟨pcs_blind, tw_recv hK hP (hA_4.m m0) rfl rfl, pcs_pre hP hK hD hN hS hW0 hFc⟩ rfl rfl hl.1 rfl (lv_room (Nat.le_of_ble_eq_true rfl)) d_Tp_readLine_132 ⟨Nat.le_of_ble_eq_true rfl, Nat.le_of_ble_eq_true rfl⟩) hS (fun q _ h => hFc q h) hFc (fun r_27 u t H locs ht hvm er hB hz1 hk1 hS => ?_)
              obtain ⟨L_5, f_5⟩ := u
              obtain ⟨hO_5, hE_5, er, hQ⟩ := er
              obtain ⟨hP, hK1, hD1⟩ := hB
              rw [ht] at hP
              have hP : va_P (dC, dI) vwCl (TW ct L_5 f_5) H := hP
              have hD : va_D A (TW ct L_5 f_5) := hD1.weaken (fun _ q _ h => hFc q.1 h)
              have hO_5 : Ok L_5 f_5 := hO_5
              have hE_5 : Ext W_Tp_stepOverWord_w L_4 f_4 L_5 f_5 := hE_5
              clear hK1 hD1 ht hvm hz1 hk1
              have hA_5 := hA_4.trans hE_5
              have hQ := hQ hO_5 hE_5
              rcases er with ⟨rfl, -⟩ | ⟨rfl, -⟩
              · have hQ := hQ.1 rfl
                refine lv_if_ne (tgt := 140) hx hb d_Tp_readLine_135 (by decide) (fun h => absurd (by decide +kernel) h) (fun _ => ?_)
                refine lv_iconst (v := 0) hx hb d_Tp_readLine_138 (by decide +kernel) ?_
                refine W.widen (k := 0) (n := 0) (Nat.le_of_ble_eq_true rfl) (Nat.le_of_ble_eq_true rfl) ?_
                exact W.zret (v := 0) hx hb hr (by decide +kernel) (fun t ht hW => ⟨⟨0, (L_5, f_5), rfl, ⟨hO_5, hA_5.mono (by decide +kernel), (Or.inl ⟨rfl, trivial⟩), hQ⟩, by rw [ht]; exact hP, va_K.moved hW.alike hK, by rw [hAe]; exact hD⟩, by rw [hAe]; exact hS.F ht⟩) (by rw [hAe]; exact hS.2.2) d_Tp_readLine_139
              · have hQ := hQ.2 rfl
                refine lv_if_ne (tgt := 140) hx hb d_Tp_readLine_135 (by decide) (fun _ => ?_) (fun h => absurd h (by decide +kernel))
                refine lv_aload_n hx hb d_Tp_readLine_140 rfl (lv_at hl 6 rfl) ?_
                refine tw_geti (D := (dC, dI)) (C := R_Tp) (T := F_Tp) (N := 6) (ci := 4) (kd := 10) (ct := ct) hx hb htb i_Tp hown hK hP hO_5 (hA_5.m m0) rfl rfl 5 (by decide) (htb (.fieldLink R_Tp 48 "WaterMen$Tape" "value" "I") tw_256) (fun _ h9 => h9) rfl d_Tp_readLine_141 (fun x_28 e_28 b_28 => ?_)
                have hQ := hQ x_28 e_28
                refine lv_istore (lv' := [(7, .int x_28), (6, .int x_25), (5, .int x_22), (4, .int 1), (3, .int 1), (2, .int 1), (0, .ref q0), (1, .ref pq_0)]) hx hb d_Tp_readLine_144 hl (by decide) rfl (fun ls hl => ?_)
                refine lv_aload_n hx hb d_Tp_readLine_146 rfl (lv_at hl 6 rfl) ?_
                have hFc := hb_free hD hS hA
                refine va_calli (va_runV (As := []) (rest := []) ⟨hx, hb, hml, hown, htb⟩ (c_Tp_stepOverNumber_w l dC dI ct L_5 f_5 hO_5 q0 (hA_5.m m0) _ _ hQ) (cwV 0 htb (gd_V tw_297 tw_298 tw_299 tw_177 tw_296) rfl rfl rfl (by decide +kernel) ⟨Nat.le_of_ble_eq_true rfl, Nat.le_of_ble_eq_true rfl⟩) ⟨pc_blind, tw_recv hK hP (hA_5.m m0) rfl rfl, pc_pre hP hK hD hN⟩ rfl rfl hl.1 rfl (lv_room (Nat.le_of_ble_eq_true rfl)) d_Tp_readLine_147 ⟨Nat.le_of_ble_eq_true rfl, Nat.le_of_ble_eq_true rfl⟩) hS (fun q _ h => hFc q h) hFc (fun r_29 u t H locs ht hvm er hB hz1 hk1 hS => ?_)
                obtain ⟨L_6, f_6⟩ := u
                obtain ⟨hO_6, hE_6, er, hQ⟩ := er
                obtain ⟨hP, hK1, hD1⟩ := hB
                rw [ht] at hP
                have hP : va_P (dC, dI) vwCl (TW ct L_6 f_6) H := hP
                have hD : va_D A (TW ct L_6 f_6) := hD1.weaken (fun _ q _ h => hFc q.1 h)
                have hO_6 : Ok L_6 f_6 := hO_6
                have hE_6 : Ext W_Tp_stepOverNumber_w L_5 f_5 L_6 f_6 := hE_6
                clear hK1 hD1 ht hvm hz1 hk1
                have hA_6 := hA_5.trans hE_6
                have hQ := hQ hO_6 hE_6
                rcases er with ⟨rfl, -⟩ | ⟨rfl, -⟩
                · have hQ := hQ.1 rfl
                  refine lv_if_ne (tgt := 155) hx hb d_Tp_readLine_150 (by decide) (fun h => absurd (by decide +kernel) h) (fun _ => ?_)
                  refine lv_iconst (v := 0) hx hb d_Tp_readLine_153 (by decide +kernel) ?_
                  refine W.widen (k := 0) (n := 0) (Nat.le_of_ble_eq_true rfl) (Nat.le_of_ble_eq_true rfl) ?_
                  exact W.zret (v := 0) hx hb hr (by decide +kernel) (fun t ht hW => ⟨⟨0, (L_6, f_6), rfl, ⟨hO_6, hA_6.mono (by decide +kernel), (Or.inl ⟨rfl, trivial⟩), hQ⟩, by rw [ht]; exact hP, va_K.moved hW.alike hK, by rw [hAe]; exact hD⟩, by rw [hAe]; exact hS.F ht⟩) (by rw [hAe]; exact hS.2.2) d_Tp_readLine_154
                · have hQ := hQ.2 rfl
                  refine lv_if_ne (tgt := 155) hx hb d_Tp_readLine_150 (by decide) (fun _ => ?_) (fun h => absurd h (by decide +kernel))
                  refine lv_aload_n hx hb d_Tp_readLine_155 rfl (lv_at hl 6 rfl) ?_
                  refine tw_geti (D := (dC, dI)) (C := R_Tp) (T := F_Tp) (N := 6) (ci := 4) (kd := 10) (ct := ct) hx hb htb i_Tp hown hK hP hO_6 (hA_6.m m0) rfl rfl 2 (by decide) (htb (.fieldLink R_Tp 37 "WaterMen$Tape" "sort" "I") tw_257) (fun _ h9 => h9) rfl d_Tp_readLine_156 (fun x_30 e_30 b_30 => ?_)
                  have hQ := hQ x_30 e_30
                  refine lv_iconst (v := 3) hx hb d_Tp_readLine_159 (by decide +kernel) ?_
                  refine lv_icmp_eq (tgt := 165) hx hb d_Tp_readLine_160 (by decide) (fun c_31 => ?_) (fun c_31 => ?_)
                  · have hQ := hQ.1 c_31
                    refine lv_aload_n hx hb d_Tp_readLine_165 rfl (lv_at hl 7 rfl) ?_
                    refine lv_iload_n hx hb d_Tp_readLine_166 rfl (lv_at hl 5 rfl) ?_
                    refine lv_iload hx hb d_Tp_readLine_167 (lv_at hl 2 rfl) ?_
                    refine lv_iload hx hb d_Tp_readLine_169 (lv_at hl 1 rfl) ?_
                    refine lv_iload hx hb d_Tp_readLine_171 (lv_at hl 0 rfl) ?_
                    have hFc := hb_free hD hS hA
                    refine va_callv (va_runV (As := [.int 1, .int x_22, .int x_25, .int x_28]) (rest := []) ⟨hx, hb, hml, hown, htb⟩ (c_Or_addLine_1_w l dC dI ct L_6 f_6 hO_6 pq_0 (hA_6.m pm_0) _ x_22 x_25 x_28 (by rw [show ti f_6 pq_0 6 = (ti f pq_0 6) from ((hA_6.ei pm_0 rfl).trans rfl)]; first | done | exact po_20) _ hQ) (cwV 4 htb (gd_V tw_309 tw_310 tw_311 tw_250 tw_308) rfl rfl rfl (by decide +kernel) ⟨Nat.le_of_ble_eq_true rfl, Nat.le_of_ble_eq_true rfl⟩) ⟨pc_blind, tw_recv hK hP (hA_6.m pm_0) rfl rfl, pc_pre hP hK hD hN⟩ rfl rfl hl.1 rfl (lv_room (Nat.le_of_ble_eq_true rfl)) d_Tp_readLine_173 ⟨Nat.le_of_ble_eq_true rfl, Nat.le_of_ble_eq_true rfl⟩) hS (fun q _ h => hFc q h) hFc (fun u t H locs ht hvm er hB hz1 hk1 hS => ?_)
                    obtain ⟨L_7, f_7⟩ := u
                    obtain ⟨hO_7, hE_7, er, hQ⟩ := er
                    obtain ⟨hP, hK1, hD1⟩ := hB
                    rw [ht] at hP
                    have hP : va_P (dC, dI) vwCl (TW ct L_7 f_7) H := hP
                    have hD : va_D A (TW ct L_7 f_7) := hD1.weaken (fun _ q _ h => hFc q.1 h)
                    have hO_7 : Ok L_7 f_7 := hO_7
                    have hE_7 : Ext W_Or_addLine_1_w L_6 f_6 L_7 f_7 := hE_7
                    clear hK1 hD1 ht hvm hz1 hk1
                    have hA_7 := hA_6.trans hE_7
                    have hQ := hQ hO_7 hE_7
                    clear er
                    refine lv_aload_n hx hb d_Tp_readLine_176 rfl (lv_at hl 6 rfl) ?_
                    have hFc := hb_free hD hS hA
                    refine va_callv (va_runV (As := []) (rest := []) ⟨hx, hb, hml, hown, htb⟩ (c_Tp_step_w l dC dI ct L_7 f_7 hO_7 q0 (hA_7.m m0) _ _ hQ) (cwV 0 htb (gd_V tw_273 tw_274 tw_275 tw_177 tw_272) rfl rfl rfl (by decide +kernel) ⟨Nat.le_of_ble_eq_true rfl, Nat.le_of_ble_eq_true rfl⟩) ⟨pc_blind, tw_recv hK hP (hA_7.m m0) rfl rfl, pc_pre hP hK hD hN⟩ rfl rfl hl.1 rfl (lv_room (Nat.le_of_ble_eq_true rfl)) d_Tp_readLine_177 ⟨Nat.le_of_ble_eq_true rfl, Nat.le_of_ble_eq_true rfl⟩) hS (fun q _ h => hFc q h) hFc (fun u t H locs ht hvm er hB hz1 hk1 hS => ?_)
                    obtain ⟨L_8, f_8⟩ := u
                    obtain ⟨hO_8, hE_8, er, hQ⟩ := er
                    obtain ⟨hP, hK1, hD1⟩ := hB
                    rw [ht] at hP
                    have hP : va_P (dC, dI) vwCl (TW ct L_8 f_8) H := hP
                    have hD : va_D A (TW ct L_8 f_8) := hD1.weaken (fun _ q _ h => hFc q.1 h)
                    have hO_8 : Ok L_8 f_8 := hO_8
                    have hE_8 : Ext W_Tp_step_w L_7 f_7 L_8 f_8 := hE_8
                    clear hK1 hD1 ht hvm hz1 hk1
                    have hA_8 := hA_7.trans hE_8
                    have hQ := hQ hO_8 hE_8
                    clear er
                    refine lv_iconst (v := 1) hx hb d_Tp_readLine_180 (by decide +kernel) ?_
                    refine W.widen (k := 0) (n := 0) (Nat.le_of_ble_eq_true rfl) (Nat.le_of_ble_eq_true rfl) ?_
                    exact W.zret (v := 1) hx hb hr (by decide +kernel) (fun t ht hW => ⟨⟨1, (L_8, f_8), rfl, ⟨hO_8, hA_8.mono (by decide +kernel), (Or.inr ⟨rfl, trivial⟩), hQ⟩, by rw [ht]; exact hP, va_K.moved hW.alike hK, by rw [hAe]; exact hD⟩, by rw [hAe]; exact hS.F ht⟩) (by rw [hAe]; exact hS.2.2) d_Tp_readLine_181
                  · have hQ := hQ.2 c_31
                    refine lv_iconst (v := 0) hx hb d_Tp_readLine_163 (by decide +kernel) ?_
                    refine W.widen (k := 0) (n := 0) (Nat.le_of_ble_eq_true rfl) (Nat.le_of_ble_eq_true rfl) ?_
                    exact W.zret (v := 0) hx hb hr (by decide +kernel) (fun t ht hW => ⟨⟨0, (L_6, f_6), rfl, ⟨hO_6, hA_6.mono (by decide +kernel), (Or.inl ⟨rfl, trivial⟩), hQ⟩, by rw [ht]; exact hP, va_K.moved hW.alike hK, by rw [hAe]; exact hD⟩, by rw [hAe]; exact hS.F ht⟩) (by rw [hAe]; exact hS.2.2) d_Tp_readLine_164
    · have hQ := hQ.2.2.2.1 rfl
      refine lv_goto (tgt := 16) hx hb d_Tp_readLine_12 (by decide) ?_
      refine lv_istore_n (lv' := [(2, .int 2), (0, .ref q0), (1, .ref pq_0)]) hx hb d_Tp_readLine_16 rfl hl (by decide) rfl (fun ls hl => ?_)
      refine lv_iload_n hx hb d_Tp_readLine_17 rfl (lv_at hl 0 rfl) ?_
      refine lv_iconst (v := (-1)) hx hb d_Tp_readLine_18 (by decide +kernel) ?_
      refine lv_icmp_eq (tgt := 30) hx hb d_Tp_readLine_19 (by decide) (fun h => absurd h (by decide +kernel)) (fun _ => ?_)
      refine lv_aload_n hx hb d_Tp_readLine_22 rfl (lv_at hl 2 rfl) ?_
      refine lv_iload_n hx hb d_Tp_readLine_23 rfl (lv_at hl 0 rfl) ?_
      refine vp_callSi (va_Run.run (va_runV (As := [.int 2]) (rest := []) ⟨hx, hb, hml, hown, htb⟩ (c_Or_takesLine_2_w l dC dI ct L f hO_0 pq_0 pm_0 _ hQ) (cwV 1 htb (gd_V tw_293 tw_294 tw_295 tw_250 tw_292) rfl rfl rfl (by decide +kernel) ⟨Nat.le_of_ble_eq_true rfl, Nat.le_of_ble_eq_true rfl⟩) ⟨pr_blind, tw_recv hK hP pm_0 rfl rfl, pr_pre hP hK hN⟩ rfl rfl hl.1 rfl (lv_room (Nat.le_of_ble_eq_true rfl)) d_Tp_readLine_24 ⟨Nat.le_of_ble_eq_true rfl, Nat.le_of_ble_eq_true rfl⟩)) (fun r_34 er_34 => ?_)
      obtain ⟨er_34, hQ⟩ := er_34
      rcases er_34 with ⟨rfl, -⟩ | ⟨rfl, -⟩
      · have hQ := hQ.1 rfl
        refine lv_if_ne (tgt := 32) hx hb d_Tp_readLine_27 (by decide) (fun h => absurd (by decide +kernel) h) (fun _ => ?_)
        refine lv_iconst (v := 0) hx hb d_Tp_readLine_30 (by decide +kernel) ?_
        refine W.widen (k := 0) (n := 0) (Nat.le_of_ble_eq_true rfl) (Nat.le_of_ble_eq_true rfl) ?_
        exact W.zret (v := 0) hx hb hr (by decide +kernel) (fun t ht hW => ⟨⟨0, (L, f), rfl, ⟨hO_0, hA_0.mono (by decide +kernel), (Or.inl ⟨rfl, trivial⟩), hQ⟩, by rw [ht]; exact hP, va_K.moved hW.alike hK, by rw [hAe]; exact hD⟩, by rw [hAe]; exact hS.F ht⟩) (by rw [hAe]; exact hS.2.2) d_Tp_readLine_31
      · have hQ := hQ.2 rfl
        refine lv_if_ne (tgt := 32) hx hb d_Tp_readLine_27 (by decide) (fun _ => ?_) (fun h => absurd h (by decide +kernel))
        refine lv_iload_n hx hb d_Tp_readLine_32 rfl (lv_at hl 0 rfl) ?_
        refine lv_if_eq (tgt := 47) hx hb d_Tp_readLine_33 (by decide) (fun h => absurd h (by decide +kernel)) (fun _ => ?_)
        refine lv_iload_n hx hb d_Tp_readLine_36 rfl (lv_at hl 0 rfl) ?_
        refine lv_iconst (v := 1) hx hb d_Tp_readLine_37 (by decide +kernel) ?_
        refine lv_icmp_eq (tgt := 47) hx hb d_Tp_readLine_38 (by decide) (fun h => absurd h (by decide +kernel)) (fun _ => ?_)
        refine lv_iload_n hx hb d_Tp_readLine_41 rfl (lv_at hl 0 rfl) ?_
        refine lv_bipush (v := 6) hx hb d_Tp_readLine_42 (by decide +kernel) ?_
        refine lv_icmp_ne (tgt := 51) hx hb d_Tp_readLine_44 (by decide) (fun _ => ?_) (fun h => absurd h (by decide +kernel))
        refine lv_iconst (v := 0) hx hb d_Tp_readLine_51 (by decide +kernel) ?_
        refine lv_istore_n (lv' := [(3, .int 0), (2, .int 2), (0, .ref q0), (1, .ref pq_0)]) hx hb d_Tp_readLine_52 rfl hl (by decide) rfl (fun ls hl => ?_)
        refine lv_iload_n hx hb d_Tp_readLine_53 rfl (lv_at hl 1 rfl) ?_
        refine lv_if_eq (tgt := 62) hx hb d_Tp_readLine_54 (by decide) (fun h => absurd h (by decide +kernel)) (fun _ => ?_)
        refine lv_iload_n hx hb d_Tp_readLine_57 rfl (lv_at hl 1 rfl) ?_
        refine lv_iconst (v := 1) hx hb d_Tp_readLine_58 (by decide +kernel) ?_
        refine lv_icmp_ne (tgt := 66) hx hb d_Tp_readLine_59 (by decide) (fun _ => ?_) (fun h => absurd h (by decide +kernel))
        refine lv_iconst (v := 0) hx hb d_Tp_readLine_66 (by decide +kernel) ?_
        refine lv_istore (lv' := [(4, .int 0), (3, .int 0), (2, .int 2), (0, .ref q0), (1, .ref pq_0)]) hx hb d_Tp_readLine_67 hl (by decide) rfl (fun ls hl => ?_)
        refine lv_aload_n hx hb d_Tp_readLine_69 rfl (lv_at hl 3 rfl) ?_
        have hFc := hb_free hD hS hA
        refine va_callv (va_runV (As := []) (rest := []) ⟨hx, hb, hml, hown, htb⟩ (c_Tp_step_w l dC dI ct L f hO_0 q0 m0 _ _ hQ) (cwV 0 htb (gd_V tw_273 tw_274 tw_275 tw_177 tw_272) rfl rfl rfl (by decide +kernel) ⟨Nat.le_of_ble_eq_true rfl, Nat.le_of_ble_eq_true rfl⟩) ⟨pc_blind, tw_recv hK hP m0 rfl rfl, pc_pre hP hK hD hN⟩ rfl rfl hl.1 rfl (lv_room (Nat.le_of_ble_eq_true rfl)) d_Tp_readLine_70 ⟨Nat.le_of_ble_eq_true rfl, Nat.le_of_ble_eq_true rfl⟩) hS (fun q _ h => hFc q h) hFc (fun u t H locs ht hvm er hB hz1 hk1 hS => ?_)
        obtain ⟨L_1, f_1⟩ := u
        obtain ⟨hO_1, hE_1, er, hQ⟩ := er
        obtain ⟨hP, hK1, hD1⟩ := hB
        rw [ht] at hP
        have hP : va_P (dC, dI) vwCl (TW ct L_1 f_1) H := hP
        have hD : va_D A (TW ct L_1 f_1) := hD1.weaken (fun _ q _ h => hFc q.1 h)
        have hO_1 : Ok L_1 f_1 := hO_1
        have hE_1 : Ext W_Tp_step_w L f L_1 f_1 := hE_1
        clear hK1 hD1 ht hvm hz1 hk1
        have hA_1 := hA_0.trans hE_1
        have hQ := hQ hO_1 hE_1
        clear er
        refine lv_aload_n hx hb d_Tp_readLine_73 rfl (lv_at hl 3 rfl) ?_
        refine tw_geti (D := (dC, dI)) (C := R_Tp) (T := F_Tp) (N := 6) (ci := 4) (kd := 10) (ct := ct) hx hb htb i_Tp hown hK hP hO_1 (hA_1.m m0) rfl rfl 5 (by decide) (htb (.fieldLink R_Tp 48 "WaterMen$Tape" "value" "I") tw_256) (fun _ h9 => h9) rfl d_Tp_readLine_74 (fun x_36 e_36 b_36 => ?_)
        have hQ := hQ x_36 e_36
        refine lv_istore (lv' := [(5, .int x_36), (4, .int 0), (3, .int 0), (2, .int 2), (0, .ref q0), (1, .ref pq_0)]) hx hb d_Tp_readLine_77 hl (by decide) rfl (fun ls hl => ?_)
        refine lv_aload_n hx hb d_Tp_readLine_79 rfl (lv_at hl 4 rfl) ?_
        have hFc := hb_free hD hS hA
        refine va_calli (va_runV (As := []) (rest := []) ⟨hx, hb, hml, hown, htb⟩ (c_Tp_stepOverNumber_w l dC dI ct L_1 f_1 hO_1 q0 (hA_1.m m0) _ _ hQ) (cwV 0 htb (gd_V tw_297 tw_298 tw_299 tw_177 tw_296) rfl rfl rfl (by decide +kernel) ⟨Nat.le_of_ble_eq_true rfl, Nat.le_of_ble_eq_true rfl⟩) ⟨pc_blind, tw_recv hK hP (hA_1.m m0) rfl rfl, pc_pre hP hK hD hN⟩ rfl rfl hl.1 rfl (lv_room (Nat.le_of_ble_eq_true rfl)) d_Tp_readLine_80 ⟨Nat.le_of_ble_eq_true rfl, Nat.le_of_ble_eq_true rfl⟩) hS (fun q _ h => hFc q h) hFc (fun r_37 u t H locs ht hvm er hB hz1 hk1 hS => ?_)
        obtain ⟨L_2, f_2⟩ := u
        obtain ⟨hO_2, hE_2, er, hQ⟩ := er
        obtain ⟨hP, hK1, hD1⟩ := hB
        rw [ht] at hP
        have hP : va_P (dC, dI) vwCl (TW ct L_2 f_2) H := hP
        have hD : va_D A (TW ct L_2 f_2) := hD1.weaken (fun _ q _ h => hFc q.1 h)
        have hO_2 : Ok L_2 f_2 := hO_2
        have hE_2 : Ext W_Tp_stepOverNumber_w L_1 f_1 L_2 f_2 := hE_2
        clear hK1 hD1 ht hvm hz1 hk1
        have hA_2 := hA_1.trans hE_2
        have hQ := hQ hO_2 hE_2
        rcases er with ⟨rfl, -⟩ | ⟨rfl, -⟩
        · have hQ := hQ.1 rfl
          refine lv_if_ne (tgt := 88) hx hb d_Tp_readLine_83 (by decide) (fun h => absurd (by decide +kernel) h) (fun _ => ?_)
          refine lv_iconst (v := 0) hx hb d_Tp_readLine_86 (by decide +kernel) ?_
          refine W.widen (k := 0) (n := 0) (Nat.le_of_ble_eq_true rfl) (Nat.le_of_ble_eq_true rfl) ?_
          exact W.zret (v := 0) hx hb hr (by decide +kernel) (fun t ht hW => ⟨⟨0, (L_2, f_2), rfl, ⟨hO_2, hA_2.mono (by decide +kernel), (Or.inl ⟨rfl, trivial⟩), hQ⟩, by rw [ht]; exact hP, va_K.moved hW.alike hK, by rw [hAe]; exact hD⟩, by rw [hAe]; exact hS.F ht⟩) (by rw [hAe]; exact hS.2.2) d_Tp_readLine_87
        · have hQ := hQ.2 rfl
          refine lv_if_ne (tgt := 88) hx hb d_Tp_readLine_83 (by decide) (fun _ => ?_) (fun h => absurd h (by decide +kernel))
          refine lv_iconst (v := 0) hx hb d_Tp_readLine_88 (by decide +kernel) ?_
          refine lv_istore (lv' := [(6, .int 0), (5, .int x_36), (4, .int 0), (3, .int 0), (2, .int 2), (0, .ref q0), (1, .ref pq_0)]) hx hb d_Tp_readLine_89 hl (by decide) rfl (fun ls hl => ?_)
          refine lv_iload_n hx hb d_Tp_readLine_91 rfl (lv_at hl 3 rfl) ?_
          refine lv_if_eq (tgt := 121) hx hb d_Tp_readLine_92 (by decide) (fun _ => ?_) (fun h => absurd (by decide +kernel) h)
          refine lv_iconst (v := 0) hx hb d_Tp_readLine_121 (by decide +kernel) ?_
          refine lv_istore (lv' := [(7, .int 0), (6, .int 0), (5, .int x_36), (4, .int 0), (3, .int 0), (2, .int 2), (0, .ref q0), (1, .ref pq_0)]) hx hb d_Tp_readLine_122 hl (by decide) rfl (fun ls hl => ?_)
          refine lv_iload hx hb d_Tp_readLine_124 (lv_at hl 3 rfl) ?_
          refine lv_if_eq (tgt := 155) hx hb d_Tp_readLine_126 (by decide) (fun _ => ?_) (fun h => absurd (by decide +kernel) h)
          refine lv_aload_n hx hb d_Tp_readLine_155 rfl (lv_at hl 6 rfl) ?_
          refine tw_geti (D := (dC, dI)) (C := R_Tp) (T := F_Tp) (N := 6) (ci := 4) (kd := 10) (ct := ct) hx hb htb i_Tp hown hK hP hO_2 (hA_2.m m0) rfl rfl 2 (by decide) (htb (.fieldLink R_Tp 37 "WaterMen$Tape" "sort" "I") tw_257) (fun _ h9 => h9) rfl d_Tp_readLine_156 (fun x_38 e_38 b_38 => ?_)
          have hQ := hQ x_38 e_38
          refine lv_iconst (v := 3) hx hb d_Tp_readLine_159 (by decide +kernel) ?_
          refine lv_icmp_eq (tgt := 165) hx hb d_Tp_readLine_160 (by decide) (fun c_39 => ?_) (fun c_39 => ?_)
          · have hQ := hQ.1 c_39
            refine lv_aload_n hx hb d_Tp_readLine_165 rfl (lv_at hl 7 rfl) ?_
            refine lv_iload_n hx hb d_Tp_readLine_166 rfl (lv_at hl 5 rfl) ?_
            refine lv_iload hx hb d_Tp_readLine_167 (lv_at hl 2 rfl) ?_
            refine lv_iload hx hb d_Tp_readLine_169 (lv_at hl 1 rfl) ?_
            refine lv_iload hx hb d_Tp_readLine_171 (lv_at hl 0 rfl) ?_
            have hFc := hb_free hD hS hA
            refine va_callv (va_runV (As := [.int 2, .int x_36, .int 0, .int 0]) (rest := []) ⟨hx, hb, hml, hown, htb⟩ (c_Or_addLine_2_w l dC dI ct L_2 f_2 hO_2 pq_0 (hA_2.m pm_0) _ x_36 (0 : Int32) (0 : Int32) _ hQ) (cwV 4 htb (gd_V tw_309 tw_310 tw_311 tw_250 tw_308) rfl rfl rfl (by decide +kernel) ⟨Nat.le_of_ble_eq_true rfl, Nat.le_of_ble_eq_true rfl⟩) ⟨pc_blind, tw_recv hK hP (hA_2.m pm_0) rfl rfl, pc_pre hP hK hD hN⟩ rfl rfl hl.1 rfl (lv_room (Nat.le_of_ble_eq_true rfl)) d_Tp_readLine_173 ⟨Nat.le_of_ble_eq_true rfl, Nat.le_of_ble_eq_true rfl⟩) hS (fun q _ h => hFc q h) hFc (fun u t H locs ht hvm er hB hz1 hk1 hS => ?_)
            obtain ⟨L_3, f_3⟩ := u
            obtain ⟨hO_3, hE_3, er, hQ⟩ := er
            obtain ⟨hP, hK1, hD1⟩ := hB
            rw [ht] at hP
            have hP : va_P (dC, dI) vwCl (TW ct L_3 f_3) H := hP
            have hD : va_D A (TW ct L_3 f_3) := hD1.weaken (fun _ q _ h => hFc q.1 h)
            have hO_3 : Ok L_3 f_3 := hO_3
            have hE_3 : Ext W_Or_addLine_2_w L_2 f_2 L_3 f_3 := hE_3
            clear hK1 hD1 ht hvm hz1 hk1
            have hA_3 := hA_2.trans hE_3
            have hQ := hQ hO_3 hE_3
            clear er
            refine lv_aload_n hx hb d_Tp_readLine_176 rfl (lv_at hl 6 rfl) ?_
            have hFc := hb_free hD hS hA
            refine va_callv (va_runV (As := []) (rest := []) ⟨hx, hb, hml, hown, htb⟩ (c_Tp_step_w l dC dI ct L_3 f_3 hO_3 q0 (hA_3.m m0) _ _ hQ) (cwV 0 htb (gd_V tw_273 tw_274 tw_275 tw_177 tw_272) rfl rfl rfl (by decide +kernel) ⟨Nat.le_of_ble_eq_true rfl, Nat.le_of_ble_eq_true rfl⟩) ⟨pc_blind, tw_recv hK hP (hA_3.m m0) rfl rfl, pc_pre hP hK hD hN⟩ rfl rfl hl.1 rfl (lv_room (Nat.le_of_ble_eq_true rfl)) d_Tp_readLine_177 ⟨Nat.le_of_ble_eq_true rfl, Nat.le_of_ble_eq_true rfl⟩) hS (fun q _ h => hFc q h) hFc (fun u t H locs ht hvm er hB hz1 hk1 hS => ?_)
            obtain ⟨L_4, f_4⟩ := u
            obtain ⟨hO_4, hE_4, er, hQ⟩ := er
            obtain ⟨hP, hK1, hD1⟩ := hB
            rw [ht] at hP
            have hP : va_P (dC, dI) vwCl (TW ct L_4 f_4) H := hP
            have hD : va_D A (TW ct L_4 f_4) := hD1.weaken (fun _ q _ h => hFc q.1 h)
            have hO_4 : Ok L_4 f_4 := hO_4
            have hE_4 : Ext W_Tp_step_w L_3 f_3 L_4 f_4 := hE_4
            clear hK1 hD1 ht hvm hz1 hk1
            have hA_4 := hA_3.trans hE_4
            have hQ := hQ hO_4 hE_4
            clear er
            refine lv_iconst (v := 1) hx hb d_Tp_readLine_180 (by decide +kernel) ?_
            refine W.widen (k := 0) (n := 0) (Nat.le_of_ble_eq_true rfl) (Nat.le_of_ble_eq_true rfl) ?_
            exact W.zret (v := 1) hx hb hr (by decide +kernel) (fun t ht hW => ⟨⟨1, (L_4, f_4), rfl, ⟨hO_4, hA_4.mono (by decide +kernel), (Or.inr ⟨rfl, trivial⟩), hQ⟩, by rw [ht]; exact hP, va_K.moved hW.alike hK, by rw [hAe]; exact hD⟩, by rw [hAe]; exact hS.F ht⟩) (by rw [hAe]; exact hS.2.2) d_Tp_readLine_181
          · have hQ := hQ.2 c_39
            refine lv_iconst (v := 0) hx hb d_Tp_readLine_163 (by decide +kernel) ?_
            refine W.widen (k := 0) (n := 0) (Nat.le_of_ble_eq_true rfl) (Nat.le_of_ble_eq_true rfl) ?_
            exact W.zret (v := 0) hx hb hr (by decide +kernel) (fun t ht hW => ⟨⟨0, (L_2, f_2), rfl, ⟨hO_2, hA_2.mono (by decide +kernel), (Or.inl ⟨rfl, trivial⟩), hQ⟩, by rw [ht]; exact hP, va_K.moved hW.alike hK, by rw [hAe]; exact hD⟩, by rw [hAe]; exact hS.F ht⟩) (by rw [hAe]; exact hS.2.2) d_Tp_readLine_164
    · have hQ := hQ.2.2.2.2.1 rfl
      refine lv_goto (tgt := 16) hx hb d_Tp_readLine_12 (by decide) ?_
      refine lv_istore_n (lv' := [(2, .int 3), (0, .ref q0), (1, .ref pq_0)]) hx hb d_Tp_readLine_16 rfl hl (by decide) rfl (fun ls hl => ?_)
      refine lv_iload_n hx hb d_Tp_readLine_17 rfl (lv_at hl 0 rfl) ?_
      refine lv_iconst (v := (-1)) hx hb d_Tp_readLine_18 (by decide +kernel) ?_
      refine lv_icmp_eq (tgt := 30) hx hb d_Tp_readLine_19 (by decide) (fun h => absurd h (by decide +kernel)) (fun _ => ?_)
      refine lv_aload_n hx hb d_Tp_readLine_22 rfl (lv_at hl 2 rfl) ?_
      refine lv_iload_n hx hb d_Tp_readLine_23 rfl (lv_at hl 0 rfl) ?_
      refine vp_callSi (va_Run.run (va_runV (As := [.int 3]) (rest := []) ⟨hx, hb, hml, hown, htb⟩ (c_Or_takesLine_3_w l dC dI ct L f hO_0 pq_0 pm_0 _ hQ) (cwV 1 htb (gd_V tw_293 tw_294 tw_295 tw_250 tw_292) rfl rfl rfl (by decide +kernel) ⟨Nat.le_of_ble_eq_true rfl, Nat.le_of_ble_eq_true rfl⟩) ⟨pr_blind, tw_recv hK hP pm_0 rfl rfl, pr_pre hP hK hN⟩ rfl rfl hl.1 rfl (lv_room (Nat.le_of_ble_eq_true rfl)) d_Tp_readLine_24 ⟨Nat.le_of_ble_eq_true rfl, Nat.le_of_ble_eq_true rfl⟩)) (fun r_42 er_42 => ?_)
      obtain ⟨er_42, hQ⟩ := er_42
      rcases er_42 with ⟨rfl, -⟩ | ⟨rfl, -⟩
      · have hQ := hQ.1 rfl
        refine lv_if_ne (tgt := 32) hx hb d_Tp_readLine_27 (by decide) (fun h => absurd (by decide +kernel) h) (fun _ => ?_)
        refine lv_iconst (v := 0) hx hb d_Tp_readLine_30 (by decide +kernel) ?_
        refine W.widen (k := 0) (n := 0) (Nat.le_of_ble_eq_true rfl) (Nat.le_of_ble_eq_true rfl) ?_
        exact W.zret (v := 0) hx hb hr (by decide +kernel) (fun t ht hW => ⟨⟨0, (L, f), rfl, ⟨hO_0, hA_0.mono (by decide +kernel), (Or.inl ⟨rfl, trivial⟩), hQ⟩, by rw [ht]; exact hP, va_K.moved hW.alike hK, by rw [hAe]; exact hD⟩, by rw [hAe]; exact hS.F ht⟩) (by rw [hAe]; exact hS.2.2) d_Tp_readLine_31
      · have hQ := hQ.2 rfl
        refine lv_if_ne (tgt := 32) hx hb d_Tp_readLine_27 (by decide) (fun _ => ?_) (fun h => absurd h (by decide +kernel))
        refine lv_iload_n hx hb d_Tp_readLine_32 rfl (lv_at hl 0 rfl) ?_
        refine lv_if_eq (tgt := 47) hx hb d_Tp_readLine_33 (by decide) (fun h => absurd h (by decide +kernel)) (fun _ => ?_)
        refine lv_iload_n hx hb d_Tp_readLine_36 rfl (lv_at hl 0 rfl) ?_
        refine lv_iconst (v := 1) hx hb d_Tp_readLine_37 (by decide +kernel) ?_
        refine lv_icmp_eq (tgt := 47) hx hb d_Tp_readLine_38 (by decide) (fun h => absurd h (by decide +kernel)) (fun _ => ?_)
        refine lv_iload_n hx hb d_Tp_readLine_41 rfl (lv_at hl 0 rfl) ?_
        refine lv_bipush (v := 6) hx hb d_Tp_readLine_42 (by decide +kernel) ?_
        refine lv_icmp_ne (tgt := 51) hx hb d_Tp_readLine_44 (by decide) (fun _ => ?_) (fun h => absurd h (by decide +kernel))
        refine lv_iconst (v := 0) hx hb d_Tp_readLine_51 (by decide +kernel) ?_
        refine lv_istore_n (lv' := [(3, .int 0), (2, .int 3), (0, .ref q0), (1, .ref pq_0)]) hx hb d_Tp_readLine_52 rfl hl (by decide) rfl (fun ls hl => ?_)
        refine lv_iload_n hx hb d_Tp_readLine_53 rfl (lv_at hl 1 rfl) ?_
        refine lv_if_eq (tgt := 62) hx hb d_Tp_readLine_54 (by decide) (fun h => absurd h (by decide +kernel)) (fun _ => ?_)
        refine lv_iload_n hx hb d_Tp_readLine_57 rfl (lv_at hl 1 rfl) ?_
        refine lv_iconst (v := 1) hx hb d_Tp_readLine_58 (by decide +kernel) ?_
        refine lv_icmp_ne (tgt := 66) hx hb d_Tp_readLine_59 (by decide) (fun _ => ?_) (fun h => absurd h (by decide +kernel))
        refine lv_iconst (v := 0) hx hb d_Tp_readLine_66 (by decide +kernel) ?_
        refine lv_istore (lv' := [(4, .int 0), (3, .int 0), (2, .int 3), (0, .ref q0), (1, .ref pq_0)]) hx hb d_Tp_readLine_67 hl (by decide) rfl (fun ls hl => ?_)
        refine lv_aload_n hx hb d_Tp_readLine_69 rfl (lv_at hl 3 rfl) ?_
        have hFc := hb_free hD hS hA
        refine va_callv (va_runV (As := []) (rest := []) ⟨hx, hb, hml, hown, htb⟩ (c_Tp_step_w l dC dI ct L f hO_0 q0 m0 _ _ hQ) (cwV 0 htb (gd_V tw_273 tw_274 tw_275 tw_177 tw_272) rfl rfl rfl (by decide +kernel) ⟨Nat.le_of_ble_eq_true rfl, Nat.le_of_ble_eq_true rfl⟩) ⟨pc_blind, tw_recv hK hP m0 rfl rfl, pc_pre hP hK hD hN⟩ rfl rfl hl.1 rfl (lv_room (Nat.le_of_ble_eq_true rfl)) d_Tp_readLine_70 ⟨Nat.le_of_ble_eq_true rfl, Nat.le_of_ble_eq_true rfl⟩) hS (fun q _ h => hFc q h) hFc (fun u t H locs ht hvm er hB hz1 hk1 hS => ?_)
        obtain ⟨L_1, f_1⟩ := u
        obtain ⟨hO_1, hE_1, er, hQ⟩ := er
        obtain ⟨hP, hK1, hD1⟩ := hB
        rw [ht] at hP
        have hP : va_P (dC, dI) vwCl (TW ct L_1 f_1) H := hP
        have hD : va_D A (TW ct L_1 f_1) := hD1.weaken (fun _ q _ h => hFc q.1 h)
        have hO_1 : Ok L_1 f_1 := hO_1
        have hE_1 : Ext W_Tp_step_w L f L_1 f_1 := hE_1
        clear hK1 hD1 ht hvm hz1 hk1
        have hA_1 := hA_0.trans hE_1
        have hQ := hQ hO_1 hE_1
        clear er
        refine lv_aload_n hx hb d_Tp_readLine_73 rfl (lv_at hl 3 rfl) ?_
        refine tw_geti (D := (dC, dI)) (C := R_Tp) (T := F_Tp) (N := 6) (ci := 4) (kd := 10) (ct := ct) hx hb htb i_Tp hown hK hP hO_1 (hA_1.m m0) rfl rfl 5 (by decide) (htb (.fieldLink R_Tp 48 "WaterMen$Tape" "value" "I") tw_256) (fun _ h9 => h9) rfl d_Tp_readLine_74 (fun x_44 e_44 b_44 => ?_)
        have hQ := hQ x_44 e_44
        refine lv_istore (lv' := [(5, .int x_44), (4, .int 0), (3, .int 0), (2, .int 3), (0, .ref q0), (1, .ref pq_0)]) hx hb d_Tp_readLine_77 hl (by decide) rfl (fun ls hl => ?_)
        refine lv_aload_n hx hb d_Tp_readLine_79 rfl (lv_at hl 4 rfl) ?_
        have hFc := hb_free hD hS hA
        refine va_calli (va_runV (As := []) (rest := []) ⟨hx, hb, hml, hown, htb⟩ (c_Tp_stepOverNumber_w l dC dI ct L_1 f_1 hO_1 q0 (hA_1.m m0) _ _ hQ) (cwV 0 htb (gd_V tw_297 tw_298 tw_299 tw_177 tw_296) rfl rfl rfl (by decide +kernel) ⟨Nat.le_of_ble_eq_true rfl, Nat.le_of_ble_eq_true rfl⟩) ⟨pc_blind, tw_recv hK hP (hA_1.m m0) rfl rfl, pc_pre hP hK hD hN⟩ rfl rfl hl.1 rfl (lv_room (Nat.le_of_ble_eq_true rfl)) d_Tp_readLine_80 ⟨Nat.le_of_ble_eq_true rfl, Nat.le_of_ble_eq_true rfl⟩) hS (fun q _ h => hFc q h) hFc (fun r_45 u t H locs ht hvm er hB hz1 hk1 hS => ?_)
        obtain ⟨L_2, f_2⟩ := u
        obtain ⟨hO_2, hE_2, er, hQ⟩ := er
        obtain ⟨hP, hK1, hD1⟩ := hB
        rw [ht] at hP
        have hP : va_P (dC, dI) vwCl (TW ct L_2 f_2) H := hP
        have hD : va_D A (TW ct L_2 f_2) := hD1.weaken (fun _ q _ h => hFc q.1 h)
        have hO_2 : Ok L_2 f_2 := hO_2
        have hE_2 : Ext W_Tp_stepOverNumber_w L_1 f_1 L_2 f_2 := hE_2
        clear hK1 hD1 ht hvm hz1 hk1
        have hA_2 := hA_1.trans hE_2
        have hQ := hQ hO_2 hE_2
        rcases er with ⟨rfl, -⟩ | ⟨rfl, -⟩
        · have hQ := hQ.1 rfl
          refine lv_if_ne (tgt := 88) hx hb d_Tp_readLine_83 (by decide) (fun h => absurd (by decide +kernel) h) (fun _ => ?_)
          refine lv_iconst (v := 0) hx hb d_Tp_readLine_86 (by decide +kernel) ?_
          refine W.widen (k := 0) (n := 0) (Nat.le_of_ble_eq_true rfl) (Nat.le_of_ble_eq_true rfl) ?_
          exact W.zret (v := 0) hx hb hr (by decide +kernel) (fun t ht hW => ⟨⟨0, (L_2, f_2), rfl, ⟨hO_2, hA_2.mono (by decide +kernel), (Or.inl ⟨rfl, trivial⟩), hQ⟩, by rw [ht]; exact hP, va_K.moved hW.alike hK, by rw [hAe]; exact hD⟩, by rw [hAe]; exact hS.F ht⟩) (by rw [hAe]; exact hS.2.2) d_Tp_readLine_87
        · have hQ := hQ.2 rfl
          refine lv_if_ne (tgt := 88) hx hb d_Tp_readLine_83 (by decide) (fun _ => ?_) (fun h => absurd h (by decide +kernel))
          refine lv_iconst (v := 0) hx hb d_Tp_readLine_88 (by decide +kernel) ?_
          refine lv_istore (lv' := [(6, .int 0), (5, .int x_44), (4, .int 0), (3, .int 0), (2, .int 3), (0, .ref q0), (1, .ref pq_0)]) hx hb d_Tp_readLine_89 hl (by decide) rfl (fun ls hl => ?_)
          refine lv_iload_n hx hb d_Tp_readLine_91 rfl (lv_at hl 3 rfl) ?_
          refine lv_if_eq (tgt := 121) hx hb d_Tp_readLine_92 (by decide) (fun _ => ?_) (fun h => absurd (by decide +kernel) h)
          refine lv_iconst (v := 0) hx hb d_Tp_readLine_121 (by decide +kernel) ?_
          refine lv_istore (lv' := [(7, .int 0), (6, .int 0), (5, .int x_44), (4, .int 0), (3, .int 0), (2, .int 3), (0, .ref q0), (1, .ref pq_0)]) hx hb d_Tp_readLine_122 hl (by decide) rfl (fun ls hl => ?_)
          refine lv_iload hx hb d_Tp_readLine_124 (lv_at hl 3 rfl) ?_
          refine lv_if_eq (tgt := 155) hx hb d_Tp_readLine_126 (by decide) (fun _ => ?_) (fun h => absurd (by decide +kernel) h)
          refine lv_aload_n hx hb d_Tp_readLine_155 rfl (lv_at hl 6 rfl) ?_
          refine tw_geti (D := (dC, dI)) (C := R_Tp) (T := F_Tp) (N := 6) (ci := 4) (kd := 10) (ct := ct) hx hb htb i_Tp hown hK hP hO_2 (hA_2.m m0) rfl rfl 2 (by decide) (htb (.fieldLink R_Tp 37 "WaterMen$Tape" "sort" "I") tw_257) (fun _ h9 => h9) rfl d_Tp_readLine_156 (fun x_46 e_46 b_46 => ?_)
          have hQ := hQ x_46 e_46
          refine lv_iconst (v := 3) hx hb d_Tp_readLine_159 (by decide +kernel) ?_
          refine lv_icmp_eq (tgt := 165) hx hb d_Tp_readLine_160 (by decide) (fun c_47 => ?_) (fun c_47 => ?_)
          · have hQ := hQ.1 c_47
            refine lv_aload_n hx hb d_Tp_readLine_165 rfl (lv_at hl 7 rfl) ?_
            refine lv_iload_n hx hb d_Tp_readLine_166 rfl (lv_at hl 5 rfl) ?_
            refine lv_iload hx hb d_Tp_readLine_167 (lv_at hl 2 rfl) ?_
            refine lv_iload hx hb d_Tp_readLine_169 (lv_at hl 1 rfl) ?_
            refine lv_iload hx hb d_Tp_readLine_171 (lv_at hl 0 rfl) ?_
            have hFc := hb_free hD hS hA
            refine va_callv (va_runV (As := [.int 3, .int x_44, .int 0, .int 0]) (rest := []) ⟨hx, hb, hml, hown, htb⟩ (c_Or_addLine_3_w l dC dI ct L_2 f_2 hO_2 pq_0 (hA_2.m pm_0) _ x_44 (0 : Int32) (0 : Int32) _ hQ) (cwV 4 htb (gd_V tw_309 tw_310 tw_311 tw_250 tw_308) rfl rfl rfl (by decide +kernel) ⟨Nat.le_of_ble_eq_true rfl, Nat.le_of_ble_eq_true rfl⟩) ⟨pc_blind, tw_recv hK hP (hA_2.m pm_0) rfl rfl, pc_pre hP hK hD hN⟩ rfl rfl hl.1 rfl (lv_room (Nat.le_of_ble_eq_true rfl)) d_Tp_readLine_173 ⟨Nat.le_of_ble_eq_true rfl, Nat.le_of_ble_eq_true rfl⟩) hS (fun q _ h => hFc q h) hFc (fun u t H locs ht hvm er hB hz1 hk1 hS => ?_)
            obtain ⟨L_3, f_3⟩ := u
            obtain ⟨hO_3, hE_3, er, hQ⟩ := er
            obtain ⟨hP, hK1, hD1⟩ := hB
            rw [ht] at hP
            have hP : va_P (dC, dI) vwCl (TW ct L_3 f_3) H := hP
            have hD : va_D A (TW ct L_3 f_3) := hD1.weaken (fun _ q _ h => hFc q.1 h)
            have hO_3 : Ok L_3 f_3 := hO_3
            have hE_3 : Ext W_Or_addLine_3_w L_2 f_2 L_3 f_3 := hE_3
            clear hK1 hD1 ht hvm hz1 hk1
            have hA_3 := hA_2.trans hE_3
            have hQ := hQ hO_3 hE_3
            clear er
            refine lv_aload_n hx hb d_Tp_readLine_176 rfl (lv_at hl 6 rfl) ?_
            have hFc := hb_free hD hS hA
            refine va_callv (va_runV (As := []) (rest := []) ⟨hx, hb, hml, hown, htb⟩ (c_Tp_step_w l dC dI ct L_3 f_3 hO_3 q0 (hA_3.m m0) _ _ hQ) (cwV 0 htb (gd_V tw_273 tw_274 tw_275 tw_177 tw_272) rfl rfl rfl (by decide +kernel) ⟨Nat.le_of_ble_eq_true rfl, Nat.le_of_ble_eq_true rfl⟩) ⟨pc_blind, tw_recv hK hP (hA_3.m m0) rfl rfl, pc_pre hP hK hD hN⟩ rfl rfl hl.1 rfl (lv_room (Nat.le_of_ble_eq_true rfl)) d_Tp_readLine_177 ⟨Nat.le_of_ble_eq_true rfl, Nat.le_of_ble_eq_true rfl⟩) hS (fun q _ h => hFc q h) hFc (fun u t H locs ht hvm er hB hz1 hk1 hS => ?_)
            obtain ⟨L_4, f_4⟩ := u
            obtain ⟨hO_4, hE_4, er, hQ⟩ := er
            obtain ⟨hP, hK1, hD1⟩ := hB
            rw [ht] at hP
            have hP : va_P (dC, dI) vwCl (TW ct L_4 f_4) H := hP
            have hD : va_D A (TW ct L_4 f_4) := hD1.weaken (fun _ q _ h => hFc q.1 h)
            have hO_4 : Ok L_4 f_4 := hO_4
            have hE_4 : Ext W_Tp_step_w L_3 f_3 L_4 f_4 := hE_4
            clear hK1 hD1 ht hvm hz1 hk1
            have hA_4 := hA_3.trans hE_4
            have hQ := hQ hO_4 hE_4
            clear er
            refine lv_iconst (v := 1) hx hb d_Tp_readLine_180 (by decide +kernel) ?_
            refine W.widen (k := 0) (n := 0) (Nat.le_of_ble_eq_true rfl) (Nat.le_of_ble_eq_true rfl) ?_
            exact W.zret (v := 1) hx hb hr (by decide +kernel) (fun t ht hW => ⟨⟨1, (L_4, f_4), rfl, ⟨hO_4, hA_4.mono (by decide +kernel), (Or.inr ⟨rfl, trivial⟩), hQ⟩, by rw [ht]; exact hP, va_K.moved hW.alike hK, by rw [hAe]; exact hD⟩, by rw [hAe]; exact hS.F ht⟩) (by rw [hAe]; exact hS.2.2) d_Tp_readLine_181
          · have hQ := hQ.2 c_47
            refine lv_iconst (v := 0) hx hb d_Tp_readLine_163 (by decide +kernel) ?_
            refine W.widen (k := 0) (n := 0) (Nat.le_of_ble_eq_true rfl) (Nat.le_of_ble_eq_true rfl) ?_
            exact W.zret (v := 0) hx hb hr (by decide +kernel) (fun t ht hW => ⟨⟨0, (L_2, f_2), rfl, ⟨hO_2, hA_2.mono (by decide +kernel), (Or.inl ⟨rfl, trivial⟩), hQ⟩, by rw [ht]; exact hP, va_K.moved hW.alike hK, by rw [hAe]; exact hD⟩, by rw [hAe]; exact hS.F ht⟩) (by rw [hAe]; exact hS.2.2) d_Tp_readLine_164
    · have hQ := hQ.2.2.2.2.2.1 rfl
      refine lv_goto (tgt := 16) hx hb d_Tp_readLine_12 (by decide) ?_
      refine lv_istore_n (lv' := [(2, .int 4), (0, .ref q0), (1, .ref pq_0)]) hx hb d_Tp_readLine_16 rfl hl (by decide) rfl (fun ls hl => ?_)
      refine lv_iload_n hx hb d_Tp_readLine_17 rfl (lv_at hl 0 rfl) ?_
      refine lv_iconst (v := (-1)) hx hb d_Tp_readLine_18 (by decide +kernel) ?_
      refine lv_icmp_eq (tgt := 30) hx hb d_Tp_readLine_19 (by decide) (fun h => absurd h (by decide +kernel)) (fun _ => ?_)
      refine lv_aload_n hx hb d_Tp_readLine_22 rfl (lv_at hl 2 rfl) ?_
      refine lv_iload_n hx hb d_Tp_readLine_23 rfl (lv_at hl 0 rfl) ?_
      refine vp_callSi (va_Run.run (va_runV (As := [.int 4]) (rest := []) ⟨hx, hb, hml, hown, htb⟩ (c_Or_takesLine_4_w l dC dI ct L f hO_0 pq_0 pm_0 _ hQ) (cwV 1 htb (gd_V tw_293 tw_294 tw_295 tw_250 tw_292) rfl rfl rfl (by decide +kernel) ⟨Nat.le_of_ble_eq_true rfl, Nat.le_of_ble_eq_true rfl⟩) ⟨pr_blind, tw_recv hK hP pm_0 rfl rfl, pr_pre hP hK hN⟩ rfl rfl hl.1 rfl (lv_room (Nat.le_of_ble_eq_true rfl)) d_Tp_readLine_24 ⟨Nat.le_of_ble_eq_true rfl, Nat.le_of_ble_eq_true rfl⟩)) (fun r_50 er_50 => ?_)
      obtain ⟨er_50, hQ⟩ := er_50
      rcases er_50 with ⟨rfl, -⟩ | ⟨rfl, -⟩
      · have hQ := hQ.1 rfl
        refine lv_if_ne (tgt := 32) hx hb d_Tp_readLine_27 (by decide) (fun h => absurd (by decide +kernel) h) (fun _ => ?_)
        refine lv_iconst (v := 0) hx hb d_Tp_readLine_30 (by decide +kernel) ?_
        refine W.widen (k := 0) (n := 0) (Nat.le_of_ble_eq_true rfl) (Nat.le_of_ble_eq_true rfl) ?_
        exact W.zret (v := 0) hx hb hr (by decide +kernel) (fun t ht hW => ⟨⟨0, (L, f), rfl, ⟨hO_0, hA_0.mono (by decide +kernel), (Or.inl ⟨rfl, trivial⟩), hQ⟩, by rw [ht]; exact hP, va_K.moved hW.alike hK, by rw [hAe]; exact hD⟩, by rw [hAe]; exact hS.F ht⟩) (by rw [hAe]; exact hS.2.2) d_Tp_readLine_31
      · have hQ := hQ.2 rfl
        refine lv_if_ne (tgt := 32) hx hb d_Tp_readLine_27 (by decide) (fun _ => ?_) (fun h => absurd h (by decide +kernel))
        refine lv_iload_n hx hb d_Tp_readLine_32 rfl (lv_at hl 0 rfl) ?_
        refine lv_if_eq (tgt := 47) hx hb d_Tp_readLine_33 (by decide) (fun h => absurd h (by decide +kernel)) (fun _ => ?_)
        refine lv_iload_n hx hb d_Tp_readLine_36 rfl (lv_at hl 0 rfl) ?_
        refine lv_iconst (v := 1) hx hb d_Tp_readLine_37 (by decide +kernel) ?_
        refine lv_icmp_eq (tgt := 47) hx hb d_Tp_readLine_38 (by decide) (fun h => absurd h (by decide +kernel)) (fun _ => ?_)
        refine lv_iload_n hx hb d_Tp_readLine_41 rfl (lv_at hl 0 rfl) ?_
        refine lv_bipush (v := 6) hx hb d_Tp_readLine_42 (by decide +kernel) ?_
        refine lv_icmp_ne (tgt := 51) hx hb d_Tp_readLine_44 (by decide) (fun _ => ?_) (fun h => absurd h (by decide +kernel))
        refine lv_iconst (v := 0) hx hb d_Tp_readLine_51 (by decide +kernel) ?_
        refine lv_istore_n (lv' := [(3, .int 0), (2, .int 4), (0, .ref q0), (1, .ref pq_0)]) hx hb d_Tp_readLine_52 rfl hl (by decide) rfl (fun ls hl => ?_)
        refine lv_iload_n hx hb d_Tp_readLine_53 rfl (lv_at hl 1 rfl) ?_
        refine lv_if_eq (tgt := 62) hx hb d_Tp_readLine_54 (by decide) (fun h => absurd h (by decide +kernel)) (fun _ => ?_)
        refine lv_iload_n hx hb d_Tp_readLine_57 rfl (lv_at hl 1 rfl) ?_
        refine lv_iconst (v := 1) hx hb d_Tp_readLine_58 (by decide +kernel) ?_
        refine lv_icmp_ne (tgt := 66) hx hb d_Tp_readLine_59 (by decide) (fun _ => ?_) (fun h => absurd h (by decide +kernel))
        refine lv_iconst (v := 0) hx hb d_Tp_readLine_66 (by decide +kernel) ?_
        refine lv_istore (lv' := [(4, .int 0), (3, .int 0), (2, .int 4), (0, .ref q0), (1, .ref pq_0)]) hx hb d_Tp_readLine_67 hl (by decide) rfl (fun ls hl => ?_)
        refine lv_aload_n hx hb d_Tp_readLine_69 rfl (lv_at hl 3 rfl) ?_
        have hFc := hb_free hD hS hA
        refine va_callv (va_runV (As := []) (rest := []) ⟨hx, hb, hml, hown, htb⟩ (c_Tp_step_w l dC dI ct L f hO_0 q0 m0 _ _ hQ) (cwV 0 htb (gd_V tw_273 tw_274 tw_275 tw_177 tw_272) rfl rfl rfl (by decide +kernel) ⟨Nat.le_of_ble_eq_true rfl, Nat.le_of_ble_eq_true rfl⟩) ⟨pc_blind, tw_recv hK hP m0 rfl rfl, pc_pre hP hK hD hN⟩ rfl rfl hl.1 rfl (lv_room (Nat.le_of_ble_eq_true rfl)) d_Tp_readLine_70 ⟨Nat.le_of_ble_eq_true rfl, Nat.le_of_ble_eq_true rfl⟩) hS (fun q _ h => hFc q h) hFc (fun u t H locs ht hvm er hB hz1 hk1 hS => ?_)
        obtain ⟨L_1, f_1⟩ := u
        obtain ⟨hO_1, hE_1, er, hQ⟩ := er
        obtain ⟨hP, hK1, hD1⟩ := hB
        rw [ht] at hP
        have hP : va_P (dC, dI) vwCl (TW ct L_1 f_1) H := hP
        have hD : va_D A (TW ct L_1 f_1) := hD1.weaken (fun _ q _ h => hFc q.1 h)
        have hO_1 : Ok L_1 f_1 := hO_1
        have hE_1 : Ext W_Tp_step_w L f L_1 f_1 := hE_1
        clear hK1 hD1 ht hvm hz1 hk1
        have hA_1 := hA_0.trans hE_1
        have hQ := hQ hO_1 hE_1
        clear er
        refine lv_aload_n hx hb d_Tp_readLine_73 rfl (lv_at hl 3 rfl) ?_
        refine tw_geti (D := (dC, dI)) (C := R_Tp) (T := F_Tp) (N := 6) (ci := 4) (kd := 10) (ct := ct) hx hb htb i_Tp hown hK hP hO_1 (hA_1.m m0) rfl rfl 5 (by decide) (htb (.fieldLink R_Tp 48 "WaterMen$Tape" "value" "I") tw_256) (fun _ h9 => h9) rfl d_Tp_readLine_74 (fun x_52 e_52 b_52 => ?_)
        have hQ := hQ x_52 e_52
        refine lv_istore (lv' := [(5, .int x_52), (4, .int 0), (3, .int 0), (2, .int 4), (0, .ref q0), (1, .ref pq_0)]) hx hb d_Tp_readLine_77 hl (by decide) rfl (fun ls hl => ?_)
        refine lv_aload_n hx hb d_Tp_readLine_79 rfl (lv_at hl 4 rfl) ?_
        have hFc := hb_free hD hS hA
        refine va_calli (va_runV (As := []) (rest := []) ⟨hx, hb, hml, hown, htb⟩ (c_Tp_stepOverNumber_w l dC dI ct L_1 f_1 hO_1 q0 (hA_1.m m0) _ _ hQ) (cwV 0 htb (gd_V tw_297 tw_298 tw_299 tw_177 tw_296) rfl rfl rfl (by decide +kernel) ⟨Nat.le_of_ble_eq_true rfl, Nat.le_of_ble_eq_true rfl⟩) ⟨pc_blind, tw_recv hK hP (hA_1.m m0) rfl rfl, pc_pre hP hK hD hN⟩ rfl rfl hl.1 rfl (lv_room (Nat.le_of_ble_eq_true rfl)) d_Tp_readLine_80 ⟨Nat.le_of_ble_eq_true rfl, Nat.le_of_ble_eq_true rfl⟩) hS (fun q _ h => hFc q h) hFc (fun r_53 u t H locs ht hvm er hB hz1 hk1 hS => ?_)
        obtain ⟨L_2, f_2⟩ := u
        obtain ⟨hO_2, hE_2, er, hQ⟩ := er
        obtain ⟨hP, hK1, hD1⟩ := hB
        rw [ht] at hP
        have hP : va_P (dC, dI) vwCl (TW ct L_2 f_2) H := hP
        have hD : va_D A (TW ct L_2 f_2) := hD1.weaken (fun _ q _ h => hFc q.1 h)
        have hO_2 : Ok L_2 f_2 := hO_2
        have hE_2 : Ext W_Tp_stepOverNumber_w L_1 f_1 L_2 f_2 := hE_2
        clear hK1 hD1 ht hvm hz1 hk1
        have hA_2 := hA_1.trans hE_2
        have hQ := hQ hO_2 hE_2
        rcases er with ⟨rfl, -⟩ | ⟨rfl, -⟩
        · have hQ := hQ.1 rfl
          refine lv_if_ne (tgt := 88) hx hb d_Tp_readLine_83 (by decide) (fun h => absurd (by decide +kernel) h) (fun _ => ?_)
          refine lv_iconst (v := 0) hx hb d_Tp_readLine_86 (by decide +kernel) ?_
          refine W.widen (k := 0) (n := 0) (Nat.le_of_ble_eq_true rfl) (Nat.le_of_ble_eq_true rfl) ?_
          exact W.zret (v := 0) hx hb hr (by decide +kernel) (fun t ht hW => ⟨⟨0, (L_2, f_2), rfl, ⟨hO_2, hA_2.mono (by decide +kernel), (Or.inl ⟨rfl, trivial⟩), hQ⟩, by rw [ht]; exact hP, va_K.moved hW.alike hK, by rw [hAe]; exact hD⟩, by rw [hAe]; exact hS.F ht⟩) (by rw [hAe]; exact hS.2.2) d_Tp_readLine_87
        · have hQ := hQ.2 rfl
          refine lv_if_ne (tgt := 88) hx hb d_Tp_readLine_83 (by decide) (fun _ => ?_) (fun h => absurd h (by decide +kernel))
          refine lv_iconst (v := 0) hx hb d_Tp_readLine_88 (by decide +kernel) ?_
          refine lv_istore (lv' := [(6, .int 0), (5, .int x_52), (4, .int 0), (3, .int 0), (2, .int 4), (0, .ref q0), (1, .ref pq_0)]) hx hb d_Tp_readLine_89 hl (by decide) rfl (fun ls hl => ?_)
          refine lv_iload_n hx hb d_Tp_readLine_91 rfl (lv_at hl 3 rfl) ?_
          refine lv_if_eq (tgt := 121) hx hb d_Tp_readLine_92 (by decide) (fun _ => ?_) (fun h => absurd (by decide +kernel) h)
          refine lv_iconst (v := 0) hx hb d_Tp_readLine_121 (by decide +kernel) ?_
          refine lv_istore (lv' := [(7, .int 0), (6, .int 0), (5, .int x_52), (4, .int 0), (3, .int 0), (2, .int 4), (0, .ref q0), (1, .ref pq_0)]) hx hb d_Tp_readLine_122 hl (by decide) rfl (fun ls hl => ?_)
          refine lv_iload hx hb d_Tp_readLine_124 (lv_at hl 3 rfl) ?_
          refine lv_if_eq (tgt := 155) hx hb d_Tp_readLine_126 (by decide) (fun _ => ?_) (fun h => absurd (by decide +kernel) h)
          refine lv_aload_n hx hb d_Tp_readLine_155 rfl (lv_at hl 6 rfl) ?_
          refine tw_geti (D := (dC, dI)) (C := R_Tp) (T := F_Tp) (N := 6) (ci := 4) (kd := 10) (ct := ct) hx hb htb i_Tp hown hK hP hO_2 (hA_2.m m0) rfl rfl 2 (by decide) (htb (.fieldLink R_Tp 37 "WaterMen$Tape" "sort" "I") tw_257) (fun _ h9 => h9) rfl d_Tp_readLine_156 (fun x_54 e_54 b_54 => ?_)
          have hQ := hQ x_54 e_54
          refine lv_iconst (v := 3) hx hb d_Tp_readLine_159 (by decide +kernel) ?_
          refine lv_icmp_eq (tgt := 165) hx hb d_Tp_readLine_160 (by decide) (fun c_55 => ?_) (fun c_55 => ?_)
          · have hQ := hQ.1 c_55
            refine lv_aload_n hx hb d_Tp_readLine_165 rfl (lv_at hl 7 rfl) ?_
            refine lv_iload_n hx hb d_Tp_readLine_166 rfl (lv_at hl 5 rfl) ?_
            refine lv_iload hx hb d_Tp_readLine_167 (lv_at hl 2 rfl) ?_
            refine lv_iload hx hb d_Tp_readLine_169 (lv_at hl 1 rfl) ?_
            refine lv_iload hx hb d_Tp_readLine_171 (lv_at hl 0 rfl) ?_
            have hFc := hb_free hD hS hA
            refine va_callv (va_runV (As := [.int 4, .int x_52, .int 0, .int 0]) (rest := []) ⟨hx, hb, hml, hown, htb⟩ (c_Or_addLine_4_w l dC dI ct L_2 f_2 hO_2 pq_0 (hA_2.m pm_0) _ x_52 (0 : Int32) (0 : Int32) _ hQ) (cwV 4 htb (gd_V tw_309 tw_310 tw_311 tw_250 tw_308) rfl rfl rfl (by decide +kernel) ⟨Nat.le_of_ble_eq_true rfl, Nat.le_of_ble_eq_true rfl⟩) ⟨pc_blind, tw_recv hK hP (hA_2.m pm_0) rfl rfl, pc_pre hP hK hD hN⟩ rfl rfl hl.1 rfl (lv_room (Nat.le_of_ble_eq_true rfl)) d_Tp_readLine_173 ⟨Nat.le_of_ble_eq_true rfl, Nat.le_of_ble_eq_true rfl⟩) hS (fun q _ h => hFc q h) hFc (fun u t H locs ht hvm er hB hz1 hk1 hS => ?_)
            obtain ⟨L_3, f_3⟩ := u
            obtain ⟨hO_3, hE_3, er, hQ⟩ := er
            obtain ⟨hP, hK1, hD1⟩ := hB
            rw [ht] at hP
            have hP : va_P (dC, dI) vwCl (TW ct L_3 f_3) H := hP
            have hD : va_D A (TW ct L_3 f_3) := hD1.weaken (fun _ q _ h => hFc q.1 h)
            have hO_3 : Ok L_3 f_3 := hO_3
            have hE_3 : Ext W_Or_addLine_4_w L_2 f_2 L_3 f_3 := hE_3
            clear hK1 hD1 ht hvm hz1 hk1
            have hA_3 := hA_2.trans hE_3
            have hQ := hQ hO_3 hE_3
            clear er
            refine lv_aload_n hx hb d_Tp_readLine_176 rfl (lv_at hl 6 rfl) ?_
            have hFc := hb_free hD hS hA
            refine va_callv (va_runV (As := []) (rest := []) ⟨hx, hb, hml, hown, htb⟩ (c_Tp_step_w l dC dI ct L_3 f_3 hO_3 q0 (hA_3.m m0) _ _ hQ) (cwV 0 htb (gd_V tw_273 tw_274 tw_275 tw_177 tw_272) rfl rfl rfl (by decide +kernel) ⟨Nat.le_of_ble_eq_true rfl, Nat.le_of_ble_eq_true rfl⟩) ⟨pc_blind, tw_recv hK hP (hA_3.m m0) rfl rfl, pc_pre hP hK hD hN⟩ rfl rfl hl.1 rfl (lv_room (Nat.le_of_ble_eq_true rfl)) d_Tp_readLine_177 ⟨Nat.le_of_ble_eq_true rfl, Nat.le_of_ble_eq_true rfl⟩) hS (fun q _ h => hFc q h) hFc (fun u t H locs ht hvm er hB hz1 hk1 hS => ?_)
            obtain ⟨L_4, f_4⟩ := u
            obtain ⟨hO_4, hE_4, er, hQ⟩ := er
            obtain ⟨hP, hK1, hD1⟩ := hB
            rw [ht] at hP
            have hP : va_P (dC, dI) vwCl (TW ct L_4 f_4) H := hP
            have hD : va_D A (TW ct L_4 f_4) := hD1.weaken (fun _ q _ h => hFc q.1 h)
            have hO_4 : Ok L_4 f_4 := hO_4
            have hE_4 : Ext W_Tp_step_w L_3 f_3 L_4 f_4 := hE_4
            clear hK1 hD1 ht hvm hz1 hk1
            have hA_4 := hA_3.trans hE_4
            have hQ := hQ hO_4 hE_4
            clear er
            refine lv_iconst (v := 1) hx hb d_Tp_readLine_180 (by decide +kernel) ?_
            refine W.widen (k := 0) (n := 0) (Nat.le_of_ble_eq_true rfl) (Nat.le_of_ble_eq_true rfl) ?_
            exact W.zret (v := 1) hx hb hr (by decide +kernel) (fun t ht hW => ⟨⟨1, (L_4, f_4), rfl, ⟨hO_4, hA_4.mono (by decide +kernel), (Or.inr ⟨rfl, trivial⟩), hQ⟩, by rw [ht]; exact hP, va_K.moved hW.alike hK, by rw [hAe]; exact hD⟩, by rw [hAe]; exact hS.F ht⟩) (by rw [hAe]; exact hS.2.2) d_Tp_readLine_181
          · have hQ := hQ.2 c_55
            refine lv_iconst (v := 0) hx hb d_Tp_readLine_163 (by decide +kernel) ?_
            refine W.widen (k := 0) (n := 0) (Nat.le_of_ble_eq_true rfl) (Nat.le_of_ble_eq_true rfl) ?_
            exact W.zret (v := 0) hx hb hr (by decide +kernel) (fun t ht hW => ⟨⟨0, (L_2, f_2), rfl, ⟨hO_2, hA_2.mono (by decide +kernel), (Or.inl ⟨rfl, trivial⟩), hQ⟩, by rw [ht]; exact hP, va_K.moved hW.alike hK, by rw [hAe]; exact hD⟩, by rw [hAe]; exact hS.F ht⟩) (by rw [hAe]; exact hS.2.2) d_Tp_readLine_164
    · have hQ := hQ.2.2.2.2.2.2.1 rfl
      refine lv_goto (tgt := 16) hx hb d_Tp_readLine_12 (by decide) ?_
      refine lv_istore_n (lv' := [(2, .int 5), (0, .ref q0), (1, .ref pq_0)]) hx hb d_Tp_readLine_16 rfl hl (by decide) rfl (fun ls hl => ?_)
      refine lv_iload_n hx hb d_Tp_readLine_17 rfl (lv_at hl 0 rfl) ?_
      refine lv_iconst (v := (-1)) hx hb d_Tp_readLine_18 (by decide +kernel) ?_
      refine lv_icmp_eq (tgt := 30) hx hb d_Tp_readLine_19 (by decide) (fun h => absurd h (by decide +kernel)) (fun _ => ?_)
      refine lv_aload_n hx hb d_Tp_readLine_22 rfl (lv_at hl 2 rfl) ?_
      refine lv_iload_n hx hb d_Tp_readLine_23 rfl (lv_at hl 0 rfl) ?_
      refine vp_callSi (va_Run.run (va_runV (As := [.int 5]) (rest := []) ⟨hx, hb, hml, hown, htb⟩ (c_Or_takesLine_5_w l dC dI ct L f hO_0 pq_0 pm_0 _ hQ) (cwV 1 htb (gd_V tw_293 tw_294 tw_295 tw_250 tw_292) rfl rfl rfl (by decide +kernel) ⟨Nat.le_of_ble_eq_true rfl, Nat.le_of_ble_eq_true rfl⟩) ⟨pr_blind, tw_recv hK hP pm_0 rfl rfl, pr_pre hP hK hN⟩ rfl rfl hl.1 rfl (lv_room (Nat.le_of_ble_eq_true rfl)) d_Tp_readLine_24 ⟨Nat.le_of_ble_eq_true rfl, Nat.le_of_ble_eq_true rfl⟩)) (fun r_58 er_58 => ?_)
      obtain ⟨er_58, hQ⟩ := er_58
      rcases er_58 with ⟨rfl, -⟩ | ⟨rfl, -⟩
      · have hQ := hQ.1 rfl
        refine lv_if_ne (tgt := 32) hx hb d_Tp_readLine_27 (by decide) (fun h => absurd (by decide +kernel) h) (fun _ => ?_)
        refine lv_iconst (v := 0) hx hb d_Tp_readLine_30 (by decide +kernel) ?_
        refine W.widen (k := 0) (n := 0) (Nat.le_of_ble_eq_true rfl) (Nat.le_of_ble_eq_true rfl) ?_
        exact W.zret (v := 0) hx hb hr (by decide +kernel) (fun t ht hW => ⟨⟨0, (L, f), rfl, ⟨hO_0, hA_0.mono (by decide +kernel), (Or.inl ⟨rfl, trivial⟩), hQ⟩, by rw [ht]; exact hP, va_K.moved hW.alike hK, by rw [hAe]; exact hD⟩, by rw [hAe]; exact hS.F ht⟩) (by rw [hAe]; exact hS.2.2) d_Tp_readLine_31
      · have hQ := hQ.2 rfl
        refine lv_if_ne (tgt := 32) hx hb d_Tp_readLine_27 (by decide) (fun _ => ?_) (fun h => absurd h (by decide +kernel))
        refine lv_iload_n hx hb d_Tp_readLine_32 rfl (lv_at hl 0 rfl) ?_
        refine lv_if_eq (tgt := 47) hx hb d_Tp_readLine_33 (by decide) (fun h => absurd h (by decide +kernel)) (fun _ => ?_)
        refine lv_iload_n hx hb d_Tp_readLine_36 rfl (lv_at hl 0 rfl) ?_
        refine lv_iconst (v := 1) hx hb d_Tp_readLine_37 (by decide +kernel) ?_
        refine lv_icmp_eq (tgt := 47) hx hb d_Tp_readLine_38 (by decide) (fun h => absurd h (by decide +kernel)) (fun _ => ?_)
        refine lv_iload_n hx hb d_Tp_readLine_41 rfl (lv_at hl 0 rfl) ?_
        refine lv_bipush (v := 6) hx hb d_Tp_readLine_42 (by decide +kernel) ?_
        refine lv_icmp_ne (tgt := 51) hx hb d_Tp_readLine_44 (by decide) (fun _ => ?_) (fun h => absurd h (by decide +kernel))
        refine lv_iconst (v := 0) hx hb d_Tp_readLine_51 (by decide +kernel) ?_
        refine lv_istore_n (lv' := [(3, .int 0), (2, .int 5), (0, .ref q0), (1, .ref pq_0)]) hx hb d_Tp_readLine_52 rfl hl (by decide) rfl (fun ls hl => ?_)
        refine lv_iload_n hx hb d_Tp_readLine_53 rfl (lv_at hl 1 rfl) ?_
        refine lv_if_eq (tgt := 62) hx hb d_Tp_readLine_54 (by decide) (fun h => absurd h (by decide +kernel)) (fun _ => ?_)
        refine lv_iload_n hx hb d_Tp_readLine_57 rfl (lv_at hl 1 rfl) ?_
        refine lv_iconst (v := 1) hx hb d_Tp_readLine_58 (by decide +kernel) ?_
        refine lv_icmp_ne (tgt := 66) hx hb d_Tp_readLine_59 (by decide) (fun _ => ?_) (fun h => absurd h (by decide +kernel))
        refine lv_iconst (v := 0) hx hb d_Tp_readLine_66 (by decide +kernel) ?_
        refine lv_istore (lv' := [(4, .int 0), (3, .int 0), (2, .int 5), (0, .ref q0), (1, .ref pq_0)]) hx hb d_Tp_readLine_67 hl (by decide) rfl (fun ls hl => ?_)
        refine lv_aload_n hx hb d_Tp_readLine_69 rfl (lv_at hl 3 rfl) ?_
        have hFc := hb_free hD hS hA
        refine va_callv (va_runV (As := []) (rest := []) ⟨hx, hb, hml, hown, htb⟩ (c_Tp_step_w l dC dI ct L f hO_0 q0 m0 _ _ hQ) (cwV 0 htb (gd_V tw_273 tw_274 tw_275 tw_177 tw_272) rfl rfl rfl (by decide +kernel) ⟨Nat.le_of_ble_eq_true rfl, Nat.le_of_ble_eq_true rfl⟩) ⟨pc_blind, tw_recv hK hP m0 rfl rfl, pc_pre hP hK hD hN⟩ rfl rfl hl.1 rfl (lv_room (Nat.le_of_ble_eq_true rfl)) d_Tp_readLine_70 ⟨Nat.le_of_ble_eq_true rfl, Nat.le_of_ble_eq_true rfl⟩) hS (fun q _ h => hFc q h) hFc (fun u t H locs ht hvm er hB hz1 hk1 hS => ?_)
        obtain ⟨L_1, f_1⟩ := u
        obtain ⟨hO_1, hE_1, er, hQ⟩ := er
        obtain ⟨hP, hK1, hD1⟩ := hB
        rw [ht] at hP
        have hP : va_P (dC, dI) vwCl (TW ct L_1 f_1) H := hP
        have hD : va_D A (TW ct L_1 f_1) := hD1.weaken (fun _ q _ h => hFc q.1 h)
        have hO_1 : Ok L_1 f_1 := hO_1
        have hE_1 : Ext W_Tp_step_w L f L_1 f_1 := hE_1
        clear hK1 hD1 ht hvm hz1 hk1
        have hA_1 := hA_0.trans hE_1
        have hQ := hQ hO_1 hE_1
        clear er
        refine lv_aload_n hx hb d_Tp_readLine_73 rfl (lv_at hl 3 rfl) ?_
        refine tw_geti (D := (dC, dI)) (C := R_Tp) (T := F_Tp) (N := 6) (ci := 4) (kd := 10) (ct := ct) hx hb htb i_Tp hown hK hP hO_1 (hA_1.m m0) rfl rfl 5 (by decide) (htb (.fieldLink R_Tp 48 "WaterMen$Tape" "value" "I") tw_256) (fun _ h9 => h9) rfl d_Tp_readLine_74 (fun x_60 e_60 b_60 => ?_)
        have hQ := hQ x_60 e_60
        refine lv_istore (lv' := [(5, .int x_60), (4, .int 0), (3, .int 0), (2, .int 5), (0, .ref q0), (1, .ref pq_0)]) hx hb d_Tp_readLine_77 hl (by decide) rfl (fun ls hl => ?_)
        refine lv_aload_n hx hb d_Tp_readLine_79 rfl (lv_at hl 4 rfl) ?_
        have hFc := hb_free hD hS hA
        refine va_calli (va_runV (As := []) (rest := []) ⟨hx, hb, hml, hown, htb⟩ (c_Tp_stepOverNumber_w l dC dI ct L_1 f_1 hO_1 q0 (hA_1.m m0) _ _ hQ) (cwV 0 htb (gd_V tw_297 tw_298 tw_299 tw_177 tw_296) rfl rfl rfl (by decide +kernel) ⟨Nat.le_of_ble_eq_true rfl, Nat.le_of_ble_eq_true rfl⟩) ⟨pc_blind, tw_recv hK hP (hA_1.m m0) rfl rfl, pc_pre hP hK hD hN⟩ rfl rfl hl.1 rfl (lv_room (Nat.le_of_ble_eq_true rfl)) d_Tp_readLine_80 ⟨Nat.le_of_ble_eq_true rfl, Nat.le_of_ble_eq_true rfl⟩) hS (fun q _ h => hFc q h) hFc (fun r_61 u t H locs ht hvm er hB hz1 hk1 hS => ?_)
        obtain ⟨L_2, f_2⟩ := u
        obtain ⟨hO_2, hE_2, er, hQ⟩ := er
        obtain ⟨hP, hK1, hD1⟩ := hB
        rw [ht] at hP
        have hP : va_P (dC, dI) vwCl (TW ct L_2 f_2) H := hP
        have hD : va_D A (TW ct L_2 f_2) := hD1.weaken (fun _ q _ h => hFc q.1 h)
        have hO_2 : Ok L_2 f_2 := hO_2
        have hE_2 : Ext W_Tp_stepOverNumber_w L_1 f_1 L_2 f_2 := hE_2
        clear hK1 hD1 ht hvm hz1 hk1
        have hA_2 := hA_1.trans hE_2
        have hQ := hQ hO_2 hE_2
        rcases er with ⟨rfl, -⟩ | ⟨rfl, -⟩
        · have hQ := hQ.1 rfl
          refine lv_if_ne (tgt := 88) hx hb d_Tp_readLine_83 (by decide) (fun h => absurd (by decide +kernel) h) (fun _ => ?_)
          refine lv_iconst (v := 0) hx hb d_Tp_readLine_86 (by decide +kernel) ?_
          refine W.widen (k := 0) (n := 0) (Nat.le_of_ble_eq_true rfl) (Nat.le_of_ble_eq_true rfl) ?_
          exact W.zret (v := 0) hx hb hr (by decide +kernel) (fun t ht hW => ⟨⟨0, (L_2, f_2), rfl, ⟨hO_2, hA_2.mono (by decide +kernel), (Or.inl ⟨rfl, trivial⟩), hQ⟩, by rw [ht]; exact hP, va_K.moved hW.alike hK, by rw [hAe]; exact hD⟩, by rw [hAe]; exact hS.F ht⟩) (by rw [hAe]; exact hS.2.2) d_Tp_readLine_87
        · have hQ := hQ.2 rfl
          refine lv_if_ne (tgt := 88) hx hb d_Tp_readLine_83 (by decide) (fun _ => ?_) (fun h => absurd h (by decide +kernel))
          refine lv_iconst (v := 0) hx hb d_Tp_readLine_88 (by decide +kernel) ?_
          refine lv_istore (lv' := [(6, .int 0), (5, .int x_60), (4, .int 0), (3, .int 0), (2, .int 5), (0, .ref q0), (1, .ref pq_0)]) hx hb d_Tp_readLine_89 hl (by decide) rfl (fun ls hl => ?_)
          refine lv_iload_n hx hb d_Tp_readLine_91 rfl (lv_at hl 3 rfl) ?_
          refine lv_if_eq (tgt := 121) hx hb d_Tp_readLine_92 (by decide) (fun _ => ?_) (fun h => absurd (by decide +kernel) h)
          refine lv_iconst (v := 0) hx hb d_Tp_readLine_121 (by decide +kernel) ?_
          refine lv_istore (lv' := [(7, .int 0), (6, .int 0), (5, .int x_60), (4, .int 0), (3, .int 0), (2, .int 5), (0, .ref q0), (1, .ref pq_0)]) hx hb d_Tp_readLine_122 hl (by decide) rfl (fun ls hl => ?_)
          refine lv_iload hx hb d_Tp_readLine_124 (lv_at hl 3 rfl) ?_
          refine lv_if_eq (tgt := 155) hx hb d_Tp_readLine_126 (by decide) (fun _ => ?_) (fun h => absurd (by decide +kernel) h)
          refine lv_aload_n hx hb d_Tp_readLine_155 rfl (lv_at hl 6 rfl) ?_
          refine tw_geti (D := (dC, dI)) (C := R_Tp) (T := F_Tp) (N := 6) (ci := 4) (kd := 10) (ct := ct) hx hb htb i_Tp hown hK hP hO_2 (hA_2.m m0) rfl rfl 2 (by decide) (htb (.fieldLink R_Tp 37 "WaterMen$Tape" "sort" "I") tw_257) (fun _ h9 => h9) rfl d_Tp_readLine_156 (fun x_62 e_62 b_62 => ?_)
          have hQ := hQ x_62 e_62
          refine lv_iconst (v := 3) hx hb d_Tp_readLine_159 (by decide +kernel) ?_
          refine lv_icmp_eq (tgt := 165) hx hb d_Tp_readLine_160 (by decide) (fun c_63 => ?_) (fun c_63 => ?_)
          · have hQ := hQ.1 c_63
            refine lv_aload_n hx hb d_Tp_readLine_165 rfl (lv_at hl 7 rfl) ?_
            refine lv_iload_n hx hb d_Tp_readLine_166 rfl (lv_at hl 5 rfl) ?_
            refine lv_iload hx hb d_Tp_readLine_167 (lv_at hl 2 rfl) ?_
            refine lv_iload hx hb d_Tp_readLine_169 (lv_at hl 1 rfl) ?_
            refine lv_iload hx hb d_Tp_readLine_171 (lv_at hl 0 rfl) ?_
            have hFc := hb_free hD hS hA
            refine va_callv (va_runV (As := [.int 5, .int x_60, .int 0, .int 0]) (rest := []) ⟨hx, hb, hml, hown, htb⟩ (c_Or_addLine_5_w l dC dI ct L_2 f_2 hO_2 pq_0 (hA_2.m pm_0) _ x_60 (0 : Int32) (0 : Int32) _ hQ) (cwV 4 htb (gd_V tw_309 tw_310 tw_311 tw_250 tw_308) rfl rfl rfl (by decide +kernel) ⟨Nat.le_of_ble_eq_true rfl, Nat.le_of_ble_eq_true rfl⟩) ⟨pc_blind, tw_recv hK hP (hA_2.m pm_0) rfl rfl, pc_pre hP hK hD hN⟩ rfl rfl hl.1 rfl (lv_room (Nat.le_of_ble_eq_true rfl)) d_Tp_readLine_173 ⟨Nat.le_of_ble_eq_true rfl, Nat.le_of_ble_eq_true rfl⟩) hS (fun q _ h => hFc q h) hFc (fun u t H locs ht hvm er hB hz1 hk1 hS => ?_)
            obtain ⟨L_3, f_3⟩ := u
            obtain ⟨hO_3, hE_3, er, hQ⟩ := er
            obtain ⟨hP, hK1, hD1⟩ := hB
            rw [ht] at hP
            have hP : va_P (dC, dI) vwCl (TW ct L_3 f_3) H := hP
            have hD : va_D A (TW ct L_3 f_3) := hD1.weaken (fun _ q _ h => hFc q.1 h)
            have hO_3 : Ok L_3 f_3 := hO_3
            have hE_3 : Ext W_Or_addLine_5_w L_2 f_2 L_3 f_3 := hE_3
            clear hK1 hD1 ht hvm hz1 hk1
            have hA_3 := hA_2.trans hE_3
            have hQ := hQ hO_3 hE_3
            clear er
            refine lv_aload_n hx hb d_Tp_readLine_176 rfl (lv_at hl 6 rfl) ?_
            have hFc := hb_free hD hS hA
            refine va_callv (va_runV (As := []) (rest := []) ⟨hx, hb, hml, hown, htb⟩ (c_Tp_step_w l dC dI ct L_3 f_3 hO_3 q0 (hA_3.m m0) _ _ hQ) (cwV 0 htb (gd_V tw_273 tw_274 tw_275 tw_177 tw_272) rfl rfl rfl (by decide +kernel) ⟨Nat.le_of_ble_eq_true rfl, Nat.le_of_ble_eq_true rfl⟩) ⟨pc_blind, tw_recv hK hP (hA_3.m m0) rfl rfl, pc_pre hP hK hD hN⟩ rfl rfl hl.1 rfl (lv_room (Nat.le_of_ble_eq_true rfl)) d_Tp_readLine_177 ⟨Nat.le_of_ble_eq_true rfl, Nat.le_of_ble_eq_true rfl⟩) hS (fun q _ h => hFc q h) hFc (fun u t H locs ht hvm er hB hz1 hk1 hS => ?_)
            obtain ⟨L_4, f_4⟩ := u
            obtain ⟨hO_4, hE_4, er, hQ⟩ := er
            obtain ⟨hP, hK1, hD1⟩ := hB
            rw [ht] at hP
            have hP : va_P (dC, dI) vwCl (TW ct L_4 f_4) H := hP
            have hD : va_D A (TW ct L_4 f_4) := hD1.weaken (fun _ q _ h => hFc q.1 h)
            have hO_4 : Ok L_4 f_4 := hO_4
            have hE_4 : Ext W_Tp_step_w L_3 f_3 L_4 f_4 := hE_4
            clear hK1 hD1 ht hvm hz1 hk1
            have hA_4 := hA_3.trans hE_4
            have hQ := hQ hO_4 hE_4
            clear er
            refine lv_iconst (v := 1) hx hb d_Tp_readLine_180 (by decide +kernel) ?_
            refine W.widen (k := 0) (n := 0) (Nat.le_of_ble_eq_true rfl) (Nat.le_of_ble_eq_true rfl) ?_
            exact W.zret (v := 1) hx hb hr (by decide +kernel) (fun t ht hW => ⟨⟨1, (L_4, f_4), rfl, ⟨hO_4, hA_4.mono (by decide +kernel), (Or.inr ⟨rfl, trivial⟩), hQ⟩, by rw [ht]; exact hP, va_K.moved hW.alike hK, by rw [hAe]; exact hD⟩, by rw [hAe]; exact hS.F ht⟩) (by rw [hAe]; exact hS.2.2) d_Tp_readLine_181
          · have hQ := hQ.2 c_63
            refine lv_iconst (v := 0) hx hb d_Tp_readLine_163 (by decide +kernel) ?_
            refine W.widen (k := 0) (n := 0) (Nat.le_of_ble_eq_true rfl) (Nat.le_of_ble_eq_true rfl) ?_
            exact W.zret (v := 0) hx hb hr (by decide +kernel) (fun t ht hW => ⟨⟨0, (L_2, f_2), rfl, ⟨hO_2, hA_2.mono (by decide +kernel), (Or.inl ⟨rfl, trivial⟩), hQ⟩, by rw [ht]; exact hP, va_K.moved hW.alike hK, by rw [hAe]; exact hD⟩, by rw [hAe]; exact hS.F ht⟩) (by rw [hAe]; exact hS.2.2) d_Tp_readLine_164
    · have hQ := hQ.2.2.2.2.2.2.2.1 rfl
      refine lv_goto (tgt := 16) hx hb d_Tp_readLine_12 (by decide) ?_
      refine lv_istore_n (lv' := [(2, .int 6), (0, .ref q0), (1, .ref pq_0)]) hx hb d_Tp_readLine_16 rfl hl (by decide) rfl (fun ls hl => ?_)
      refine lv_iload_n hx hb d_Tp_readLine_17 rfl (lv_at hl 0 rfl) ?_
      refine lv_iconst (v := (-1)) hx hb d_Tp_readLine_18 (by decide +kernel) ?_
      refine lv_icmp_eq (tgt := 30) hx hb d_Tp_readLine_19 (by decide) (fun h => absurd h (by decide +kernel)) (fun _ => ?_)
      refine lv_aload_n hx hb d_Tp_readLine_22 rfl (lv_at hl 2 rfl) ?_
      refine lv_iload_n hx hb d_Tp_readLine_23 rfl (lv_at hl 0 rfl) ?_
      refine vp_callSi (va_Run.run (va_runV (As := [.int 6]) (rest := []) ⟨hx, hb, hml, hown, htb⟩ (c_Or_takesLine_6_w l dC dI ct L f hO_0 pq_0 pm_0 _ hQ) (cwV 1 htb (gd_V tw_293 tw_294 tw_295 tw_250 tw_292) rfl rfl rfl (by decide +kernel) ⟨Nat.le_of_ble_eq_true rfl, Nat.le_of_ble_eq_true rfl⟩) ⟨pr_blind, tw_recv hK hP pm_0 rfl rfl, pr_pre hP hK hN⟩ rfl rfl hl.1 rfl (lv_room (Nat.le_of_ble_eq_true rfl)) d_Tp_readLine_24 ⟨Nat.le_of_ble_eq_true rfl, Nat.le_of_ble_eq_true rfl⟩)) (fun r_66 er_66 => ?_)
      obtain ⟨er_66, hQ⟩ := er_66
      rcases er_66 with ⟨rfl, -⟩ | ⟨rfl, -⟩
      · have hQ := hQ.1 rfl
        refine lv_if_ne (tgt := 32) hx hb d_Tp_readLine_27 (by decide) (fun h => absurd (by decide +kernel) h) (fun _ => ?_)
        refine lv_iconst (v := 0) hx hb d_Tp_readLine_30 (by decide +kernel) ?_
        refine W.widen (k := 0) (n := 0) (Nat.le_of_ble_eq_true rfl) (Nat.le_of_ble_eq_true rfl) ?_
        exact W.zret (v := 0) hx hb hr (by decide +kernel) (fun t ht hW => ⟨⟨0, (L, f), rfl, ⟨hO_0, hA_0.mono (by decide +kernel), (Or.inl ⟨rfl, trivial⟩), hQ⟩, by rw [ht]; exact hP, va_K.moved hW.alike hK, by rw [hAe]; exact hD⟩, by rw [hAe]; exact hS.F ht⟩) (by rw [hAe]; exact hS.2.2) d_Tp_readLine_31
      · have hQ := hQ.2 rfl
        refine lv_if_ne (tgt := 32) hx hb d_Tp_readLine_27 (by decide) (fun _ => ?_) (fun h => absurd h (by decide +kernel))
        refine lv_iload_n hx hb d_Tp_readLine_32 rfl (lv_at hl 0 rfl) ?_
        refine lv_if_eq (tgt := 47) hx hb d_Tp_readLine_33 (by decide) (fun h => absurd h (by decide +kernel)) (fun _ => ?_)
        refine lv_iload_n hx hb d_Tp_readLine_36 rfl (lv_at hl 0 rfl) ?_
        refine lv_iconst (v := 1) hx hb d_Tp_readLine_37 (by decide +kernel) ?_
        refine lv_icmp_eq (tgt := 47) hx hb d_Tp_readLine_38 (by decide) (fun h => absurd h (by decide +kernel)) (fun _ => ?_)
        refine lv_iload_n hx hb d_Tp_readLine_41 rfl (lv_at hl 0 rfl) ?_
        refine lv_bipush (v := 6) hx hb d_Tp_readLine_42 (by decide +kernel) ?_
        refine lv_icmp_ne (tgt := 51) hx hb d_Tp_readLine_44 (by decide) (fun h => absurd (by decide +kernel) h) (fun _ => ?_)
        refine lv_iconst (v := 1) hx hb d_Tp_readLine_47 (by decide +kernel) ?_
        refine lv_goto (tgt := 52) hx hb d_Tp_readLine_48 (by decide) ?_
        refine lv_istore_n (lv' := [(3, .int 1), (2, .int 6), (0, .ref q0), (1, .ref pq_0)]) hx hb d_Tp_readLine_52 rfl hl (by decide) rfl (fun ls hl => ?_)
        refine lv_iload_n hx hb d_Tp_readLine_53 rfl (lv_at hl 1 rfl) ?_
        refine lv_if_eq (tgt := 62) hx hb d_Tp_readLine_54 (by decide) (fun h => absurd h (by decide +kernel)) (fun _ => ?_)
        refine lv_iload_n hx hb d_Tp_readLine_57 rfl (lv_at hl 1 rfl) ?_
        refine lv_iconst (v := 1) hx hb d_Tp_readLine_58 (by decide +kernel) ?_
        refine lv_icmp_ne (tgt := 66) hx hb d_Tp_readLine_59 (by decide) (fun _ => ?_) (fun h => absurd h (by decide +kernel))
        refine lv_iconst (v := 0) hx hb d_Tp_readLine_66 (by decide +kernel) ?_
        refine lv_istore (lv' := [(4, .int 0), (3, .int 1), (2, .int 6), (0, .ref q0), (1, .ref pq_0)]) hx hb d_Tp_readLine_67 hl (by decide) rfl (fun ls hl => ?_)
        refine lv_aload_n hx hb d_Tp_readLine_69 rfl (lv_at hl 3 rfl) ?_
        have hFc := hb_free hD hS hA
        refine va_callv (va_runV (As := []) (rest := []) ⟨hx, hb, hml, hown, htb⟩ (c_Tp_step_w l dC dI ct L f hO_0 q0 m0 _ _ hQ) (cwV 0 htb (gd_V tw_273 tw_274 tw_275 tw_177 tw_272) rfl rfl rfl (by decide +kernel) ⟨Nat.le_of_ble_eq_true rfl, Nat.le_of_ble_eq_true rfl⟩) ⟨pc_blind, tw_recv hK hP m0 rfl rfl, pc_pre hP hK hD hN⟩ rfl rfl hl.1 rfl (lv_room (Nat.le_of_ble_eq_true rfl)) d_Tp_readLine_70 ⟨Nat.le_of_ble_eq_true rfl, Nat.le_of_ble_eq_true rfl⟩) hS (fun q _ h => hFc q h) hFc (fun u t H locs ht hvm er hB hz1 hk1 hS => ?_)
        obtain ⟨L_1, f_1⟩ := u
        obtain ⟨hO_1, hE_1, er, hQ⟩ := er
        obtain ⟨hP, hK1, hD1⟩ := hB
        rw [ht] at hP
        have hP : va_P (dC, dI) vwCl (TW ct L_1 f_1) H := hP
        have hD : va_D A (TW ct L_1 f_1) := hD1.weaken (fun _ q _ h => hFc q.1 h)
        have hO_1 : Ok L_1 f_1 := hO_1
        have hE_1 : Ext W_Tp_step_w L f L_1 f_1 := hE_1
        clear hK1 hD1 ht hvm hz1 hk1
        have hA_1 := hA_0.trans hE_1
        have hQ := hQ hO_1 hE_1
        clear er
        refine lv_aload_n hx hb d_Tp_readLine_73 rfl (lv_at hl 3 rfl) ?_
        refine tw_geti (D := (dC, dI)) (C := R_Tp) (T := F_Tp) (N := 6) (ci := 4) (kd := 10) (ct := ct) hx hb htb i_Tp hown hK hP hO_1 (hA_1.m m0) rfl rfl 5 (by decide) (htb (.fieldLink R_Tp 48 "WaterMen$Tape" "value" "I") tw_256) (fun _ h9 => h9) rfl d_Tp_readLine_74 (fun x_68 e_68 b_68 => ?_)
        have hQ := hQ x_68 e_68
        refine lv_istore (lv' := [(5, .int x_68), (4, .int 0), (3, .int 1), (2, .int 6), (0, .ref q0), (1, .ref pq_0)]) hx hb d_Tp_readLine_77 hl (by decide) rfl (fun ls hl => ?_)
        refine lv_aload_n hx hb d_Tp_readLine_79 rfl (lv_at hl 4 rfl) ?_
        have hFc := hb_free hD hS hA
        refine va_calli (va_runV (As := []) (rest := []) ⟨hx, hb, hml, hown, htb⟩ (c_Tp_stepOverNumber_w l dC dI ct L_1 f_1 hO_1 q0 (hA_1.m m0) _ _ hQ) (cwV 0 htb (gd_V tw_297 tw_298 tw_299 tw_177 tw_296) rfl rfl rfl (by decide +kernel) ⟨Nat.le_of_ble_eq_true rfl, Nat.le_of_ble_eq_true rfl⟩) ⟨pc_blind, tw_recv hK hP (hA_1.m m0) rfl rfl, pc_pre hP hK hD hN⟩ rfl rfl hl.1 rfl (lv_room (Nat.le_of_ble_eq_true rfl)) d_Tp_readLine_80 ⟨Nat.le_of_ble_eq_true rfl, Nat.le_of_ble_eq_true rfl⟩) hS (fun q _ h => hFc q h) hFc (fun r_69 u t H locs ht hvm er hB hz1 hk1 hS => ?_)
        obtain ⟨L_2, f_2⟩ := u
        obtain ⟨hO_2, hE_2, er, hQ⟩ := er
        obtain ⟨hP, hK1, hD1⟩ := hB
        rw [ht] at hP
        have hP : va_P (dC, dI) vwCl (TW ct L_2 f_2) H := hP
        have hD : va_D A (TW ct L_2 f_2) := hD1.weaken (fun _ q _ h => hFc q.1 h)
        have hO_2 : Ok L_2 f_2 := hO_2
        have hE_2 : Ext W_Tp_stepOverNumber_w L_1 f_1 L_2 f_2 := hE_2
        clear hK1 hD1 ht hvm hz1 hk1
        have hA_2 := hA_1.trans hE_2
        have hQ := hQ hO_2 hE_2
        rcases er with ⟨rfl, -⟩ | ⟨rfl, -⟩
        · have hQ := hQ.1 rfl
          refine lv_if_ne (tgt := 88) hx hb d_Tp_readLine_83 (by decide) (fun h => absurd (by decide +kernel) h) (fun _ => ?_)
          refine lv_iconst (v := 0) hx hb d_Tp_readLine_86 (by decide +kernel) ?_
          refine W.widen (k := 0) (n := 0) (Nat.le_of_ble_eq_true rfl) (Nat.le_of_ble_eq_true rfl) ?_
          exact W.zret (v := 0) hx hb hr (by decide +kernel) (fun t ht hW => ⟨⟨0, (L_2, f_2), rfl, ⟨hO_2, hA_2.mono (by decide +kernel), (Or.inl ⟨rfl, trivial⟩), hQ⟩, by rw [ht]; exact hP, va_K.moved hW.alike hK, by rw [hAe]; exact hD⟩, by rw [hAe]; exact hS.F ht⟩) (by rw [hAe]; exact hS.2.2) d_Tp_readLine_87
        · have hQ := hQ.2 rfl
          refine lv_if_ne (tgt := 88) hx hb d_Tp_readLine_83 (by decide) (fun _ => ?_) (fun h => absurd h (by decide +kernel))
          refine lv_iconst (v := 0) hx hb d_Tp_readLine_88 (by decide +kernel) ?_
          refine lv_istore (lv' := [(6, .int 0), (5, .int x_68), (4, .int 0), (3, .int 1), (2, .int 6), (0, .ref q0), (1, .ref pq_0)]) hx hb d_Tp_readLine_89 hl (by decide) rfl (fun ls hl => ?_)
          refine lv_iload_n hx hb d_Tp_readLine_91 rfl (lv_at hl 3 rfl) ?_
          refine lv_if_eq (tgt := 121) hx hb d_Tp_readLine_92 (by decide) (fun h => absurd h (by decide +kernel)) (fun _ => ?_)
          refine lv_aload_n hx hb d_Tp_readLine_95 rfl (lv_at hl 5 rfl) ?_
          refine va_ldcS hx hb hown (show vk_R R_Tp 55 "to" (adK 9) s from hW0.2.1 9 (by decide)) d_Tp_readLine_96 ?_
          have hFc := hb_free hD hS hA
          refine va_calli (va_runV (As := [.ref (adK 9)]) (rest := []) ⟨hx, hb, hml, hown, htb⟩ (c_Tp_stepOverWord_w l dC dI ct L_2 f_2 hO_2 q0 (hA_2.m m0) adK adV 9 (by decide) _ _ hQ) (cwV 1 htb (gd_V tw_301 tw_302 tw_303 tw_177 tw_300) rfl rfl rfl (by decide +kernel) ⟨Nat.le_of_ble_eq_true rfl, Nat.le_of_ble_eq_true rfl⟩) ⟨pcs_blind, tw_recv hK hP (hA_2.m m0) rfl rfl, pcs_pre hP hK hD hN hS hW0 hFc⟩ rfl rfl hl.1 rfl (lv_room (Nat.le_of_ble_eq_true rfl)) d_Tp_readLine_98 ⟨Nat.le_of_ble_eq_true rfl, Nat.le_of_ble_eq_true rfl⟩) hS (fun q _ h => hFc q h) hFc (fun r_70 u t H locs ht hvm er hB hz1 hk1 hS => ?_)
          obtain ⟨L_3, f_3⟩ := u
          obtain ⟨hO_3, hE_3, er, hQ⟩ := er
          obtain ⟨hP, hK1, hD1⟩ := hB
          rw [ht] at hP
          have hP : va_P (dC, dI) vwCl (TW ct L_3 f_3) H := hP
          have hD : va_D A (TW ct L_3 f_3) := hD1.weaken (fun _ q _ h => hFc q.1 h)
          have hO_3 : Ok L_3 f_3 := hO_3
          have hE_3 : Ext W_Tp_stepOverWord_w L_2 f_2 L_3 f_3 := hE_3
          clear hK1 hD1 ht hvm hz1 hk1
          have hA_3 := hA_2.trans hE_3
          have hQ := hQ hO_3 hE_3
          rcases er with ⟨rfl, -⟩ | ⟨rfl, -⟩
          · have hQ := hQ.1 rfl
            refine lv_if_ne (tgt := 106) hx hb d_Tp_readLine_101 (by decide) (fun h => absurd (by decide +kernel) h) (fun _ => ?_)
            refine lv_iconst (v := 0) hx hb d_Tp_readLine_104 (by decide +kernel) ?_
            refine W.widen (k := 0) (n := 0) (Nat.le_of_ble_eq_true rfl) (Nat.le_of_ble_eq_true rfl) ?_
            exact W.zret (v := 0) hx hb hr (by decide +kernel) (fun t ht hW => ⟨⟨0, (L_3, f_3), rfl, ⟨hO_3, hA_3.mono (by decide +kernel), (Or.inl ⟨rfl, trivial⟩), hQ⟩, by rw [ht]; exact hP, va_K.moved hW.alike hK, by rw [hAe]; exact hD⟩, by rw [hAe]; exact hS.F ht⟩) (by rw [hAe]; exact hS.2.2) d_Tp_readLine_105
          · have hQ := hQ.2 rfl
            refine lv_if_ne (tgt := 106) hx hb d_Tp_readLine_101 (by decide) (fun _ => ?_) (fun h => absurd h (by decide +kernel))
            refine lv_aload_n hx hb d_Tp_readLine_106 rfl (lv_at hl 5 rfl) ?_
            refine tw_geti (D := (dC, dI)) (C := R_Tp) (T := F_Tp) (N := 6) (ci := 4) (kd := 10) (ct := ct) hx hb htb i_Tp hown hK hP hO_3 (hA_3.m m0) rfl rfl 5 (by decide) (htb (.fieldLink R_Tp 48 "WaterMen$Tape" "value" "I") tw_256) (fun _ h9 => h9) rfl d_Tp_readLine_107 (fun x_71 e_71 b_71 => ?_)
            have hQ := hQ x_71 e_71
            refine lv_istore (lv' := [(6, .int x_71), (5, .int x_68), (4, .int 0), (3, .int 1), (2, .int 6), (0, .ref q0), (1, .ref pq_0)]) hx hb d_Tp_readLine_110 hl (by decide) rfl (fun ls hl => ?_)
            refine lv_aload_n hx hb d_Tp_readLine_112 rfl (lv_at hl 5 rfl) ?_
            have hFc := hb_free hD hS hA
            refine va_calli (va_runV (As := []) (rest := []) ⟨hx, hb, hml, hown, htb⟩ (c_Tp_stepOverNumber_w l dC dI ct L_3 f_3 hO_3 q0 (hA_3.m m0) _ _ hQ) (cwV 0 htb (gd_V tw_297 tw_298 tw_299 tw_177 tw_296) rfl rfl rfl (by decide +kernel) ⟨Nat.le_of_ble_eq_true rfl, Nat.le_of_ble_eq_true rfl⟩) ⟨pc_blind, tw_recv hK hP (hA_3.m m0) rfl rfl, pc_pre hP hK hD hN⟩ rfl rfl hl.1 rfl (lv_room (Nat.le_of_ble_eq_true rfl)) d_Tp_readLine_113 ⟨Nat.le_of_ble_eq_true rfl, Nat.le_of_ble_eq_true rfl⟩) hS (fun q _ h => hFc q h) hFc (fun r_72 u t H locs ht hvm er hB hz1 hk1 hS => ?_)
            obtain ⟨L_4, f_4⟩ := u
            obtain ⟨hO_4, hE_4, er, hQ⟩ := er
            obtain ⟨hP, hK1, hD1⟩ := hB
            rw [ht] at hP
            have hP : va_P (dC, dI) vwCl (TW ct L_4 f_4) H := hP
            have hD : va_D A (TW ct L_4 f_4) := hD1.weaken (fun _ q _ h => hFc q.1 h)
            have hO_4 : Ok L_4 f_4 := hO_4
            have hE_4 : Ext W_Tp_stepOverNumber_w L_3 f_3 L_4 f_4 := hE_4
            clear hK1 hD1 ht hvm hz1 hk1
            have hA_4 := hA_3.trans hE_4
            have hQ := hQ hO_4 hE_4
            rcases er with ⟨rfl, -⟩ | ⟨rfl, -⟩
            · have hQ := hQ.1 rfl
              refine lv_if_ne (tgt := 121) hx hb d_Tp_readLine_116 (by decide) (fun h => absurd (by decide +kernel) h) (fun _ => ?_)
              refine lv_iconst (v := 0) hx hb d_Tp_readLine_119 (by decide +kernel) ?_
              refine W.widen (k := 0) (n := 0) (Nat.le_of_ble_eq_true rfl) (Nat.le_of_ble_eq_true rfl) ?_
              exact W.zret (v := 0) hx hb hr (by decide +kernel) (fun t ht hW => ⟨⟨0, (L_4, f_4), rfl, ⟨hO_4, hA_4.mono (by decide +kernel), (Or.inl ⟨rfl, trivial⟩), hQ⟩, by rw [ht]; exact hP, va_K.moved hW.alike hK, by rw [hAe]; exact hD⟩, by rw [hAe]; exact hS.F ht⟩) (by rw [hAe]; exact hS.2.2) d_Tp_readLine_120
            · have hQ := hQ.2 rfl
              refine lv_if_ne (tgt := 121) hx hb d_Tp_readLine_116 (by decide) (fun _ => ?_) (fun h => absurd h (by decide +kernel))
              refine lv_iconst (v := 0) hx hb d_Tp_readLine_121 (by decide +kernel) ?_
              refine lv_istore (lv' := [(7, .int 0), (6, .int x_71), (5, .int x_68), (4, .int 0), (3, .int 1), (2, .int 6), (0, .ref q0), (1, .ref pq_0)]) hx hb d_Tp_readLine_122 hl (by decide) rfl (fun ls hl => ?_)
              refine lv_iload hx hb d_Tp_readLine_124 (lv_at hl 3 rfl) ?_
              refine lv_if_eq (tgt := 155) hx hb d_Tp_readLine_126 (by decide) (fun _ => ?_) (fun h => absurd (by decide +kernel) h)
              refine lv_aload_n hx hb d_Tp_readLine_155 rfl (lv_at hl 6 rfl) ?_
              refine tw_geti (D := (dC, dI)) (C := R_Tp) (T := F_Tp) (N := 6) (ci := 4) (kd := 10) (ct := ct) hx hb htb i_Tp hown hK hP hO_4 (hA_4.m m0) rfl rfl 2 (by decide) (htb (.fieldLink R_Tp 37 "WaterMen$Tape" "sort" "I") tw_257) (fun _ h9 => h9) rfl d_Tp_readLine_156 (fun x_73 e_73 b_73 => ?_)
              have hQ := hQ x_73 e_73
              refine lv_iconst (v := 3) hx hb d_Tp_readLine_159 (by decide +kernel) ?_
              refine lv_icmp_eq (tgt := 165) hx hb d_Tp_readLine_160 (by decide) (fun c_74 => ?_) (fun c_74 => ?_)
              · have hQ := hQ.1 c_74
                refine lv_aload_n hx hb d_Tp_readLine_165 rfl (lv_at hl 7 rfl) ?_
                refine lv_iload_n hx hb d_Tp_readLine_166 rfl (lv_at hl 5 rfl) ?_
                refine lv_iload hx hb d_Tp_readLine_167 (lv_at hl 2 rfl) ?_
                refine lv_iload hx hb d_Tp_readLine_169 (lv_at hl 1 rfl) ?_
                refine lv_iload hx hb d_Tp_readLine_171 (lv_at hl 0 rfl) ?_
                have hFc := hb_free hD hS hA
                refine va_callv (va_runV (As := [.int 6, .int x_68, .int x_71, .int 0]) (rest := []) ⟨hx, hb, hml, hown, htb⟩ (c_Or_addLine_6_w l dC dI ct L_4 f_4 hO_4 pq_0 (hA_4.m pm_0) _ x_68 x_71 (0 : Int32) _ hQ) (cwV 4 htb (gd_V tw_309 tw_310 tw_311 tw_250 tw_308) rfl rfl rfl (by decide +kernel) ⟨Nat.le_of_ble_eq_true rfl, Nat.le_of_ble_eq_true rfl⟩) ⟨pc_blind, tw_recv hK hP (hA_4.m pm_0) rfl rfl, pc_pre hP hK hD hN⟩ rfl rfl hl.1 rfl (lv_room (Nat.le_of_ble_eq_true rfl)) d_Tp_readLine_173 ⟨Nat.le_of_ble_eq_true rfl, Nat.le_of_ble_eq_true rfl⟩) hS (fun q _ h => hFc q h) hFc (fun u t H locs ht hvm er hB hz1 hk1 hS => ?_)
                obtain ⟨L_5, f_5⟩ := u
                obtain ⟨hO_5, hE_5, er, hQ⟩ := er
                obtain ⟨hP, hK1, hD1⟩ := hB
                rw [ht] at hP
                have hP : va_P (dC, dI) vwCl (TW ct L_5 f_5) H := hP
                have hD : va_D A (TW ct L_5 f_5) := hD1.weaken (fun _ q _ h => hFc q.1 h)
                have hO_5 : Ok L_5 f_5 := hO_5
                have hE_5 : Ext W_Or_addLine_6_w L_4 f_4 L_5 f_5 := hE_5
                clear hK1 hD1 ht hvm hz1 hk1
                have hA_5 := hA_4.trans hE_5
                have hQ := hQ hO_5 hE_5
                clear er
                refine lv_aload_n hx hb d_Tp_readLine_176 rfl (lv_at hl 6 rfl) ?_
                have hFc := hb_free hD hS hA
                refine va_callv (va_runV (As := []) (rest := []) ⟨hx, hb, hml, hown, htb⟩ (c_Tp_step_w l dC dI ct L_5 f_5 hO_5 q0 (hA_5.m m0) _ _ hQ) (cwV 0 htb (gd_V tw_273 tw_274 tw_275 tw_177 tw_272) rfl rfl rfl (by decide +kernel) ⟨Nat.le_of_ble_eq_true rfl, Nat.le_of_ble_eq_true rfl⟩) ⟨pc_blind, tw_recv hK hP (hA_5.m m0) rfl rfl, pc_pre hP hK hD hN⟩ rfl rfl hl.1 rfl (lv_room (Nat.le_of_ble_eq_true rfl)) d_Tp_readLine_177 ⟨Nat.le_of_ble_eq_true rfl, Nat.le_of_ble_eq_true rfl⟩) hS (fun q _ h => hFc q h) hFc (fun u t H locs ht hvm er hB hz1 hk1 hS => ?_)
                obtain ⟨L_6, f_6⟩ := u
                obtain ⟨hO_6, hE_6, er, hQ⟩ := er
                obtain ⟨hP, hK1, hD1⟩ := hB
                rw [ht] at hP
                have hP : va_P (dC, dI) vwCl (TW ct L_6 f_6) H := hP
                have hD : va_D A (TW ct L_6 f_6) := hD1.weaken (fun _ q _ h => hFc q.1 h)
                have hO_6 : Ok L_6 f_6 := hO_6
                have hE_6 : Ext W_Tp_step_w L_5 f_5 L_6 f_6 := hE_6
                clear hK1 hD1 ht hvm hz1 hk1
                have hA_6 := hA_5.trans hE_6
                have hQ := hQ hO_6 hE_6
                clear er
                refine lv_iconst (v := 1) hx hb d_Tp_readLine_180 (by decide +kernel) ?_
                refine W.widen (k := 0) (n := 0) (Nat.le_of_ble_eq_true rfl) (Nat.le_of_ble_eq_true rfl) ?_
                exact W.zret (v := 1) hx hb hr (by decide +kernel) (fun t ht hW => ⟨⟨1, (L_6, f_6), rfl, ⟨hO_6, hA_6.mono (by decide +kernel), (Or.inr ⟨rfl, trivial⟩), hQ⟩, by rw [ht]; exact hP, va_K.moved hW.alike hK, by rw [hAe]; exact hD⟩, by rw [hAe]; exact hS.F ht⟩) (by rw [hAe]; exact hS.2.2) d_Tp_readLine_181
              · have hQ := hQ.2 c_74
                refine lv_iconst (v := 0) hx hb d_Tp_readLine_163 (by decide +kernel) ?_
                refine W.widen (k := 0) (n := 0) (Nat.le_of_ble_eq_true rfl) (Nat.le_of_ble_eq_true rfl) ?_
                exact W.zret (v := 0) hx hb hr (by decide +kernel) (fun t ht hW => ⟨⟨0, (L_4, f_4), rfl, ⟨hO_4, hA_4.mono (by decide +kernel), (Or.inl ⟨rfl, trivial⟩), hQ⟩, by rw [ht]; exact hP, va_K.moved hW.alike hK, by rw [hAe]; exact hD⟩, by rw [hAe]; exact hS.F ht⟩) (by rw [hAe]; exact hS.2.2) d_Tp_readLine_164
    · have hQ := hQ.2.2.2.2.2.2.2.2.1 rfl
      refine lv_goto (tgt := 16) hx hb d_Tp_readLine_12 (by decide) ?_
      refine lv_istore_n (lv' := [(2, .int 7), (0, .ref q0), (1, .ref pq_0)]) hx hb d_Tp_readLine_16 rfl hl (by decide) rfl (fun ls hl => ?_)
      refine lv_iload_n hx hb d_Tp_readLine_17 rfl (lv_at hl 0 rfl) ?_
      refine lv_iconst (v := (-1)) hx hb d_Tp_readLine_18 (by decide +kernel) ?_
      refine lv_icmp_eq (tgt := 30) hx hb d_Tp_readLine_19 (by decide) (fun h => absurd h (by decide +kernel)) (fun _ => ?_)
      refine lv_aload_n hx hb d_Tp_readLine_22 rfl (lv_at hl 2 rfl) ?_
      refine lv_iload_n hx hb d_Tp_readLine_23 rfl (lv_at hl 0 rfl) ?_
      refine vp_callSi (va_Run.run (va_runV (As := [.int 7]) (rest := []) ⟨hx, hb, hml, hown, htb⟩ (c_Or_takesLine_7_w l dC dI ct L f hO_0 pq_0 pm_0 _ hQ) (cwV 1 htb (gd_V tw_293 tw_294 tw_295 tw_250 tw_292) rfl rfl rfl (by decide +kernel) ⟨Nat.le_of_ble_eq_true rfl, Nat.le_of_ble_eq_true rfl⟩) ⟨pr_blind, tw_recv hK hP pm_0 rfl rfl, pr_pre hP hK hN⟩ rfl rfl hl.1 rfl (lv_room (Nat.le_of_ble_eq_true rfl)) d_Tp_readLine_24 ⟨Nat.le_of_ble_eq_true rfl, Nat.le_of_ble_eq_true rfl⟩)) (fun r_77 er_77 => ?_)
      obtain ⟨er_77, hQ⟩ := er_77
      rcases er_77 with ⟨rfl, -⟩ | ⟨rfl, -⟩
      · have hQ := hQ.1 rfl
        refine lv_if_ne (tgt := 32) hx hb d_Tp_readLine_27 (by decide) (fun h => absurd (by decide +kernel) h) (fun _ => ?_)
        refine lv_iconst (v := 0) hx hb d_Tp_readLine_30 (by decide +kernel) ?_
        refine W.widen (k := 0) (n := 0) (Nat.le_of_ble_eq_true rfl) (Nat.le_of_ble_eq_true rfl) ?_
        exact W.zret (v := 0) hx hb hr (by decide +kernel) (fun t ht hW => ⟨⟨0, (L, f), rfl, ⟨hO_0, hA_0.mono (by decide +kernel), (Or.inl ⟨rfl, trivial⟩), hQ⟩, by rw [ht]; exact hP, va_K.moved hW.alike hK, by rw [hAe]; exact hD⟩, by rw [hAe]; exact hS.F ht⟩) (by rw [hAe]; exact hS.2.2) d_Tp_readLine_31
      · have hQ := hQ.2 rfl
        refine lv_if_ne (tgt := 32) hx hb d_Tp_readLine_27 (by decide) (fun _ => ?_) (fun h => absurd h (by decide +kernel))
        refine lv_iload_n hx hb d_Tp_readLine_32 rfl (lv_at hl 0 rfl) ?_
        refine lv_if_eq (tgt := 47) hx hb d_Tp_readLine_33 (by decide) (fun h => absurd h (by decide +kernel)) (fun _ => ?_)
        refine lv_iload_n hx hb d_Tp_readLine_36 rfl (lv_at hl 0 rfl) ?_
        refine lv_iconst (v := 1) hx hb d_Tp_readLine_37 (by decide +kernel) ?_
        refine lv_icmp_eq (tgt := 47) hx hb d_Tp_readLine_38 (by decide) (fun h => absurd h (by decide +kernel)) (fun _ => ?_)
        refine lv_iload_n hx hb d_Tp_readLine_41 rfl (lv_at hl 0 rfl) ?_
        refine lv_bipush (v := 6) hx hb d_Tp_readLine_42 (by decide +kernel) ?_
        refine lv_icmp_ne (tgt := 51) hx hb d_Tp_readLine_44 (by decide) (fun _ => ?_) (fun h => absurd h (by decide +kernel))
        refine lv_iconst (v := 0) hx hb d_Tp_readLine_51 (by decide +kernel) ?_
        refine lv_istore_n (lv' := [(3, .int 0), (2, .int 7), (0, .ref q0), (1, .ref pq_0)]) hx hb d_Tp_readLine_52 rfl hl (by decide) rfl (fun ls hl => ?_)
        refine lv_iload_n hx hb d_Tp_readLine_53 rfl (lv_at hl 1 rfl) ?_
        refine lv_if_eq (tgt := 62) hx hb d_Tp_readLine_54 (by decide) (fun h => absurd h (by decide +kernel)) (fun _ => ?_)
        refine lv_iload_n hx hb d_Tp_readLine_57 rfl (lv_at hl 1 rfl) ?_
        refine lv_iconst (v := 1) hx hb d_Tp_readLine_58 (by decide +kernel) ?_
        refine lv_icmp_ne (tgt := 66) hx hb d_Tp_readLine_59 (by decide) (fun _ => ?_) (fun h => absurd h (by decide +kernel))
        refine lv_iconst (v := 0) hx hb d_Tp_readLine_66 (by decide +kernel) ?_
        refine lv_istore (lv' := [(4, .int 0), (3, .int 0), (2, .int 7), (0, .ref q0), (1, .ref pq_0)]) hx hb d_Tp_readLine_67 hl (by decide) rfl (fun ls hl => ?_)
        refine lv_aload_n hx hb d_Tp_readLine_69 rfl (lv_at hl 3 rfl) ?_
        have hFc := hb_free hD hS hA
        refine va_callv (va_runV (As := []) (rest := []) ⟨hx, hb, hml, hown, htb⟩ (c_Tp_step_w l dC dI ct L f hO_0 q0 m0 _ _ hQ) (cwV 0 htb (gd_V tw_273 tw_274 tw_275 tw_177 tw_272) rfl rfl rfl (by decide +kernel) ⟨Nat.le_of_ble_eq_true rfl, Nat.le_of_ble_eq_true rfl⟩) ⟨pc_blind, tw_recv hK hP m0 rfl rfl, pc_pre hP hK hD hN⟩ rfl rfl hl.1 rfl (lv_room (Nat.le_of_ble_eq_true rfl)) d_Tp_readLine_70 ⟨Nat.le_of_ble_eq_true rfl, Nat.le_of_ble_eq_true rfl⟩) hS (fun q _ h => hFc q h) hFc (fun u t H locs ht hvm er hB hz1 hk1 hS => ?_)
        obtain ⟨L_1, f_1⟩ := u
        obtain ⟨hO_1, hE_1, er, hQ⟩ := er
        obtain ⟨hP, hK1, hD1⟩ := hB
        rw [ht] at hP
        have hP : va_P (dC, dI) vwCl (TW ct L_1 f_1) H := hP
        have hD : va_D A (TW ct L_1 f_1) := hD1.weaken (fun _ q _ h => hFc q.1 h)
        have hO_1 : Ok L_1 f_1 := hO_1
        have hE_1 : Ext W_Tp_step_w L f L_1 f_1 := hE_1
        clear hK1 hD1 ht hvm hz1 hk1
        have hA_1 := hA_0.trans hE_1
        have hQ := hQ hO_1 hE_1
        clear er
        refine lv_aload_n hx hb d_Tp_readLine_73 rfl (lv_at hl 3 rfl) ?_
        refine tw_geti (D := (dC, dI)) (C := R_Tp) (T := F_Tp) (N := 6) (ci := 4) (kd := 10) (ct := ct) hx hb htb i_Tp hown hK hP hO_1 (hA_1.m m0) rfl rfl 5 (by decide) (htb (.fieldLink R_Tp 48 "WaterMen$Tape" "value" "I") tw_256) (fun _ h9 => h9) rfl d_Tp_readLine_74 (fun x_79 e_79 b_79 => ?_)
        have hQ := hQ x_79 e_79
        refine lv_istore (lv' := [(5, .int x_79), (4, .int 0), (3, .int 0), (2, .int 7), (0, .ref q0), (1, .ref pq_0)]) hx hb d_Tp_readLine_77 hl (by decide) rfl (fun ls hl => ?_)
        refine lv_aload_n hx hb d_Tp_readLine_79 rfl (lv_at hl 4 rfl) ?_
        have hFc := hb_free hD hS hA
        refine va_calli (va_runV (As := []) (rest := []) ⟨hx, hb, hml, hown, htb⟩ (c_Tp_stepOverNumber_w l dC dI ct L_1 f_1 hO_1 q0 (hA_1.m m0) _ _ hQ) (cwV 0 htb (gd_V tw_297 tw_298 tw_299 tw_177 tw_296) rfl rfl rfl (by decide +kernel) ⟨Nat.le_of_ble_eq_true rfl, Nat.le_of_ble_eq_true rfl⟩) ⟨pc_blind, tw_recv hK hP (hA_1.m m0) rfl rfl, pc_pre hP hK hD hN⟩ rfl rfl hl.1 rfl (lv_room (Nat.le_of_ble_eq_true rfl)) d_Tp_readLine_80 ⟨Nat.le_of_ble_eq_true rfl, Nat.le_of_ble_eq_true rfl⟩) hS (fun q _ h => hFc q h) hFc (fun r_80 u t H locs ht hvm er hB hz1 hk1 hS => ?_)
        obtain ⟨L_2, f_2⟩ := u
        obtain ⟨hO_2, hE_2, er, hQ⟩ := er
        obtain ⟨hP, hK1, hD1⟩ := hB
        rw [ht] at hP
        have hP : va_P (dC, dI) vwCl (TW ct L_2 f_2) H := hP
        have hD : va_D A (TW ct L_2 f_2) := hD1.weaken (fun _ q _ h => hFc q.1 h)
        have hO_2 : Ok L_2 f_2 := hO_2
        have hE_2 : Ext W_Tp_stepOverNumber_w L_1 f_1 L_2 f_2 := hE_2
        clear hK1 hD1 ht hvm hz1 hk1
        have hA_2 := hA_1.trans hE_2
        have hQ := hQ hO_2 hE_2
        rcases er with ⟨rfl, -⟩ | ⟨rfl, -⟩
        · have hQ := hQ.1 rfl
          refine lv_if_ne (tgt := 88) hx hb d_Tp_readLine_83 (by decide) (fun h => absurd (by decide +kernel) h) (fun _ => ?_)
          refine lv_iconst (v := 0) hx hb d_Tp_readLine_86 (by decide +kernel) ?_
          refine W.widen (k := 0) (n := 0) (Nat.le_of_ble_eq_true rfl) (Nat.le_of_ble_eq_true rfl) ?_
          exact W.zret (v := 0) hx hb hr (by decide +kernel) (fun t ht hW => ⟨⟨0, (L_2, f_2), rfl, ⟨hO_2, hA_2.mono (by decide +kernel), (Or.inl ⟨rfl, trivial⟩), hQ⟩, by rw [ht]; exact hP, va_K.moved hW.alike hK, by rw [hAe]; exact hD⟩, by rw [hAe]; exact hS.F ht⟩) (by rw [hAe]; exact hS.2.2) d_Tp_readLine_87
        · have hQ := hQ.2 rfl
          refine lv_if_ne (tgt := 88) hx hb d_Tp_readLine_83 (by decide) (fun _ => ?_) (fun h => absurd h (by decide +kernel))
          refine lv_iconst (v := 0) hx hb d_Tp_readLine_88 (by decide +kernel) ?_
          refine lv_istore (lv' := [(6, .int 0), (5, .int x_79), (4, .int 0), (3, .int 0), (2, .int 7), (0, .ref q0), (1, .ref pq_0)]) hx hb d_Tp_readLine_89 hl (by decide) rfl (fun ls hl => ?_)
          refine lv_iload_n hx hb d_Tp_readLine_91 rfl (lv_at hl 3 rfl) ?_
          refine lv_if_eq (tgt := 121) hx hb d_Tp_readLine_92 (by decide) (fun _ => ?_) (fun h => absurd (by decide +kernel) h)
          refine lv_iconst (v := 0) hx hb d_Tp_readLine_121 (by decide +kernel) ?_
          refine lv_istore (lv' := [(7, .int 0), (6, .int 0), (5, .int x_79), (4, .int 0), (3, .int 0), (2, .int 7), (0, .ref q0), (1, .ref pq_0)]) hx hb d_Tp_readLine_122 hl (by decide) rfl (fun ls hl => ?_)
          refine lv_iload hx hb d_Tp_readLine_124 (lv_at hl 3 rfl) ?_
          refine lv_if_eq (tgt := 155) hx hb d_Tp_readLine_126 (by decide) (fun _ => ?_) (fun h => absurd (by decide +kernel) h)
          refine lv_aload_n hx hb d_Tp_readLine_155 rfl (lv_at hl 6 rfl) ?_
          refine tw_geti (D := (dC, dI)) (C := R_Tp) (T := F_Tp) (N := 6) (ci := 4) (kd := 10) (ct := ct) hx hb htb i_Tp hown hK hP hO_2 (hA_2.m m0) rfl rfl 2 (by decide) (htb (.fieldLink R_Tp 37 "WaterMen$Tape" "sort" "I") tw_257) (fun _ h9 => h9) rfl d_Tp_readLine_156 (fun x_81 e_81 b_81 => ?_)
          have hQ := hQ x_81 e_81
          refine lv_iconst (v := 3) hx hb d_Tp_readLine_159 (by decide +kernel) ?_
          refine lv_icmp_eq (tgt := 165) hx hb d_Tp_readLine_160 (by decide) (fun c_82 => ?_) (fun c_82 => ?_)
          · have hQ := hQ.1 c_82
            refine lv_aload_n hx hb d_Tp_readLine_165 rfl (lv_at hl 7 rfl) ?_
            refine lv_iload_n hx hb d_Tp_readLine_166 rfl (lv_at hl 5 rfl) ?_
            refine lv_iload hx hb d_Tp_readLine_167 (lv_at hl 2 rfl) ?_
            refine lv_iload hx hb d_Tp_readLine_169 (lv_at hl 1 rfl) ?_
            refine lv_iload hx hb d_Tp_readLine_171 (lv_at hl 0 rfl) ?_
            have hFc := hb_free hD hS hA
            refine va_callv (va_runV (As := [.int 7, .int x_79, .int 0, .int 0]) (rest := []) ⟨hx, hb, hml, hown, htb⟩ (c_Or_addLine_7_w l dC dI ct L_2 f_2 hO_2 pq_0 (hA_2.m pm_0) _ x_79 (0 : Int32) (0 : Int32) _ hQ) (cwV 4 htb (gd_V tw_309 tw_310 tw_311 tw_250 tw_308) rfl rfl rfl (by decide +kernel) ⟨Nat.le_of_ble_eq_true rfl, Nat.le_of_ble_eq_true rfl⟩) ⟨pc_blind, tw_recv hK hP (hA_2.m pm_0) rfl rfl, pc_pre hP hK hD hN⟩ rfl rfl hl.1 rfl (lv_room (Nat.le_of_ble_eq_true rfl)) d_Tp_readLine_173 ⟨Nat.le_of_ble_eq_true rfl, Nat.le_of_ble_eq_true rfl⟩) hS (fun q _ h => hFc q h) hFc (fun u t H locs ht hvm er hB hz1 hk1 hS => ?_)
            obtain ⟨L_3, f_3⟩ := u
            obtain ⟨hO_3, hE_3, er, hQ⟩ := er
            obtain ⟨hP, hK1, hD1⟩ := hB
            rw [ht] at hP
            have hP : va_P (dC, dI) vwCl (TW ct L_3 f_3) H := hP
            have hD : va_D A (TW ct L_3 f_3) := hD1.weaken (fun _ q _ h => hFc q.1 h)
            have hO_3 : Ok L_3 f_3 := hO_3
            have hE_3 : Ext W_Or_addLine_7_w L_2 f_2 L_3 f_3 := hE_3
            clear hK1 hD1 ht hvm hz1 hk1
            have hA_3 := hA_2.trans hE_3
            have hQ := hQ hO_3 hE_3
            clear er
            refine lv_aload_n hx hb d_Tp_readLine_176 rfl (lv_at hl 6 rfl) ?_
            have hFc := hb_free hD hS hA
            refine va_callv (va_runV (As := []) (rest := []) ⟨hx, hb, hml, hown, htb⟩ (c_Tp_step_w l dC dI ct L_3 f_3 hO_3 q0 (hA_3.m m0) _ _ hQ) (cwV 0 htb (gd_V tw_273 tw_274 tw_275 tw_177 tw_272) rfl rfl rfl (by decide +kernel) ⟨Nat.le_of_ble_eq_true rfl, Nat.le_of_ble_eq_true rfl⟩) ⟨pc_blind, tw_recv hK hP (hA_3.m m0) rfl rfl, pc_pre hP hK hD hN⟩ rfl rfl hl.1 rfl (lv_room (Nat.le_of_ble_eq_true rfl)) d_Tp_readLine_177 ⟨Nat.le_of_ble_eq_true rfl, Nat.le_of_ble_eq_true rfl⟩) hS (fun q _ h => hFc q h) hFc (fun u t H locs ht hvm er hB hz1 hk1 hS => ?_)
            obtain ⟨L_4, f_4⟩ := u
            obtain ⟨hO_4, hE_4, er, hQ⟩ := er
            obtain ⟨hP, hK1, hD1⟩ := hB
            rw [ht] at hP
            have hP : va_P (dC, dI) vwCl (TW ct L_4 f_4) H := hP
            have hD : va_D A (TW ct L_4 f_4) := hD1.weaken (fun _ q _ h => hFc q.1 h)
            have hO_4 : Ok L_4 f_4 := hO_4
            have hE_4 : Ext W_Tp_step_w L_3 f_3 L_4 f_4 := hE_4
            clear hK1 hD1 ht hvm hz1 hk1
            have hA_4 := hA_3.trans hE_4
            have hQ := hQ hO_4 hE_4
            clear er
            refine lv_iconst (v := 1) hx hb d_Tp_readLine_180 (by decide +kernel) ?_
            refine W.widen (k := 0) (n := 0) (Nat.le_of_ble_eq_true rfl) (Nat.le_of_ble_eq_true rfl) ?_
            exact W.zret (v := 1) hx hb hr (by decide +kernel) (fun t ht hW => ⟨⟨1, (L_4, f_4), rfl, ⟨hO_4, hA_4.mono (by decide +kernel), (Or.inr ⟨rfl, trivial⟩), hQ⟩, by rw [ht]; exact hP, va_K.moved hW.alike hK, by rw [hAe]; exact hD⟩, by rw [hAe]; exact hS.F ht⟩) (by rw [hAe]; exact hS.2.2) d_Tp_readLine_181
          · have hQ := hQ.2 c_82
            refine lv_iconst (v := 0) hx hb d_Tp_readLine_163 (by decide +kernel) ?_
            refine W.widen (k := 0) (n := 0) (Nat.le_of_ble_eq_true rfl) (Nat.le_of_ble_eq_true rfl) ?_
            exact W.zret (v := 0) hx hb hr (by decide +kernel) (fun t ht hW => ⟨⟨0, (L_2, f_2), rfl, ⟨hO_2, hA_2.mono (by decide +kernel), (Or.inl ⟨rfl, trivial⟩), hQ⟩, by rw [ht]; exact hP, va_K.moved hW.alike hK, by rw [hAe]; exact hD⟩, by rw [hAe]; exact hS.F ht⟩) (by rw [hAe]; exact hS.2.2) d_Tp_readLine_164
    · have hQ := hQ.2.2.2.2.2.2.2.2.2 rfl
      refine lv_goto (tgt := 16) hx hb d_Tp_readLine_12 (by decide) ?_
      refine lv_istore_n (lv' := [(2, .int 8), (0, .ref q0), (1, .ref pq_0)]) hx hb d_Tp_readLine_16 rfl hl (by decide) rfl (fun ls hl => ?_)
      refine lv_iload_n hx hb d_Tp_readLine_17 rfl (lv_at hl 0 rfl) ?_
      refine lv_iconst (v := (-1)) hx hb d_Tp_readLine_18 (by decide +kernel) ?_
      refine lv_icmp_eq (tgt := 30) hx hb d_Tp_readLine_19 (by decide) (fun h => absurd h (by decide +kernel)) (fun _ => ?_)
      refine lv_aload_n hx hb d_Tp_readLine_22 rfl (lv_at hl 2 rfl) ?_
      refine lv_iload_n hx hb d_Tp_readLine_23 rfl (lv_at hl 0 rfl) ?_
      refine vp_callSi (va_Run.run (va_runV (As := [.int 8]) (rest := []) ⟨hx, hb, hml, hown, htb⟩ (c_Or_takesLine_8_w l dC dI ct L f hO_0 pq_0 pm_0 _ hQ) (cwV 1 htb (gd_V tw_293 tw_294 tw_295 tw_250 tw_292) rfl rfl rfl (by decide +kernel) ⟨Nat.le_of_ble_eq_true rfl, Nat.le_of_ble_eq_true rfl⟩) ⟨pr_blind, tw_recv hK hP pm_0 rfl rfl, pr_pre hP hK hN⟩ rfl rfl hl.1 rfl (lv_room (Nat.le_of_ble_eq_true rfl)) d_Tp_readLine_24 ⟨Nat.le_of_ble_eq_true rfl, Nat.le_of_ble_eq_true rfl⟩)) (fun r_85 er_85 => ?_)
      obtain ⟨er_85, hQ⟩ := er_85
      rcases er_85 with ⟨rfl, -⟩ | ⟨rfl, -⟩
      · have hQ := hQ.1 rfl
        refine lv_if_ne (tgt := 32) hx hb d_Tp_readLine_27 (by decide) (fun h => absurd (by decide +kernel) h) (fun _ => ?_)
        refine lv_iconst (v := 0) hx hb d_Tp_readLine_30 (by decide +kernel) ?_
        refine W.widen (k := 0) (n := 0) (Nat.le_of_ble_eq_true rfl) (Nat.le_of_ble_eq_true rfl) ?_
        exact W.zret (v := 0) hx hb hr (by decide +kernel) (fun t ht hW => ⟨⟨0, (L, f), rfl, ⟨hO_0, hA_0.mono (by decide +kernel), (Or.inl ⟨rfl, trivial⟩), hQ⟩, by rw [ht]; exact hP, va_K.moved hW.alike hK, by rw [hAe]; exact hD⟩, by rw [hAe]; exact hS.F ht⟩) (by rw [hAe]; exact hS.2.2) d_Tp_readLine_31
      · have hQ := hQ.2 rfl
        refine lv_if_ne (tgt := 32) hx hb d_Tp_readLine_27 (by decide) (fun _ => ?_) (fun h => absurd h (by decide +kernel))
        refine lv_iload_n hx hb d_Tp_readLine_32 rfl (lv_at hl 0 rfl) ?_
        refine lv_if_eq (tgt := 47) hx hb d_Tp_readLine_33 (by decide) (fun h => absurd h (by decide +kernel)) (fun _ => ?_)
        refine lv_iload_n hx hb d_Tp_readLine_36 rfl (lv_at hl 0 rfl) ?_
        refine lv_iconst (v := 1) hx hb d_Tp_readLine_37 (by decide +kernel) ?_
        refine lv_icmp_eq (tgt := 47) hx hb d_Tp_readLine_38 (by decide) (fun h => absurd h (by decide +kernel)) (fun _ => ?_)
        refine lv_iload_n hx hb d_Tp_readLine_41 rfl (lv_at hl 0 rfl) ?_
        refine lv_bipush (v := 6) hx hb d_Tp_readLine_42 (by decide +kernel) ?_
        refine lv_icmp_ne (tgt := 51) hx hb d_Tp_readLine_44 (by decide) (fun _ => ?_) (fun h => absurd h (by decide +kernel))
        refine lv_iconst (v := 0) hx hb d_Tp_readLine_51 (by decide +kernel) ?_
        refine lv_istore_n (lv' := [(3, .int 0), (2, .int 8), (0, .ref q0), (1, .ref pq_0)]) hx hb d_Tp_readLine_52 rfl hl (by decide) rfl (fun ls hl => ?_)
        refine lv_iload_n hx hb d_Tp_readLine_53 rfl (lv_at hl 1 rfl) ?_
        refine lv_if_eq (tgt := 62) hx hb d_Tp_readLine_54 (by decide) (fun h => absurd h (by decide +kernel)) (fun _ => ?_)
        refine lv_iload_n hx hb d_Tp_readLine_57 rfl (lv_at hl 1 rfl) ?_
        refine lv_iconst (v := 1) hx hb d_Tp_readLine_58 (by decide +kernel) ?_
        refine lv_icmp_ne (tgt := 66) hx hb d_Tp_readLine_59 (by decide) (fun _ => ?_) (fun h => absurd h (by decide +kernel))
        refine lv_iconst (v := 0) hx hb d_Tp_readLine_66 (by decide +kernel) ?_
        refine lv_istore (lv' := [(4, .int 0), (3, .int 0), (2, .int 8), (0, .ref q0), (1, .ref pq_0)]) hx hb d_Tp_readLine_67 hl (by decide) rfl (fun ls hl => ?_)
        refine lv_aload_n hx hb d_Tp_readLine_69 rfl (lv_at hl 3 rfl) ?_
        have hFc := hb_free hD hS hA
        refine va_callv (va_runV (As := []) (rest := []) ⟨hx, hb, hml, hown, htb⟩ (c_Tp_step_w l dC dI ct L f hO_0 q0 m0 _ _ hQ) (cwV 0 htb (gd_V tw_273 tw_274 tw_275 tw_177 tw_272) rfl rfl rfl (by decide +kernel) ⟨Nat.le_of_ble_eq_true rfl, Nat.le_of_ble_eq_true rfl⟩) ⟨pc_blind, tw_recv hK hP m0 rfl rfl, pc_pre hP hK hD hN⟩ rfl rfl hl.1 rfl (lv_room (Nat.le_of_ble_eq_true rfl)) d_Tp_readLine_70 ⟨Nat.le_of_ble_eq_true rfl, Nat.le_of_ble_eq_true rfl⟩) hS (fun q _ h => hFc q h) hFc (fun u t H locs ht hvm er hB hz1 hk1 hS => ?_)
        obtain ⟨L_1, f_1⟩ := u
        obtain ⟨hO_1, hE_1, er, hQ⟩ := er
        obtain ⟨hP, hK1, hD1⟩ := hB
        rw [ht] at hP
        have hP : va_P (dC, dI) vwCl (TW ct L_1 f_1) H := hP
        have hD : va_D A (TW ct L_1 f_1) := hD1.weaken (fun _ q _ h => hFc q.1 h)
        have hO_1 : Ok L_1 f_1 := hO_1
        have hE_1 : Ext W_Tp_step_w L f L_1 f_1 := hE_1
        clear hK1 hD1 ht hvm hz1 hk1
        have hA_1 := hA_0.trans hE_1
        have hQ := hQ hO_1 hE_1
        clear er
        refine lv_aload_n hx hb d_Tp_readLine_73 rfl (lv_at hl 3 rfl) ?_
        refine tw_geti (D := (dC, dI)) (C := R_Tp) (T := F_Tp) (N := 6) (ci := 4) (kd := 10) (ct := ct) hx hb htb i_Tp hown hK hP hO_1 (hA_1.m m0) rfl rfl 5 (by decide) (htb (.fieldLink R_Tp 48 "WaterMen$Tape" "value" "I") tw_256) (fun _ h9 => h9) rfl d_Tp_readLine_74 (fun x_87 e_87 b_87 => ?_)
        have hQ := hQ x_87 e_87
        refine lv_istore (lv' := [(5, .int x_87), (4, .int 0), (3, .int 0), (2, .int 8), (0, .ref q0), (1, .ref pq_0)]) hx hb d_Tp_readLine_77 hl (by decide) rfl (fun ls hl => ?_)
        refine lv_aload_n hx hb d_Tp_readLine_79 rfl (lv_at hl 4 rfl) ?_
        have hFc := hb_free hD hS hA
        refine va_calli (va_runV (As := []) (rest := []) ⟨hx, hb, hml, hown, htb⟩ (c_Tp_stepOverNumber_w l dC dI ct L_1 f_1 hO_1 q0 (hA_1.m m0) _ _ hQ) (cwV 0 htb (gd_V tw_297 tw_298 tw_299 tw_177 tw_296) rfl rfl rfl (by decide +kernel) ⟨Nat.le_of_ble_eq_true rfl, Nat.le_of_ble_eq_true rfl⟩) ⟨pc_blind, tw_recv hK hP (hA_1.m m0) rfl rfl, pc_pre hP hK hD hN⟩ rfl rfl hl.1 rfl (lv_room (Nat.le_of_ble_eq_true rfl)) d_Tp_readLine_80 ⟨Nat.le_of_ble_eq_true rfl, Nat.le_of_ble_eq_true rfl⟩) hS (fun q _ h => hFc q h) hFc (fun r_88 u t H locs ht hvm er hB hz1 hk1 hS => ?_)
        obtain ⟨L_2, f_2⟩ := u
        obtain ⟨hO_2, hE_2, er, hQ⟩ := er
        obtain ⟨hP, hK1, hD1⟩ := hB
        rw [ht] at hP
        have hP : va_P (dC, dI) vwCl (TW ct L_2 f_2) H := hP
        have hD : va_D A (TW ct L_2 f_2) := hD1.weaken (fun _ q _ h => hFc q.1 h)
        have hO_2 : Ok L_2 f_2 := hO_2
        have hE_2 : Ext W_Tp_stepOverNumber_w L_1 f_1 L_2 f_2 := hE_2
        clear hK1 hD1 ht hvm hz1 hk1
        have hA_2 := hA_1.trans hE_2
        have hQ := hQ hO_2 hE_2
        rcases er with ⟨rfl, -⟩ | ⟨rfl, -⟩
        · have hQ := hQ.1 rfl
          refine lv_if_ne (tgt := 88) hx hb d_Tp_readLine_83 (by decide) (fun h => absurd (by decide +kernel) h) (fun _ => ?_)
          refine lv_iconst (v := 0) hx hb d_Tp_readLine_86 (by decide +kernel) ?_
          refine W.widen (k := 0) (n := 0) (Nat.le_of_ble_eq_true rfl) (Nat.le_of_ble_eq_true rfl) ?_
          exact W.zret (v := 0) hx hb hr (by decide +kernel) (fun t ht hW => ⟨⟨0, (L_2, f_2), rfl, ⟨hO_2, hA_2.mono (by decide +kernel), (Or.inl ⟨rfl, trivial⟩), hQ⟩, by rw [ht]; exact hP, va_K.moved hW.alike hK, by rw [hAe]; exact hD⟩, by rw [hAe]; exact hS.F ht⟩) (by rw [hAe]; exact hS.2.2) d_Tp_readLine_87
        · have hQ := hQ.2 rfl
          refine lv_if_ne (tgt := 88) hx hb d_Tp_readLine_83 (by decide) (fun _ => ?_) (fun h => absurd h (by decide +kernel))
          refine lv_iconst (v := 0) hx hb d_Tp_readLine_88 (by decide +kernel) ?_
          refine lv_istore (lv' := [(6, .int 0), (5, .int x_87), (4, .int 0), (3, .int 0), (2, .int 8), (0, .ref q0), (1, .ref pq_0)]) hx hb d_Tp_readLine_89 hl (by decide) rfl (fun ls hl => ?_)
          refine lv_iload_n hx hb d_Tp_readLine_91 rfl (lv_at hl 3 rfl) ?_
          refine lv_if_eq (tgt := 121) hx hb d_Tp_readLine_92 (by decide) (fun _ => ?_) (fun h => absurd (by decide +kernel) h)
          refine lv_iconst (v := 0) hx hb d_Tp_readLine_121 (by decide +kernel) ?_
          refine lv_istore (lv' := [(7, .int 0), (6, .int 0), (5, .int x_87), (4, .int 0), (3, .int 0), (2, .int 8), (0, .ref q0), (1, .ref pq_0)]) hx hb d_Tp_readLine_122 hl (by decide) rfl (fun ls hl => ?_)
          refine lv_iload hx hb d_Tp_readLine_124 (lv_at hl 3 rfl) ?_
          refine lv_if_eq (tgt := 155) hx hb d_Tp_readLine_126 (by decide) (fun _ => ?_) (fun h => absurd (by decide +kernel) h)
          refine lv_aload_n hx hb d_Tp_readLine_155 rfl (lv_at hl 6 rfl) ?_
          refine tw_geti (D := (dC, dI)) (C := R_Tp) (T := F_Tp) (N := 6) (ci := 4) (kd := 10) (ct := ct) hx hb htb i_Tp hown hK hP hO_2 (hA_2.m m0) rfl rfl 2 (by decide) (htb (.fieldLink R_Tp 37 "WaterMen$Tape" "sort" "I") tw_257) (fun _ h9 => h9) rfl d_Tp_readLine_156 (fun x_89 e_89 b_89 => ?_)
          have hQ := hQ x_89 e_89
          refine lv_iconst (v := 3) hx hb d_Tp_readLine_159 (by decide +kernel) ?_
          refine lv_icmp_eq (tgt := 165) hx hb d_Tp_readLine_160 (by decide) (fun c_90 => ?_) (fun c_90 => ?_)
          · have hQ := hQ.1 c_90
            refine lv_aload_n hx hb d_Tp_readLine_165 rfl (lv_at hl 7 rfl) ?_
            refine lv_iload_n hx hb d_Tp_readLine_166 rfl (lv_at hl 5 rfl) ?_
            refine lv_iload hx hb d_Tp_readLine_167 (lv_at hl 2 rfl) ?_
            refine lv_iload hx hb d_Tp_readLine_169 (lv_at hl 1 rfl) ?_
            refine lv_iload hx hb d_Tp_readLine_171 (lv_at hl 0 rfl) ?_
            have hFc := hb_free hD hS hA
            refine va_callv (va_runV (As := [.int 8, .int x_87, .int 0, .int 0]) (rest := []) ⟨hx, hb, hml, hown, htb⟩ (c_Or_addLine_8_w l dC dI ct L_2 f_2 hO_2 pq_0 (hA_2.m pm_0) _ x_87 (0 : Int32) (0 : Int32) _ hQ) (cwV 4 htb (gd_V tw_309 tw_310 tw_311 tw_250 tw_308) rfl rfl rfl (by decide +kernel) ⟨Nat.le_of_ble_eq_true rfl, Nat.le_of_ble_eq_true rfl⟩) ⟨pc_blind, tw_recv hK hP (hA_2.m pm_0) rfl rfl, pc_pre hP hK hD hN⟩ rfl rfl hl.1 rfl (lv_room (Nat.le_of_ble_eq_true rfl)) d_Tp_readLine_173 ⟨Nat.le_of_ble_eq_true rfl, Nat.le_of_ble_eq_true rfl⟩) hS (fun q _ h => hFc q h) hFc (fun u t H locs ht hvm er hB hz1 hk1 hS => ?_)
            obtain ⟨L_3, f_3⟩ := u
            obtain ⟨hO_3, hE_3, er, hQ⟩ := er
            obtain ⟨hP, hK1, hD1⟩ := hB
            rw [ht] at hP
            have hP : va_P (dC, dI) vwCl (TW ct L_3 f_3) H := hP
            have hD : va_D A (TW ct L_3 f_3) := hD1.weaken (fun _ q _ h => hFc q.1 h)
            have hO_3 : Ok L_3 f_3 := hO_3
            have hE_3 : Ext W_Or_addLine_8_w L_2 f_2 L_3 f_3 := hE_3
            clear hK1 hD1 ht hvm hz1 hk1
            have hA_3 := hA_2.trans hE_3
            have hQ := hQ hO_3 hE_3
            clear er
            refine lv_aload_n hx hb d_Tp_readLine_176 rfl (lv_at hl 6 rfl) ?_
            have hFc := hb_free hD hS hA
            refine va_callv (va_runV (As := []) (rest := []) ⟨hx, hb, hml, hown, htb⟩ (c_Tp_step_w l dC dI ct L_3 f_3 hO_3 q0 (hA_3.m m0) _ _ hQ) (cwV 0 htb (gd_V tw_273 tw_274 tw_275 tw_177 tw_272) rfl rfl rfl (by decide +kernel) ⟨Nat.le_of_ble_eq_true rfl, Nat.le_of_ble_eq_true rfl⟩) ⟨pc_blind, tw_recv hK hP (hA_3.m m0) rfl rfl, pc_pre hP hK hD hN⟩ rfl rfl hl.1 rfl (lv_room (Nat.le_of_ble_eq_true rfl)) d_Tp_readLine_177 ⟨Nat.le_of_ble_eq_true rfl, Nat.le_of_ble_eq_true rfl⟩) hS (fun q _ h => hFc q h) hFc (fun u t H locs ht hvm er hB hz1 hk1 hS => ?_)
            obtain ⟨L_4, f_4⟩ := u
            obtain ⟨hO_4, hE_4, er, hQ⟩ := er
            obtain ⟨hP, hK1, hD1⟩ := hB
            rw [ht] at hP
            have hP : va_P (dC, dI) vwCl (TW ct L_4 f_4) H := hP
            have hD : va_D A (TW ct L_4 f_4) := hD1.weaken (fun _ q _ h => hFc q.1 h)
            have hO_4 : Ok L_4 f_4 := hO_4
            have hE_4 : Ext W_Tp_step_w L_3 f_3 L_4 f_4 := hE_4
            clear hK1 hD1 ht hvm hz1 hk1
            have hA_4 := hA_3.trans hE_4
            have hQ := hQ hO_4 hE_4
            clear er
            refine lv_iconst (v := 1) hx hb d_Tp_readLine_180 (by decide +kernel) ?_
            refine W.widen (k := 0) (n := 0) (Nat.le_of_ble_eq_true rfl) (Nat.le_of_ble_eq_true rfl) ?_
            exact W.zret (v := 1) hx hb hr (by decide +kernel) (fun t ht hW => ⟨⟨1, (L_4, f_4), rfl, ⟨hO_4, hA_4.mono (by decide +kernel), (Or.inr ⟨rfl, trivial⟩), hQ⟩, by rw [ht]; exact hP, va_K.moved hW.alike hK, by rw [hAe]; exact hD⟩, by rw [hAe]; exact hS.F ht⟩) (by rw [hAe]; exact hS.2.2) d_Tp_readLine_181
          · have hQ := hQ.2 c_90
            refine lv_iconst (v := 0) hx hb d_Tp_readLine_163 (by decide +kernel) ?_
            refine W.widen (k := 0) (n := 0) (Nat.le_of_ble_eq_true rfl) (Nat.le_of_ble_eq_true rfl) ?_
            exact W.zret (v := 0) hx hb hr (by decide +kernel) (fun t ht hW => ⟨⟨0, (L_2, f_2), rfl, ⟨hO_2, hA_2.mono (by decide +kernel), (Or.inl ⟨rfl, trivial⟩), hQ⟩, by rw [ht]; exact hP, va_K.moved hW.alike hK, by rw [hAe]; exact hD⟩, by rw [hAe]; exact hS.F ht⟩) (by rw [hAe]; exact hS.2.2) d_Tp_readLine_164
