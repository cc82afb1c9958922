def wp_Or_takesLine_1_w (L : List Nat) (f : TF) (q0 : Nat) (Q : Int32 → Prop) : Prop := ((12 ≤ (ti f q0 6) → Q 0) ∧ (¬ (12 ≤ (ti f q0 6)) → Q 1))
set_option maxHeartbeats 4000000 in
set_option maxRecDepth 100000 in
theorem c_Or_takesLine_1_w (l : Launch) (dC : Nat → ClassId) (dI : Nat → Nat → Nat) (ct : Nat → ClassId) (L : List Nat) (f : TF) (hO_0 : Ok L f) (q0 : Nat) (m0 : q0 ∈ L ∧ tk f q0 = 15)    (Q : Int32 → Prop) (hQ : wp_Or_takesLine_1_w L f q0 Q) : Met l y_Or_takesLine (.code y_Or_takesLine b_Or_takesLine 2 (some .boolean) :: TB) ({ frames := 0, cells := 0, slots := 0, locals := 0 }) (va_Pc [.ref q0, .int 1] (PR dC dI (TW ct L f) (TT ct))) (vp_Si (fun r => ((r = 0 ∧ True) ∨ (r = 1 ∧ ¬ (11 < (ti f q0 6)) ∧ True)) ∧ Q r)) 0 0 (fun _ => False) := by
  refine Met.ofW (cc := b_Or_takesLine) (maxL := 2) (ret := (some .boolean)) (by decide) rfl ?_
  intro p e s m args below meth c s₁ B hml hv
  obtain ⟨rfl, hP, hK, hN⟩ := hv
  have hx := B.exec
  have hb := B.bytes
  have hr := B.returns
  have hts := atoms_spec (ws := (.code y_Or_takesLine b_Or_takesLine 2 (some .boolean) :: TB)) B.pre
  have htb := fun w (h : w ∈ TB) => hts w (List.mem_cons_of_mem _ h)
  have hown : s.vm.findClass R_Or = some m.cls := findClass_of_methodNamed B.named
  have hlocks := B.notSynchronized
  have hl := lv_entry ([.ref q0, .int 1]) (n := 2) (Nat.le_of_ble_eq_true rfl)
  rw [lg_entry_eq]
  generalize (lg_sl ([.ref q0, .int 1]) ++ List.replicate (2 - (lg_sl ([.ref q0, .int 1])).length) Slot.unset).toArray = ls at hl ⊢
  have hl : lv_has ls 2 [(0, .ref q0), (1, .int 1)] := hl
  unfold wp_Or_takesLine_1_w at hQ
  have bs_1 := hO_0.i m0 (show slotD 15 5 = some (.inl (0, 12)) from rfl)
  have bs_2 := hO_0.i m0 (show slotD 15 6 = some (.inl (0, 12)) from rfl)
  refine lv_iload_n hx hb d_Or_takesLine_0 rfl (lv_at hl 1 rfl) ?_
  refine lv_if_ne (tgt := 19) hx hb d_Or_takesLine_1 (by decide) (fun _ => ?_) (fun h => absurd h (by decide +kernel))
  refine lv_iload_n hx hb d_Or_takesLine_19 rfl (lv_at hl 1 rfl) ?_
  refine lv_iconst (v := 1) hx hb d_Or_takesLine_20 (by decide +kernel) ?_
  refine lv_icmp_ne (tgt := 39) hx hb d_Or_takesLine_21 (by decide) (fun h => absurd (by decide +kernel) h) (fun _ => ?_)
  refine lv_aload_n hx hb d_Or_takesLine_24 rfl (lv_at hl 0 rfl) ?_
  refine tw_getI (x := (ti f q0 6)) (D := (dC, dI)) (C := R_Or) (T := F_Or) (N := 9) (ci := 3) (kd := 15) (ct := ct) hx hb htb i_Or hown hK hP m0 rfl rfl 6 rfl (by decide) (htb (.fieldLink R_Or 27 "WaterMen$Order" "hourCount" "I") tw_247) (fun _ h9 => h9) rfl d_Or_takesLine_25 ?_
  refine lv_bipush (v := 12) hx hb d_Or_takesLine_28 (by decide +kernel) ?_
  refine lv_icmp_ge (tgt := 37) hx hb d_Or_takesLine_30 (by decide) (fun c_3 => ?_) (fun c_3 => ?_)
  · have hQ := hQ.1 c_3
    refine lv_iconst (v := 0) hx hb d_Or_takesLine_37 (by decide +kernel) ?_
    exact W.zret (v := 0) hx hb hr (by decide +kernel) (fun t ht hW => ⟨0, rfl, ⟨(Or.inl ⟨rfl, trivial⟩), hQ⟩, ht⟩) t_nil d_Or_takesLine_38
  · have hQ := hQ.2 c_3
    refine lv_iconst (v := 1) hx hb d_Or_takesLine_33 (by decide +kernel) ?_
    refine lv_goto (tgt := 38) hx hb d_Or_takesLine_34 (by decide) ?_
    exact W.zret (v := 1) hx hb hr (by decide +kernel) (fun t ht hW => ⟨1, rfl, ⟨(Or.inr ⟨rfl, (show ¬ (11 < (ti f q0 6)) from ((fun (a_0 : Int32) (k_0 : ¬ (12 ≤ a_0)) => (show ¬ (11 < a_0) from by have z0 : (11 : Int32).toInt = 11 := (by decide +kernel); have z1 : (12 : Int32).toInt = 12 := (by decide +kernel); have r0 := fb_rng (a_0); have e0 := k_0; rw [Int32.le_iff_toInt_le, z1] at e0; rw [Int32.lt_iff_toInt_lt, z0]; omega)) (ti f q0 6) c_3)), trivial⟩), hQ⟩, ht⟩) t_nil d_Or_takesLine_38
def W_Or_setLine_k17_w : List (Nat × Nat) := [(17, 1000)]
def wp_Or_setLine_k17_w (L : List Nat) (f : TF) (pq_0 : Nat) (p_1 : Int32) (p_2 : Int32) (p_3 : Int32) (p_4 : Int32) (Q : List Nat → TF → Prop) : Prop := ∀ f_1 : TF, f_1 = sI f pq_0 ((p_1 * 3) : Int32).toNatClampNeg p_2 → Ok L f_1 → ∀ f_2 : TF, f_2 = sI f_1 pq_0 (((p_1 * 3) + 1) : Int32).toNatClampNeg p_3 → Ok L f_2 → ∀ f_3 : TF, f_3 = sI f_2 pq_0 (((p_1 * 3) + 2) : Int32).toNatClampNeg p_4 → Ok L f_3 → Q L f_3
set_option maxHeartbeats 4000000 in
set_option maxRecDepth 100000 in
theorem c_Or_setLine_k17_w (l : Launch) (dC : Nat → ClassId) (dI : Nat → Nat → Nat) (ct : Nat → ClassId) (L : List Nat) (f : TF) (hO_0 : Ok L f) (pq_0 : Nat) (pm_0 : pq_0 ∈ L ∧ tk f pq_0 = 17) (sz : Nat) (p_1 : Int32) (p_2 : Int32) (p_3 : Int32) (p_4 : Int32)  (as_0 : ¬ (p_1 < 0)) (as_1 : ¬ (11 < p_1)) (Q : List Nat → TF → Prop) (hQ : wp_Or_setLine_k17_w L f pq_0 p_1 p_2 p_3 p_4 Q) : Met l y_Or_setLine (.code y_Or_setLine b_Or_setLine 5 none :: TB) ({ frames := 0, cells := 0, slots := 0, locals := 0 }) (va_Pc [.ref pq_0, .int p_1, .int p_2, .int p_3, .int p_4] (PC dC dI (TW ct L f) (TT ct) sz)) (va_Qv (fun (u : TSt) => Ok u.1 u.2 ∧ Ext W_Or_setLine_k17_w L f u.1 u.2 ∧ (True) ∧ Q u.1 u.2) (fun (u : TSt) t => va_P (dC, dI) vwCl (TW ct u.1 u.2) t.heap ∧ va_K (dC, dI) vwCl (TT ct) t ∧ va_D (va_A (TW ct L f) sz) (TW ct u.1 u.2)) (va_A (TW ct L f) sz)) 0 0 (va_A (TW ct L f) sz) := by
  refine Met.ofW (cc := b_Or_setLine) (maxL := 5) (ret := none) (by decide) rfl ?_
  intro p e s m args below meth c s₁ B hml hv
  obtain ⟨rfl, hsz, hP, hK, hD0, hN⟩ := hv
  have hx := B.exec
  have hb := B.bytes
  have hr := B.returns
  have hts := atoms_spec (ws := (.code y_Or_setLine b_Or_setLine 5 none :: TB)) B.pre
  have htb := fun w (h : w ∈ TB) => hts w (List.mem_cons_of_mem _ h)
  have hown : s.vm.findClass R_Or = some m.cls := findClass_of_methodNamed B.named
  have hlocks := B.notSynchronized
  have hl := lv_entry ([.ref pq_0, .int p_1, .int p_2, .int p_3, .int p_4]) (n := 5) (Nat.le_of_ble_eq_true rfl)
  rw [lg_entry_eq]
  generalize (lg_sl ([.ref pq_0, .int p_1, .int p_2, .int p_3, .int p_4]) ++ List.replicate (5 - (lg_sl ([.ref pq_0, .int p_1, .int p_2, .int p_3, .int p_4])).length) Slot.unset).toArray = ls at hl ⊢
  have hl : lv_has ls 5 [(0, .ref pq_0), (1, .int p_1), (2, .int p_2), (3, .int p_3), (4, .int p_4)] := hl
  subst hsz
  have hD := hD0.self (sz := s.heap.size)
  obtain ⟨A, hAe⟩ : ∃ A, va_A (TW ct L f) s.heap.size = A := ⟨_, rfl⟩
  rw [hAe] at hD
  have hA : ∀ q : Nat, s.heap.size ≤ q → A q := fun q h => by rw [← hAe]; exact Or.inr h
  have hS : va_S A s.heap s.heap [] := va_S.rf
  have hA_0 : Ext [] L f L f := Ext.rf
  suffices hGo : ∀ (H : Heap) (locs : List Loc), va_P (dC, dI) vwCl (TW ct L f) H → va_S A s.heap H locs → W p l e (headSpec (.code y_Or_setLine b_Or_setLine 5 none :: TB) ({ frames := 0, cells := 0, slots := 0, locals := 0 })).room s m [.ref pq_0, .int p_1, .int p_2, .int p_3, .int p_4].toArray below meth c H locs 0 0 (MQ below (va_Qv (fun (u : TSt) => Ok u.1 u.2 ∧ Ext W_Or_setLine_k17_w L f u.1 u.2 ∧ (True) ∧ Q u.1 u.2) (fun (u : TSt) t => va_P (dC, dI) vwCl (TW ct u.1 u.2) t.heap ∧ va_K (dC, dI) vwCl (TT ct) t ∧ va_D (va_A (TW ct L f) s.heap.size) (TW ct u.1 u.2)) (va_A (TW ct L f) s.heap.size)) [.ref pq_0, .int p_1, .int p_2, .int p_3, .int p_4].toArray s 0 0 (va_A (TW ct L f) s.heap.size)) (F0 m 0 ls []) from hGo _ _ hP hS
  clear hP hS
  intro H locs hP hS
  unfold wp_Or_setLine_k17_w at hQ
  refine lv_aload_n hx hb d_Or_setLine_0 rfl (lv_at hl 0 rfl) ?_
  refine lv_iload_n hx hb d_Or_setLine_1 rfl (lv_at hl 1 rfl) ?_
  refine lv_iconst (v := 3) hx hb d_Or_setLine_2 (by decide +kernel) ?_
  refine lv_imul hx hb d_Or_setLine_3 ?_
  refine lv_iload_n hx hb d_Or_setLine_4 rfl (lv_at hl 2 rfl) ?_
  refine tw_astI (ct := ct) (x := p_2) hx hb hK hP hD hS hO_0 pm_0 rfl ((fun (a_0 : Int32) (k_0 : ¬ (a_0 < 0)) (k_1 : ¬ (11 < a_0)) => (show vp_in ((a_0 * 3)) 36 from by have z0 : (0 : Int32).toInt = 0 := (by decide +kernel); have z1 : (3 : Int32).toInt = 3 := (by decide +kernel); have z2 : (11 : Int32).toInt = 11 := (by decide +kernel); have r0 := fb_rng (a_0); have e0 := k_0; rw [Int32.lt_iff_toInt_lt, z0] at e0; have e1 := k_1; rw [Int32.lt_iff_toInt_lt, z2] at e1; obtain ⟨n_0, hn_0, s0⟩ := nd_mul (x := (a_0)) (y := (3 : Int32)) (by (try rw [z1]); omega) (by (try rw [z1]); omega); rw [z1] at s0; rw [hn_0, vp_in_iff]; omega)) p_1 as_0 as_1) (i32_full _) d_Or_setLine_5 (fun f_1 H locs hP hD hS hO_1 hE_1 w_1 ow_1 hF_1 => ?_)
  have hA_1 := hA_0.trans hE_1
  have hQ := hQ f_1 hF_1
  have hQ := hQ hO_1
  refine lv_aload_n hx hb d_Or_setLine_6 rfl (lv_at hl 0 rfl) ?_
  refine lv_iload_n hx hb d_Or_setLine_7 rfl (lv_at hl 1 rfl) ?_
  refine lv_iconst (v := 3) hx hb d_Or_setLine_8 (by decide +kernel) ?_
  refine lv_imul hx hb d_Or_setLine_9 ?_
  refine lv_iconst (v := 1) hx hb d_Or_setLine_10 (by decide +kernel) ?_
  refine lv_iadd hx hb d_Or_setLine_11 ?_
  refine lv_iload_n hx hb d_Or_setLine_12 rfl (lv_at hl 3 rfl) ?_
  refine tw_astI (ct := ct) (x := p_3) hx hb hK hP hD hS hO_1 (hA_1.m pm_0) rfl ((fun (a_0 : Int32) (k_0 : ¬ (a_0 < 0)) (k_1 : ¬ (11 < a_0)) => (show vp_in (((a_0 * 3) + 1)) 36 from by have z0 : (0 : Int32).toInt = 0 := (by decide +kernel); have z1 : (1 : Int32).toInt = 1 := (by decide +kernel); have z2 : (3 : Int32).toInt = 3 := (by decide +kernel); have z3 : (11 : Int32).toInt = 11 := (by decide +kernel); have r0 := fb_rng (a_0); have e0 := k_0; rw [Int32.lt_iff_toInt_lt, z0] at e0; have e1 := k_1; rw [Int32.lt_iff_toInt_lt, z3] at e1; obtain ⟨n_0, hn_0, s0⟩ := nd_mul (x := (a_0)) (y := (3 : Int32)) (by (try rw [z2]); omega) (by (try rw [z2]); omega); rw [z2] at s0; obtain ⟨n_1, hn_1, s1⟩ := nd_add (x := n_0) (y := (1 : Int32)) (by (try rw [z1]); omega) (by (try rw [z1]); omega); rw [z1] at s1; rw [hn_0, hn_1, vp_in_iff]; omega)) p_1 as_0 as_1) (i32_full _) d_Or_setLine_13 (fun f_2 H locs hP hD hS hO_2 hE_2 w_2 ow_2 hF_2 => ?_)
  have hA_2 := hA_1.trans hE_2
  have hQ := hQ f_2 hF_2
  have hQ := hQ hO_2
  refine lv_aload_n hx hb d_Or_setLine_14 rfl (lv_at hl 0 rfl) ?_
  refine lv_iload_n hx hb d_Or_setLine_15 rfl (lv_at hl 1 rfl) ?_
  refine lv_iconst (v := 3) hx hb d_Or_setLine_16 (by decide +kernel) ?_
  refine lv_imul hx hb d_Or_setLine_17 ?_
  refine lv_iconst (v := 2) hx hb d_Or_setLine_18 (by decide +kernel) ?_
  refine lv_iadd hx hb d_Or_setLine_19 ?_
  refine lv_iload hx hb d_Or_setLine_20 (lv_at hl 4 rfl) ?_
  refine tw_astI (ct := ct) (x := p_4) hx hb hK hP hD hS hO_2 (hA_2.m pm_0) rfl ((fun (a_0 : Int32) (k_0 : ¬ (a_0 < 0)) (k_1 : ¬ (11 < a_0)) => (show vp_in (((a_0 * 3) + 2)) 36 from by have z0 : (0 : Int32).toInt = 0 := (by decide +kernel); have z1 : (2 : Int32).toInt = 2 := (by decide +kernel); have z2 : (3 : Int32).toInt = 3 := (by decide +kernel); have z3 : (11 : Int32).toInt = 11 := (by decide +kernel); have r0 := fb_rng (a_0); have e0 := k_0; rw [Int32.lt_iff_toInt_lt, z0] at e0; have e1 := k_1; rw [Int32.lt_iff_toInt_lt, z3] at e1; obtain ⟨n_0, hn_0, s0⟩ := nd_mul (x := (a_0)) (y := (3 : Int32)) (by (try rw [z2]); omega) (by (try rw [z2]); omega); rw [z2] at s0; obtain ⟨n_1, hn_1, s1⟩ := nd_add (x := n_0) (y := (2 : Int32)) (by (try rw [z1]); omega) (by (try rw [z1]); omega); rw [z1] at s1; rw [hn_0, hn_1, vp_in_iff]; omega)) p_1 as_0 as_1) (i32_full _) d_Or_setLine_22 (fun f_3 H locs hP hD hS hO_3 hE_3 w_3 ow_3 hF_3 => ?_)
  have hA_3 := hA_2.trans hE_3
  have hQ := hQ f_3 hF_3
  have hQ := hQ hO_3
  refine W.widen (k := 0) (n := 0) (Nat.le_of_ble_eq_true rfl) (Nat.le_of_ble_eq_true rfl) ?_
  exact W.vret hx hb hr (fun t ht hW => ⟨⟨(L, f_3), rfl, ⟨hO_3, hA_3.mono (by decide +kernel), trivial, hQ⟩, by rw [ht]; exact hP, va_K.moved hW.alike hK, by rw [hAe]; exact hD⟩, by rw [hAe]; exact hS.F ht⟩) (by rw [hAe]; exact hS.2.2) d_Or_setLine_23
def W_Or_addLine_1_w : List (Nat × Nat) := [(15, 6), (17, 1000)]
def wp_Or_addLine_1_w (L : List Nat) (f : TF) (q0 : Nat) (p_1 : Int32) (p_2 : Int32) (p_3 : Int32) (Q : List Nat → TF → Prop) : Prop := ∀ q_1 : Nat, tr f q0 3 = some q_1 → wp_Or_setLine_k17_w L f q_1 (ti f q0 6) p_1 p_2 p_3 (fun (L_1 : List Nat) (f_1 : TF) => Ok L_1 f_1 → Ext W_Or_setLine_k17_w L f L_1 f_1 → ∀ f_2 : TF, f_2 = sI f_1 q0 6 ((ti f q0 6) + 1) → Ok L_1 f_2 → Q L_1 f_2)
set_option maxHeartbeats 4000000 in
set_option maxRecDepth 100000 in
theorem c_Or_addLine_1_w (l : Launch) (dC : Nat → ClassId) (dI : Nat → Nat → Nat) (ct : Nat → ClassId) (L : List Nat) (f : TF) (hO_0 : Ok L f) (q0 : Nat) (m0 : q0 ∈ L ∧ tk f q0 = 15) (sz : Nat) (p_1 : Int32) (p_2 : Int32) (p_3 : Int32)  (as_0 : ¬ (11 < (ti f q0 6))) (Q : List Nat → TF → Prop) (hQ : wp_Or_addLine_1_w L f q0 p_1 p_2 p_3 Q) : Met l y_Or_addLine (.code y_Or_addLine b_Or_addLine 5 none :: TB) ({ frames := 1, cells := 0, slots := 0, locals := 24 }) (va_Pc [.ref q0, .int 1, .int p_1, .int p_2, .int p_3] (PC dC dI (TW ct L f) (TT ct) sz)) (va_Qv (fun (u : TSt) => Ok u.1 u.2 ∧ Ext W_Or_addLine_1_w L f u.1 u.2 ∧ (True) ∧ Q u.1 u.2) (fun (u : TSt) t => va_P (dC, dI) vwCl (TW ct u.1 u.2) t.heap ∧ va_K (dC, dI) vwCl (TT ct) t ∧ va_D (va_A (TW ct L f) sz) (TW ct u.1 u.2)) (va_A (TW ct L f) sz)) 0 0 (va_A (TW ct L f) sz) := by
  refine Met.ofW (cc := b_Or_addLine) (maxL := 5) (ret := none) (by decide) rfl ?_
  intro p e s m args below meth c s₁ B hml hv
  obtain ⟨rfl, hsz, hP, hK, hD0, hN⟩ := hv
  have hx := B.exec
  have hb := B.bytes
  have hr := B.returns
  have hts := atoms_spec (ws := (.code y_Or_addLine b_Or_addLine 5 none :: TB)) B.pre
  have htb := fun w (h : w ∈ TB) => hts w (List.mem_cons_of_mem _ h)
  have hown : s.vm.findClass R_Or = some m.cls := findClass_of_methodNamed B.named
  have hlocks := B.notSynchronized
  have hl := lv_entry ([.ref q0, .int 1, .int p_1, .int p_2, .int p_3]) (n := 5) (Nat.le_of_ble_eq_true rfl)
  rw [lg_entry_eq]
  generalize (lg_sl ([.ref q0, .int 1, .int p_1, .int p_2, .int p_3]) ++ List.replicate (5 - (lg_sl ([.ref q0, .int 1, .int p_1, .int p_2, .int p_3])).length) Slot.unset).toArray = ls at hl ⊢
  have hl : lv_has ls 5 [(0, .ref q0), (1, .int 1), (2, .int p_1), (3, .int p_2), (4, .int p_3)] := hl
  subst hsz
  have hD := hD0.self (sz := s.heap.size)
  obtain ⟨A, hAe⟩ : ∃ A, va_A (TW ct L f) s.heap.size = A := ⟨_, rfl⟩
  rw [hAe] at hD
  have hA : ∀ q : Nat, s.heap.size ≤ q → A q := fun q h => by rw [← hAe]; exact Or.inr h
  have hS : va_S A s.heap s.heap [] := va_S.rf
  have hA_0 : Ext [] L f L f := Ext.rf
  suffices hGo : ∀ (H : Heap) (locs : List Loc), va_P (dC, dI) vwCl (TW ct L f) H → va_S A s.heap H locs → W p l e (headSpec (.code y_Or_addLine b_Or_addLine 5 none :: TB) ({ frames := 1, cells := 0, slots := 0, locals := 24 })).room s m [.ref q0, .int 1, .int p_1, .int p_2, .int p_3].toArray below meth c H locs 0 0 (MQ below (va_Qv (fun (u : TSt) => Ok u.1 u.2 ∧ Ext W_Or_addLine_1_w L f u.1 u.2 ∧ (True) ∧ Q u.1 u.2) (fun (u : TSt) t => va_P (dC, dI) vwCl (TW ct u.1 u.2) t.heap ∧ va_K (dC, dI) vwCl (TT ct) t ∧ va_D (va_A (TW ct L f) s.heap.size) (TW ct u.1 u.2)) (va_A (TW ct L f) s.heap.size)) [.ref q0, .int 1, .int p_1, .int p_2, .int p_3].toArray s 0 0 (va_A (TW ct L f) s.heap.size)) (F0 m 0 ls []) from hGo _ _ hP hS
  clear hP hS
  intro H locs hP hS
  unfold wp_Or_addLine_1_w at hQ
  have bp_6 := hO_0.i m0 (show slotD 15 6 = some (.inl (0, 12)) from rfl)
  refine lv_iload_n hx hb d_Or_addLine_0 rfl (lv_at hl 1 rfl) ?_
  refine lv_if_ne (tgt := 32) hx hb d_Or_addLine_1 (by decide) (fun _ => ?_) (fun h => absurd h (by decide +kernel))
  refine lv_iload_n hx hb d_Or_addLine_32 rfl (lv_at hl 1 rfl) ?_
  refine lv_iconst (v := 1) hx hb d_Or_addLine_33 (by decide +kernel) ?_
  refine lv_icmp_ne (tgt := 65) hx hb d_Or_addLine_34 (by decide) (fun h => absurd (by decide +kernel) h) (fun _ => ?_)
  refine lv_aload_n hx hb d_Or_addLine_37 rfl (lv_at hl 0 rfl) ?_
  refine tw_getr (D := (dC, dI)) (C := R_Or) (T := F_Or) (N := 9) (ci := 3) (kd := 15) (ct := ct) hx hb htb i_Or hown hK hP hO_0 m0 rfl rfl 3 (by decide) (htb (.fieldLink R_Or 15 "WaterMen$Order" "hours" "[I") tw_312) (fun _ h9 => h9) rfl d_Or_addLine_38 (fun q_1 e_1 m_1 => ?_)
  have hQ := hQ q_1 e_1
  refine lv_aload_n hx hb d_Or_addLine_41 rfl (lv_at hl 0 rfl) ?_
  refine tw_getI (x := (ti f q0 6)) (D := (dC, dI)) (C := R_Or) (T := F_Or) (N := 9) (ci := 3) (kd := 15) (ct := ct) hx hb htb i_Or hown hK hP m0 rfl rfl 6 rfl (by decide) (htb (.fieldLink R_Or 27 "WaterMen$Order" "hourCount" "I") tw_247) (fun _ h9 => h9) rfl d_Or_addLine_42 ?_
  refine lv_iload_n hx hb d_Or_addLine_45 rfl (lv_at hl 2 rfl) ?_
  refine lv_iload_n hx hb d_Or_addLine_46 rfl (lv_at hl 3 rfl) ?_
  refine lv_iload hx hb d_Or_addLine_47 (lv_at hl 4 rfl) ?_
  have hFc := hb_free hD hS hA
  refine va_callv (va_runS (As := [.ref q_1, .int (ti f q0 6), .int p_1, .int p_2, .int p_3]) (rest := []) ⟨hx, hb, hml, hown, htb⟩ (c_Or_setLine_k17_w l dC dI ct L f hO_0 q_1 m_1 _ (ti f q0 6) p_1 p_2 p_3 bp_6.1 as_0 _ hQ) (cwS 5 htb (gd_S tw_306 tw_307 tw_250 tw_305) rfl rfl rfl (by decide +kernel) ⟨Nat.le_of_ble_eq_true rfl, Nat.le_of_ble_eq_true rfl⟩) ⟨pc_blind, pc_pre hP hK hD hN⟩ rfl rfl hl.1 rfl (lv_room (Nat.le_of_ble_eq_true rfl)) d_Or_addLine_49 ⟨Nat.le_of_ble_eq_true rfl, Nat.le_of_ble_eq_true rfl⟩) hS (fun q _ h => hFc q h) hFc (fun u t H locs ht hvm er hB hz1 hk1 hS => ?_)
  obtain ⟨L_1, f_1⟩ := u
  obtain ⟨hO_1, hE_1, er, hQ⟩ := er
  obtain ⟨hP, hK1, hD1⟩ := hB
  rw [ht] at hP
  have hP : va_P (dC, dI) vwCl (TW ct L_1 f_1) H := hP
  have hD : va_D A (TW ct L_1 f_1) := hD1.weaken (fun _ q _ h => hFc q.1 h)
  have hO_1 : Ok L_1 f_1 := hO_1
  have hE_1 : Ext W_Or_setLine_k17_w L f L_1 f_1 := hE_1
  clear hK1 hD1 ht hvm hz1 hk1
  have hA_1 := hA_0.trans hE_1
  have hQ := hQ hO_1 hE_1
  clear er
  refine lv_aload_n hx hb d_Or_addLine_52 rfl (lv_at hl 0 rfl) ?_
  refine lv_dup hx hb d_Or_addLine_53 rfl ?_
  refine tw_getI (x := (ti f q0 6)) (D := (dC, dI)) (C := R_Or) (T := F_Or) (N := 9) (ci := 3) (kd := 15) (ct := ct) hx hb htb i_Or hown hK hP (hA_1.m m0) rfl rfl 6 ((hA_1.ei m0 rfl).trans rfl) (by decide) (htb (.fieldLink R_Or 27 "WaterMen$Order" "hourCount" "I") tw_247) (fun _ h9 => h9) rfl d_Or_addLine_54 ?_
  refine lv_iconst (v := 1) hx hb d_Or_addLine_57 (by decide +kernel) ?_
  refine lv_iadd hx hb d_Or_addLine_58 ?_
  refine tw_puti (v := ((ti f q0 6) + 1)) (D := (dC, dI)) (C := R_Or) (T := F_Or) (N := 9) (ci := 3) (kd := 15) (ct := ct) (ty := .int) hx hb htb i_Or t_Or t_Or_ok n_Or hown hK hP hD hS hO_1 (hA_1.m m0) rfl rfl 6 (by decide) (htb (.fieldLink R_Or 27 "WaterMen$Order" "hourCount" "I") tw_247) (fun _ h9 => h9) rfl (by decide +kernel) rfl rfl rfl ⟨(show ¬ (((ti f q0 6) + 1) < 0) from ((fun (a_0 : Int32) (k_0 : ¬ (a_0 < 0)) (k_1 : ¬ (12 < a_0)) => (show ¬ ((a_0 + 1) < 0) from by have z0 : (0 : Int32).toInt = 0 := (by decide +kernel); have z1 : (1 : Int32).toInt = 1 := (by decide +kernel); have z2 : (12 : Int32).toInt = 12 := (by decide +kernel); have r0 := fb_rng (a_0); have e0 := k_0; rw [Int32.lt_iff_toInt_lt, z0] at e0; have e1 := k_1; rw [Int32.lt_iff_toInt_lt, z2] at e1; obtain ⟨n_0, hn_0, s0⟩ := nd_add (x := a_0) (y := (1 : Int32)) (by (try rw [z1]); omega) (by (try rw [z1]); omega); rw [z1] at s0; rw [hn_0, Int32.lt_iff_toInt_lt, z0]; omega)) (ti f q0 6) bp_6.1 bp_6.2)), (show ¬ (12 < ((ti f q0 6) + 1)) from ((fun (a_0 : Int32) (k_0 : ¬ (11 < a_0)) => (show ¬ (12 < (a_0 + 1)) from by have z0 : (1 : Int32).toInt = 1 := (by decide +kernel); have z1 : (11 : Int32).toInt = 11 := (by decide +kernel); have z2 : (12 : Int32).toInt = 12 := (by decide +kernel); have r0 := fb_rng (a_0); have e0 := k_0; rw [Int32.lt_iff_toInt_lt, z1] at e0; obtain ⟨n_0, hn_0, s0⟩ := nd_add (x := a_0) (y := (1 : Int32)) (by (try rw [z0]); omega) (by (try rw [z0]); omega); rw [z0] at s0; rw [hn_0, Int32.lt_iff_toInt_lt, z2]; omega)) (ti f q0 6) as_0))⟩ d_Or_addLine_59 (fun f_2 H locs hP hD hS hO_2 hE_2 w_3 hF_2 => ?_)
  have hA_2 := hA_1.trans hE_2
  have hQ := hQ f_2 hF_2
  have hQ := hQ hO_2
  refine lv_goto (tgt := 88) hx hb d_Or_addLine_62 (by decide) ?_
  refine W.widen (k := 0) (n := 0) (Nat.le_of_ble_eq_true rfl) (Nat.le_of_ble_eq_true rfl) ?_
  exact W.vret hx hb hr (fun t ht hW => ⟨⟨(L_1, f_2), rfl, ⟨hO_2, hA_2.mono (by decide +kernel), trivial, hQ⟩, by rw [ht]; exact hP, va_K.moved hW.alike hK, by rw [hAe]; exact hD⟩, by rw [hAe]; exact hS.F ht⟩) (by rw [hAe]; exact hS.2.2) d_Or_addLine_88
def wp_Or_takesLine_2_w (L : List Nat) (f : TF) (q0 : Nat) (Q : Int32 → Prop) : Prop := ∀ q_3 : Nat, tr f q0 4 = some q_3 → ∀ x_4 : Int32, ti f q_3 (2 : Int32).toNatClampNeg = x_4 → ((x_4 = (-1) → Q 1) ∧ (¬ (x_4 = (-1)) → Q 0))
set_option maxHeartbeats 4000000 in
set_option maxRecDepth 100000 in
theorem c_Or_takesLine_2_w (l : Launch) (dC : Nat → ClassId) (dI : Nat → Nat → Nat) (ct : Nat → ClassId) (L : List Nat) (f : TF) (hO_0 : Ok L f) (q0 : Nat) (m0 : q0 ∈ L ∧ tk f q0 = 15)    (Q : Int32 → Prop) (hQ : wp_Or_takesLine_2_w L f q0 Q) : Met l y_Or_takesLine (.code y_Or_takesLine b_Or_takesLine 2 (some .boolean) :: TB) ({ frames := 0, cells := 0, slots := 0, locals := 0 }) (va_Pc [.ref q0, .int 2] (PR dC dI (TW ct L f) (TT ct))) (vp_Si (fun r => ((r = 0 ∧ True) ∨ (r = 1 ∧ True)) ∧ Q r)) 0 0 (fun _ => False) := by
  refine Met.ofW (cc := b_Or_takesLine) (maxL := 2) (ret := (some .boolean)) (by decide) rfl ?_
  intro p e s m args below meth c s₁ B hml hv
  obtain ⟨rfl, hP, hK, hN⟩ := hv
  have hx := B.exec
  have hb := B.bytes
  have hr := B.returns
  have hts := atoms_spec (ws := (.code y_Or_takesLine b_Or_takesLine 2 (some .boolean) :: TB)) B.pre
  have htb := fun w (h : w ∈ TB) => hts w (List.mem_cons_of_mem _ h)
  have hown : s.vm.findClass R_Or = some m.cls := findClass_of_methodNamed B.named
  have hlocks := B.notSynchronized
  have hl := lv_entry ([.ref q0, .int 2]) (n := 2) (Nat.le_of_ble_eq_true rfl)
  rw [lg_entry_eq]
  generalize (lg_sl ([.ref q0, .int 2]) ++ List.replicate (2 - (lg_sl ([.ref q0, .int 2])).length) Slot.unset).toArray = ls at hl ⊢
  have hl : lv_has ls 2 [(0, .ref q0), (1, .int 2)] := hl
  unfold wp_Or_takesLine_2_w at hQ
  have bs_1 := hO_0.i m0 (show slotD 15 5 = some (.inl (0, 12)) from rfl)
  have bs_2 := hO_0.i m0 (show slotD 15 6 = some (.inl (0, 12)) from rfl)
  refine lv_iload_n hx hb d_Or_takesLine_0 rfl (lv_at hl 1 rfl) ?_
  refine lv_if_ne (tgt := 19) hx hb d_Or_takesLine_1 (by decide) (fun _ => ?_) (fun h => absurd h (by decide +kernel))
  refine lv_iload_n hx hb d_Or_takesLine_19 rfl (lv_at hl 1 rfl) ?_
  refine lv_iconst (v := 1) hx hb d_Or_takesLine_20 (by decide +kernel) ?_
  refine lv_icmp_ne (tgt := 39) hx hb d_Or_takesLine_21 (by decide) (fun _ => ?_) (fun h => absurd h (by decide +kernel))
  refine lv_aload_n hx hb d_Or_takesLine_39 rfl (lv_at hl 0 rfl) ?_
  refine tw_getr (D := (dC, dI)) (C := R_Or) (T := F_Or) (N := 9) (ci := 3) (kd := 15) (ct := ct) hx hb htb i_Or hown hK hP hO_0 m0 rfl rfl 4 (by decide) (htb (.fieldLink R_Or 20 "WaterMen$Order" "single" "[I") tw_248) (fun _ h9 => h9) rfl d_Or_takesLine_40 (fun q_3 e_3 m_3 => ?_)
  have hQ := hQ q_3 e_3
  refine lv_iload_n hx hb d_Or_takesLine_43 rfl (lv_at hl 1 rfl) ?_
  refine tw_aldI (ct := ct) hx hb hK hP hO_0 m_3 rfl (by unfold vp_in; decide +kernel) d_Or_takesLine_44 (fun x_4 e_4 b_4 => ?_)
  have hQ := hQ x_4 e_4
  refine lv_iconst (v := (-1)) hx hb d_Or_takesLine_45 (by decide +kernel) ?_
  refine lv_icmp_ne (tgt := 53) hx hb d_Or_takesLine_46 (by decide) (fun c_5 => ?_) (fun c_5 => ?_)
  · have hQ := hQ.2 c_5
    refine lv_iconst (v := 0) hx hb d_Or_takesLine_53 (by decide +kernel) ?_
    exact W.zret (v := 0) hx hb hr (by decide +kernel) (fun t ht hW => ⟨0, rfl, ⟨(Or.inl ⟨rfl, trivial⟩), hQ⟩, ht⟩) t_nil d_Or_takesLine_54
  · have hQ := hQ.1 c_5
    refine lv_iconst (v := 1) hx hb d_Or_takesLine_49 (by decide +kernel) ?_
    refine lv_goto (tgt := 54) hx hb d_Or_takesLine_50 (by decide) ?_
    exact W.zret (v := 1) hx hb hr (by decide +kernel) (fun t ht hW => ⟨1, rfl, ⟨(Or.inr ⟨rfl, trivial⟩), hQ⟩, ht⟩) t_nil d_Or_takesLine_54
def W_Or_addLine_2_w : List (Nat × Nat) := [(18, 1000)]
def wp_Or_addLine_2_w (L : List Nat) (f : TF) (q0 : Nat) (p_1 : Int32) (p_2 : Int32) (p_3 : Int32) (Q : List Nat → TF → Prop) : Prop := ∀ q_1 : Nat, tr f q0 4 = some q_1 → ∀ f_1 : TF, f_1 = sI f q_1 (2 : Int32).toNatClampNeg p_1 → Ok L f_1 → Q L f_1
set_option maxHeartbeats 4000000 in
set_option maxRecDepth 100000 in
theorem c_Or_addLine_2_w (l : Launch) (dC : Nat → ClassId) (dI : Nat → Nat → Nat) (ct : Nat → ClassId) (L : List Nat) (f : TF) (hO_0 : Ok L f) (q0 : Nat) (m0 : q0 ∈ L ∧ tk f q0 = 15) (sz : Nat) (p_1 : Int32) (p_2 : Int32) (p_3 : Int32)   (Q : List Nat → TF → Prop) (hQ : wp_Or_addLine_2_w L f q0 p_1 p_2 p_3 Q) : Met l y_Or_addLine (.code y_Or_addLine b_Or_addLine 5 none :: TB) ({ frames := 0, cells := 0, slots := 0, locals := 0 }) (va_Pc [.ref q0, .int 2, .int p_1, .int p_2, .int p_3] (PC dC dI (TW ct L f) (TT ct) sz)) (va_Qv (fun (u : TSt) => Ok u.1 u.2 ∧ Ext W_Or_addLine_2_w L f u.1 u.2 ∧ (True) ∧ Q u.1 u.2) (fun (u : TSt) t => va_P (dC, dI) vwCl (TW ct u.1 u.2) t.heap ∧ va_K (dC, dI) vwCl (TT ct) t ∧ va_D (va_A (TW ct L f) sz) (TW ct u.1 u.2)) (va_A (TW ct L f) sz)) 0 0 (va_A (TW ct L f) sz) := by
  refine Met.ofW (cc := b_Or_addLine) (maxL := 5) (ret := none) (by decide) rfl ?_
  intro p e s m args below meth c s₁ B hml hv
  obtain ⟨rfl, hsz, hP, hK, hD0, hN⟩ := hv
  have hx := B.exec
  have hb := B.bytes
  have hr := B.returns
  have hts := atoms_spec (ws := (.code y_Or_addLine b_Or_addLine 5 none :: TB)) B.pre
  have htb := fun w (h : w ∈ TB) => hts w (List.mem_cons_of_mem _ h)
  have hown : s.vm.findClass R_Or = some m.cls := findClass_of_methodNamed B.named
  have hlocks := B.notSynchronized
  have hl := lv_entry ([.ref q0, .int 2, .int p_1, .int p_2, .int p_3]) (n := 5) (Nat.le_of_ble_eq_true rfl)
  rw [lg_entry_eq]
  generalize (lg_sl ([.ref q0, .int 2, .int p_1, .int p_2, .int p_3]) ++ List.replicate (5 - (lg_sl ([.ref q0, .int 2, .int p_1, .int p_2, .int p_3])).length) Slot.unset).toArray = ls at hl ⊢
  have hl : lv_has ls 5 [(0, .ref q0), (1, .int 2), (2, .int p_1), (3, .int p_2), (4, .int p_3)] := hl
  subst hsz
  have hD := hD0.self (sz := s.heap.size)
  obtain ⟨A, hAe⟩ : ∃ A, va_A (TW ct L f) s.heap.size = A := ⟨_, rfl⟩
  rw [hAe] at hD
  have hA : ∀ q : Nat, s.heap.size ≤ q → A q := fun q h => by rw [← hAe]; exact Or.inr h
  have hS : va_S A s.heap s.heap [] := va_S.rf
  have hA_0 : Ext [] L f L f := Ext.rf
  suffices hGo : ∀ (H : Heap) (locs : List Loc), va_P (dC, dI) vwCl (TW ct L f) H → va_S A s.heap H locs → W p l e (headSpec (.code y_Or_addLine b_Or_addLine 5 none :: TB) ({ frames := 0, cells := 0, slots := 0, locals := 0 })).room s m [.ref q0, .int 2, .int p_1, .int p_2, .int p_3].toArray below meth c H locs 0 0 (MQ below (va_Qv (fun (u : TSt) => Ok u.1 u.2 ∧ Ext W_Or_addLine_2_w L f u.1 u.2 ∧ (True) ∧ Q u.1 u.2) (fun (u : TSt) t => va_P (dC, dI) vwCl (TW ct u.1 u.2) t.heap ∧ va_K (dC, dI) vwCl (TT ct) t ∧ va_D (va_A (TW ct L f) s.heap.size) (TW ct u.1 u.2)) (va_A (TW ct L f) s.heap.size)) [.ref q0, .int 2, .int p_1, .int p_2, .int p_3].toArray s 0 0 (va_A (TW ct L f) s.heap.size)) (F0 m 0 ls []) from hGo _ _ hP hS
  clear hP hS
  intro H locs hP hS
  unfold wp_Or_addLine_2_w at hQ
  refine lv_iload_n hx hb d_Or_addLine_0 rfl (lv_at hl 1 rfl) ?_
  refine lv_if_ne (tgt := 32) hx hb d_Or_addLine_1 (by decide) (fun _ => ?_) (fun h => absurd h (by decide +kernel))
  refine lv_iload_n hx hb d_Or_addLine_32 rfl (lv_at hl 1 rfl) ?_
  refine lv_iconst (v := 1) hx hb d_Or_addLine_33 (by decide +kernel) ?_
  refine lv_icmp_ne (tgt := 65) hx hb d_Or_addLine_34 (by decide) (fun _ => ?_) (fun h => absurd h (by decide +kernel))
  refine lv_aload_n hx hb d_Or_addLine_65 rfl (lv_at hl 0 rfl) ?_
  refine tw_getr (D := (dC, dI)) (C := R_Or) (T := F_Or) (N := 9) (ci := 3) (kd := 15) (ct := ct) hx hb htb i_Or hown hK hP hO_0 m0 rfl rfl 4 (by decide) (htb (.fieldLink R_Or 20 "WaterMen$Order" "single" "[I") tw_248) (fun _ h9 => h9) rfl d_Or_addLine_66 (fun q_1 e_1 m_1 => ?_)
  have hQ := hQ q_1 e_1
  refine lv_iload_n hx hb d_Or_addLine_69 rfl (lv_at hl 1 rfl) ?_
  refine lv_iload_n hx hb d_Or_addLine_70 rfl (lv_at hl 2 rfl) ?_
  refine tw_astI (ct := ct) (x := p_1) hx hb hK hP hD hS hO_0 m_1 rfl (by unfold vp_in; decide +kernel) (i32_full _) d_Or_addLine_71 (fun f_1 H locs hP hD hS hO_1 hE_1 w_2 ow_2 hF_1 => ?_)
  have hA_1 := hA_0.trans hE_1
  have hQ := hQ f_1 hF_1
  have hQ := hQ hO_1
  refine lv_iload_n hx hb d_Or_addLine_72 rfl (lv_at hl 1 rfl) ?_
  refine lv_bipush (v := 6) hx hb d_Or_addLine_73 (by decide +kernel) ?_
  refine lv_icmp_ne (tgt := 88) hx hb d_Or_addLine_75 (by decide) (fun _ => ?_) (fun h => absurd h (by decide +kernel))
  refine W.widen (k := 0) (n := 0) (Nat.le_of_ble_eq_true rfl) (Nat.le_of_ble_eq_true rfl) ?_
  exact W.vret hx hb hr (fun t ht hW => ⟨⟨(L, f_1), rfl, ⟨hO_1, hA_1.mono (by decide +kernel), trivial, hQ⟩, by rw [ht]; exact hP, va_K.moved hW.alike hK, by rw [hAe]; exact hD⟩, by rw [hAe]; exact hS.F ht⟩) (by rw [hAe]; exact hS.2.2) d_Or_addLine_88
def wp_Or_takesLine_3_w (L : List Nat) (f : TF) (q0 : Nat) (Q : Int32 → Prop) : Prop := ∀ q_3 : Nat, tr f q0 4 = some q_3 → ∀ x_4 : Int32, ti f q_3 (3 : Int32).toNatClampNeg = x_4 → ((x_4 = (-1) → Q 1) ∧ (¬ (x_4 = (-1)) → Q 0))
set_option maxHeartbeats 4000000 in
set_option maxRecDepth 100000 in
theorem c_Or_takesLine_3_w (l : Launch) (dC : Nat → ClassId) (dI : Nat → Nat → Nat) (ct : Nat → ClassId) (L : List Nat) (f : TF) (hO_0 : Ok L f) (q0 : Nat) (m0 : q0 ∈ L ∧ tk f q0 = 15)    (Q : Int32 → Prop) (hQ : wp_Or_takesLine_3_w L f q0 Q) : Met l y_Or_takesLine (.code y_Or_takesLine b_Or_takesLine 2 (some .boolean) :: TB) ({ frames := 0, cells := 0, slots := 0, locals := 0 }) (va_Pc [.ref q0, .int 3] (PR dC dI (TW ct L f) (TT ct))) (vp_Si (fun r => ((r = 0 ∧ True) ∨ (r = 1 ∧ True)) ∧ Q r)) 0 0 (fun _ => False) := by
  refine Met.ofW (cc := b_Or_takesLine) (maxL := 2) (ret := (some .boolean)) (by decide) rfl ?_
  intro p e s m args below meth c s₁ B hml hv
  obtain ⟨rfl, hP, hK, hN⟩ := hv
  have hx := B.exec
  have hb := B.bytes
  have hr := B.returns
  have hts := atoms_spec (ws := (.code y_Or_takesLine b_Or_takesLine 2 (some .boolean) :: TB)) B.pre
  have htb := fun w (h : w ∈ TB) => hts w (List.mem_cons_of_mem _ h)
  have hown : s.vm.findClass R_Or = some m.cls := findClass_of_methodNamed B.named
  have hlocks := B.notSynchronized
  have hl := lv_entry ([.ref q0, .int 3]) (n := 2) (Nat.le_of_ble_eq_true rfl)
  rw [lg_entry_eq]
  generalize (lg_sl ([.ref q0, .int 3]) ++ List.replicate (2 - (lg_sl ([.ref q0, .int 3])).length) Slot.unset).toArray = ls at hl ⊢
  have hl : lv_has ls 2 [(0, .ref q0), (1, .int 3)] := hl
  unfold wp_Or_takesLine_3_w at hQ
  have bs_1 := hO_0.i m0 (show slotD 15 5 = some (.inl (0, 12)) from rfl)
  have bs_2 := hO_0.i m0 (show slotD 15 6 = some (.inl (0, 12)) from rfl)
  refine lv_iload_n hx hb d_Or_takesLine_0 rfl (lv_at hl 1 rfl) ?_
  refine lv_if_ne (tgt := 19) hx hb d_Or_takesLine_1 (by decide) (fun _ => ?_) (fun h => absurd h (by decide +kernel))
  refine lv_iload_n hx hb d_Or_takesLine_19 rfl (lv_at hl 1 rfl) ?_
  refine lv_iconst (v := 1) hx hb d_Or_takesLine_20 (by decide +kernel) ?_
  refine lv_icmp_ne (tgt := 39) hx hb d_Or_takesLine_21 (by decide) (fun _ => ?_) (fun h => absurd h (by decide +kernel))
  refine lv_aload_n hx hb d_Or_takesLine_39 rfl (lv_at hl 0 rfl) ?_
  refine tw_getr (D := (dC, dI)) (C := R_Or) (T := F_Or) (N := 9) (ci := 3) (kd := 15) (ct := ct) hx hb htb i_Or hown hK hP hO_0 m0 rfl rfl 4 (by decide) (htb (.fieldLink R_Or 20 "WaterMen$Order" "single" "[I") tw_248) (fun _ h9 => h9) rfl d_Or_takesLine_40 (fun q_3 e_3 m_3 => ?_)
  have hQ := hQ q_3 e_3
  refine lv_iload_n hx hb d_Or_takesLine_43 rfl (lv_at hl 1 rfl) ?_
  refine tw_aldI (ct := ct) hx hb hK hP hO_0 m_3 rfl (by unfold vp_in; decide +kernel) d_Or_takesLine_44 (fun x_4 e_4 b_4 => ?_)
  have hQ := hQ x_4 e_4
  refine lv_iconst (v := (-1)) hx hb d_Or_takesLine_45 (by decide +kernel) ?_
  refine lv_icmp_ne (tgt := 53) hx hb d_Or_takesLine_46 (by decide) (fun c_5 => ?_) (fun c_5 => ?_)
  · have hQ := hQ.2 c_5
    refine lv_iconst (v := 0) hx hb d_Or_takesLine_53 (by decide +kernel) ?_
    exact W.zret (v := 0) hx hb hr (by decide +kernel) (fun t ht hW => ⟨0, rfl, ⟨(Or.inl ⟨rfl, trivial⟩), hQ⟩, ht⟩) t_nil d_Or_takesLine_54
  · have hQ := hQ.1 c_5
    refine lv_iconst (v := 1) hx hb d_Or_takesLine_49 (by decide +kernel) ?_
    refine lv_goto (tgt := 54) hx hb d_Or_takesLine_50 (by decide) ?_
    exact W.zret (v := 1) hx hb hr (by decide +kernel) (fun t ht hW => ⟨1, rfl, ⟨(Or.inr ⟨rfl, trivial⟩), hQ⟩, ht⟩) t_nil d_Or_takesLine_54
def W_Or_addLine_3_w : List (Nat × Nat) := [(18, 1000)]
def wp_Or_addLine_3_w (L : List Nat) (f : TF) (q0 : Nat) (p_1 : Int32) (p_2 : Int32) (p_3 : Int32) (Q : List Nat → TF → Prop) : Prop := ∀ q_1 : Nat, tr f q0 4 = some q_1 → ∀ f_1 : TF, f_1 = sI f q_1 (3 : Int32).toNatClampNeg p_1 → Ok L f_1 → Q L f_1
set_option maxHeartbeats 4000000 in
set_option maxRecDepth 100000 in
theorem c_Or_addLine_3_w (l : Launch) (dC : Nat → ClassId) (dI : Nat → Nat → Nat) (ct : Nat → ClassId) (L : List Nat) (f : TF) (hO_0 : Ok L f) (q0 : Nat) (m0 : q0 ∈ L ∧ tk f q0 = 15) (sz : Nat) (p_1 : Int32) (p_2 : Int32) (p_3 : Int32)   (Q : List Nat → TF → Prop) (hQ : wp_Or_addLine_3_w L f q0 p_1 p_2 p_3 Q) : Met l y_Or_addLine (.code y_Or_addLine b_Or_addLine 5 none :: TB) ({ frames := 0, cells := 0, slots := 0, locals := 0 }) (va_Pc [.ref q0, .int 3, .int p_1, .int p_2, .int p_3] (PC dC dI (TW ct L f) (TT ct) sz)) (va_Qv (fun (u : TSt) => Ok u.1 u.2 ∧ Ext W_Or_addLine_3_w L f u.1 u.2 ∧ (True) ∧ Q u.1 u.2) (fun (u : TSt) t => va_P (dC, dI) vwCl (TW ct u.1 u.2) t.heap ∧ va_K (dC, dI) vwCl (TT ct) t ∧ va_D (va_A (TW ct L f) sz) (TW ct u.1 u.2)) (va_A (TW ct L f) sz)) 0 0 (va_A (TW ct L f) sz) := by
  refine Met.ofW (cc := b_Or_addLine) (maxL := 5) (ret := none) (by decide) rfl ?_
  intro p e s m args below meth c s₁ B hml hv
  obtain ⟨rfl, hsz, hP, hK, hD0, hN⟩ := hv
  have hx := B.exec
  have hb := B.bytes
  have hr := B.returns
  have hts := atoms_spec (ws := (.code y_Or_addLine b_Or_addLine 5 none :: TB)) B.pre
  have htb := fun w (h : w ∈ TB) => hts w (List.mem_cons_of_mem _ h)
  have hown : s.vm.findClass R_Or = some m.cls := findClass_of_methodNamed B.named
  have hlocks := B.notSynchronized
  have hl := lv_entry ([.ref q0, .int 3, .int p_1, .int p_2, .int p_3]) (n := 5) (Nat.le_of_ble_eq_true rfl)
  rw [lg_entry_eq]
  generalize (lg_sl ([.ref q0, .int 3, .int p_1, .int p_2, .int p_3]) ++ List.replicate (5 - (lg_sl ([.ref q0, .int 3, .int p_1, .int p_2, .int p_3])).length) Slot.unset).toArray = ls at hl ⊢
  have hl : lv_has ls 5 [(0, .ref q0), (1, .int 3), (2, .int p_1), (3, .int p_2), (4, .int p_3)] := hl
  subst hsz
  have hD := hD0.self (sz := s.heap.size)
  obtain ⟨A, hAe⟩ : ∃ A, va_A (TW ct L f) s.heap.size = A := ⟨_, rfl⟩
  rw [hAe] at hD
  have hA : ∀ q : Nat, s.heap.size ≤ q → A q := fun q h => by rw [← hAe]; exact Or.inr h
  have hS : va_S A s.heap s.heap [] := va_S.rf
  have hA_0 : Ext [] L f L f := Ext.rf
  suffices hGo : ∀ (H : Heap) (locs : List Loc), va_P (dC, dI) vwCl (TW ct L f) H → va_S A s.heap H locs → W p l e (headSpec (.code y_Or_addLine b_Or_addLine 5 none :: TB) ({ frames := 0, cells := 0, slots := 0, locals := 0 })).room s m [.ref q0, .int 3, .int p_1, .int p_2, .int p_3].toArray below meth c H locs 0 0 (MQ below (va_Qv (fun (u : TSt) => Ok u.1 u.2 ∧ Ext W_Or_addLine_3_w L f u.1 u.2 ∧ (True) ∧ Q u.1 u.2) (fun (u : TSt) t => va_P (dC, dI) vwCl (TW ct u.1 u.2) t.heap ∧ va_K (dC, dI) vwCl (TT ct) t ∧ va_D (va_A (TW ct L f) s.heap.size) (TW ct u.1 u.2)) (va_A (TW ct L f) s.heap.size)) [.ref q0, .int 3, .int p_1, .int p_2, .int p_3].toArray s 0 0 (va_A (TW ct L f) s.heap.size)) (F0 m 0 ls []) from hGo _ _ hP hS
  clear hP hS
  intro H locs hP hS
  unfold wp_Or_addLine_3_w at hQ
  refine lv_iload_n hx hb d_Or_addLine_0 rfl (lv_at hl 1 rfl) ?_
  refine lv_if_ne (tgt := 32) hx hb d_Or_addLine_1 (by decide) (fun _ => ?_) (fun h => absurd h (by decide +kernel))
  refine lv_iload_n hx hb d_Or_addLine_32 rfl (lv_at hl 1 rfl) ?_
  refine lv_iconst (v := 1) hx hb d_Or_addLine_33 (by decide +kernel) ?_
  refine lv_icmp_ne (tgt := 65) hx hb d_Or_addLine_34 (by decide) (fun _ => ?_) (fun h => absurd h (by decide +kernel))
  refine lv_aload_n hx hb d_Or_addLine_65 rfl (lv_at hl 0 rfl) ?_
  refine tw_getr (D := (dC, dI)) (C := R_Or) (T := F_Or) (N := 9) (ci := 3) (kd := 15) (ct := ct) hx hb htb i_Or hown hK hP hO_0 m0 rfl rfl 4 (by decide) (htb (.fieldLink R_Or 20 "WaterMen$Order" "single" "[I") tw_248) (fun _ h9 => h9) rfl d_Or_addLine_66 (fun q_1 e_1 m_1 => ?_)
  have hQ := hQ q_1 e_1
  refine lv_iload_n hx hb d_Or_addLine_69 rfl (lv_at hl 1 rfl) ?_
  refine lv_iload_n hx hb d_Or_addLine_70 rfl (lv_at hl 2 rfl) ?_
  refine tw_astI (ct := ct) (x := p_1) hx hb hK hP hD hS hO_0 m_1 rfl (by unfold vp_in; decide +kernel) (i32_full _) d_Or_addLine_71 (fun f_1 H locs hP hD hS hO_1 hE_1 w_2 ow_2 hF_1 => ?_)
  have hA_1 := hA_0.trans hE_1
  have hQ := hQ f_1 hF_1
  have hQ := hQ hO_1
  refine lv_iload_n hx hb d_Or_addLine_72 rfl (lv_at hl 1 rfl) ?_
  refine lv_bipush (v := 6) hx hb d_Or_addLine_73 (by decide +kernel) ?_
  refine lv_icmp_ne (tgt := 88) hx hb d_Or_addLine_75 (by decide) (fun _ => ?_) (fun h => absurd h (by decide +kernel))
  refine W.widen (k := 0) (n := 0) (Nat.le_of_ble_eq_true rfl) (Nat.le_of_ble_eq_true rfl) ?_
  exact W.vret hx hb hr (fun t ht hW => ⟨⟨(L, f_1), rfl, ⟨hO_1, hA_1.mono (by decide +kernel), trivial, hQ⟩, by rw [ht]; exact hP, va_K.moved hW.alike hK, by rw [hAe]; exact hD⟩, by rw [hAe]; exact hS.F ht⟩) (by rw [hAe]; exact hS.2.2) d_Or_addLine_88
def wp_Or_takesLine_4_w (L : List Nat) (f : TF) (q0 : Nat) (Q : Int32 → Prop) : Prop := ∀ q_3 : Nat, tr f q0 4 = some q_3 → ∀ x_4 : Int32, ti f q_3 (4 : Int32).toNatClampNeg = x_4 → ((x_4 = (-1) → Q 1) ∧ (¬ (x_4 = (-1)) → Q 0))
set_option maxHeartbeats 4000000 in
set_option maxRecDepth 100000 in
theorem c_Or_takesLine_4_w (l : Launch) (dC : Nat → ClassId) (dI : Nat → Nat → Nat) (ct : Nat → ClassId) (L : List Nat) (f : TF) (hO_0 : Ok L f) (q0 : Nat) (m0 : q0 ∈ L ∧ tk f q0 = 15)    (Q : Int32 → Prop) (hQ : wp_Or_takesLine_4_w L f q0 Q) : Met l y_Or_takesLine (.code y_Or_takesLine b_Or_takesLine 2 (some .boolean) :: TB) ({ frames := 0, cells := 0, slots := 0, locals := 0 }) (va_Pc [.ref q0, .int 4] (PR dC dI (TW ct L f) (TT ct))) (vp_Si (fun r => ((r = 0 ∧ True) ∨ (r = 1 ∧ True)) ∧ Q r)) 0 0 (fun _ => False) := by
  refine Met.ofW (cc := b_Or_takesLine) (maxL := 2) (ret := (some .boolean)) (by decide) rfl ?_
  intro p e s m args below meth c s₁ B hml hv
  obtain ⟨rfl, hP, hK, hN⟩ := hv
  have hx := B.exec
  have hb := B.bytes
  have hr := B.returns
  have hts := atoms_spec (ws := (.code y_Or_takesLine b_Or_takesLine 2 (some .boolean) :: TB)) B.pre
  have htb := fun w (h : w ∈ TB) => hts w (List.mem_cons_of_mem _ h)
  have hown : s.vm.findClass R_Or = some m.cls := findClass_of_methodNamed B.named
  have hlocks := B.notSynchronized
  have hl := lv_entry ([.ref q0, .int 4]) (n := 2) (Nat.le_of_ble_eq_true rfl)
  rw [lg_entry_eq]
  generalize (lg_sl ([.ref q0, .int 4]) ++ List.replicate (2 - (lg_sl ([.ref q0, .int 4])).length) Slot.unset).toArray = ls at hl ⊢
  have hl : lv_has ls 2 [(0, .ref q0), (1, .int 4)] := hl
  unfold wp_Or_takesLine_4_w at hQ
  have bs_1 := hO_0.i m0 (show slotD 15 5 = some (.inl (0, 12)) from rfl)
  have bs_2 := hO_0.i m0 (show slotD 15 6 = some (.inl (0, 12)) from rfl)
  refine lv_iload_n hx hb d_Or_takesLine_0 rfl (lv_at hl 1 rfl) ?_
  refine lv_if_ne (tgt := 19) hx hb d_Or_takesLine_1 (by decide) (fun _ => ?_) (fun h => absurd h (by decide +kernel))
  refine lv_iload_n hx hb d_Or_takesLine_19 rfl (lv_at hl 1 rfl) ?_
  refine lv_iconst (v := 1) hx hb d_Or_takesLine_20 (by decide +kernel) ?_
  refine lv_icmp_ne (tgt := 39) hx hb d_Or_takesLine_21 (by decide) (fun _ => ?_) (fun h => absurd h (by decide +kernel))
  refine lv_aload_n hx hb d_Or_takesLine_39 rfl (lv_at hl 0 rfl) ?_
  refine tw_getr (D := (dC, dI)) (C := R_Or) (T := F_Or) (N := 9) (ci := 3) (kd := 15) (ct := ct) hx hb htb i_Or hown hK hP hO_0 m0 rfl rfl 4 (by decide) (htb (.fieldLink R_Or 20 "WaterMen$Order" "single" "[I") tw_248) (fun _ h9 => h9) rfl d_Or_takesLine_40 (fun q_3 e_3 m_3 => ?_)
  have hQ := hQ q_3 e_3
  refine lv_iload_n hx hb d_Or_takesLine_43 rfl (lv_at hl 1 rfl) ?_
  refine tw_aldI (ct := ct) hx hb hK hP hO_0 m_3 rfl (by unfold vp_in; decide +kernel) d_Or_takesLine_44 (fun x_4 e_4 b_4 => ?_)
  have hQ := hQ x_4 e_4
  refine lv_iconst (v := (-1)) hx hb d_Or_takesLine_45 (by decide +kernel) ?_
  refine lv_icmp_ne (tgt := 53) hx hb d_Or_takesLine_46 (by decide) (fun c_5 => ?_) (fun c_5 => ?_)
  · have hQ := hQ.2 c_5
    refine lv_iconst (v := 0) hx hb d_Or_takesLine_53 (by decide +kernel) ?_
    exact W.zret (v := 0) hx hb hr (by decide +kernel) (fun t ht hW => ⟨0, rfl, ⟨(Or.inl ⟨rfl, trivial⟩), hQ⟩, ht⟩) t_nil d_Or_takesLine_54
  · have hQ := hQ.1 c_5
    refine lv_iconst (v := 1) hx hb d_Or_takesLine_49 (by decide +kernel) ?_
    refine lv_goto (tgt := 54) hx hb d_Or_takesLine_50 (by decide) ?_
    exact W.zret (v := 1) hx hb hr (by decide +kernel) (fun t ht hW => ⟨1, rfl, ⟨(Or.inr ⟨rfl, trivial⟩), hQ⟩, ht⟩) t_nil d_Or_takesLine_54
def W_Or_addLine_4_w : List (Nat × Nat) := [(18, 1000)]
def wp_Or_addLine_4_w (L : List Nat) (f : TF) (q0 : Nat) (p_1 : Int32) (p_2 : Int32) (p_3 : Int32) (Q : List Nat → TF → Prop) : Prop := ∀ q_1 : Nat, tr f q0 4 = some q_1 → ∀ f_1 : TF, f_1 = sI f q_1 (4 : Int32).toNatClampNeg p_1 → Ok L f_1 → Q L f_1
set_option maxHeartbeats 4000000 in
set_option maxRecDepth 100000 in
theorem c_Or_addLine_4_w (l : Launch) (dC : Nat → ClassId) (dI : Nat → Nat → Nat) (ct : Nat → ClassId) (L : List Nat) (f : TF) (hO_0 : Ok L f) (q0 : Nat) (m0 : q0 ∈ L ∧ tk f q0 = 15) (sz : Nat) (p_1 : Int32) (p_2 : Int32) (p_3 : Int32)   (Q : List Nat → TF → Prop) (hQ : wp_Or_addLine_4_w L f q0 p_1 p_2 p_3 Q) : Met l y_Or_addLine (.code y_Or_addLine b_Or_addLine 5 none :: TB) ({ frames := 0, cells := 0, slots := 0, locals := 0 }) (va_Pc [.ref q0, .int 4, .int p_1, .int p_2, .int p_3] (PC dC dI (TW ct L f) (TT ct) sz)) (va_Qv (fun (u : TSt) => Ok u.1 u.2 ∧ Ext W_Or_addLine_4_w L f u.1 u.2 ∧ (True) ∧ Q u.1 u.2) (fun (u : TSt) t => va_P (dC, dI) vwCl (TW ct u.1 u.2) t.heap ∧ va_K (dC, dI) vwCl (TT ct) t ∧ va_D (va_A (TW ct L f) sz) (TW ct u.1 u.2)) (va_A (TW ct L f) sz)) 0 0 (va_A (TW ct L f) sz) := by
  refine Met.ofW (cc := b_Or_addLine) (maxL := 5) (ret := none) (by decide) rfl ?_
  intro p e s m args below meth c s₁ B hml hv
  obtain ⟨rfl, hsz, hP, hK, hD0, hN⟩ := hv
  have hx := B.exec
  have hb := B.bytes
  have hr := B.returns
  have hts := atoms_spec (ws := (.code y_Or_addLine b_Or_addLine 5 none :: TB)) B.pre
  have htb := fun w (h : w ∈ TB) => hts w (List.mem_cons_of_mem _ h)
  have hown : s.vm.findClass R_Or = some m.cls := findClass_of_methodNamed B.named
  have hlocks := B.notSynchronized
  have hl := lv_entry ([.ref q0, .int 4, .int p_1, .int p_2, .int p_3]) (n := 5) (Nat.le_of_ble_eq_true rfl)
  rw [lg_entry_eq]
  generalize (lg_sl ([.ref q0, .int 4, .int p_1, .int p_2, .int p_3]) ++ List.replicate (5 - (lg_sl ([.ref q0, .int 4, .int p_1, .int p_2, .int p_3])).length) Slot.unset).toArray = ls at hl ⊢
  have hl : lv_has ls 5 [(0, .ref q0), (1, .int 4), (2, .int p_1), (3, .int p_2), (4, .int p_3)] := hl
  subst hsz
  have hD := hD0.self (sz := s.heap.size)
  obtain ⟨A, hAe⟩ : ∃ A, va_A (TW ct L f) s.heap.size = A := ⟨_, rfl⟩
  rw [hAe] at hD
  have hA : ∀ q : Nat, s.heap.size ≤ q → A q := fun q h => by rw [← hAe]; exact Or.inr h
  have hS : va_S A s.heap s.heap [] := va_S.rf
  have hA_0 : Ext [] L f L f := Ext.rf
  suffices hGo : ∀ (H : Heap) (locs : List Loc), va_P (dC, dI) vwCl (TW ct L f) H → va_S A s.heap H locs → W p l e (headSpec (.code y_Or_addLine b_Or_addLine 5 none :: TB) ({ frames := 0, cells := 0, slots := 0, locals := 0 })).room s m [.ref q0, .int 4, .int p_1, .int p_2, .int p_3].toArray below meth c H locs 0 0 (MQ below (va_Qv (fun (u : TSt) => Ok u.1 u.2 ∧ Ext W_Or_addLine_4_w L f u.1 u.2 ∧ (True) ∧ Q u.1 u.2) (fun (u : TSt) t => va_P (dC, dI) vwCl (TW ct u.1 u.2) t.heap ∧ va_K (dC, dI) vwCl (TT ct) t ∧ va_D (va_A (TW ct L f) s.heap.size) (TW ct u.1 u.2)) (va_A (TW ct L f) s.heap.size)) [.ref q0, .int 4, .int p_1, .int p_2, .int p_3].toArray s 0 0 (va_A (TW ct L f) s.heap.size)) (F0 m 0 ls []) from hGo _ _ hP hS
  clear hP hS
  intro H locs hP hS
  unfold wp_Or_addLine_4_w at hQ
  refine lv_iload_n hx hb d_Or_addLine_0 rfl (lv_at hl 1 rfl) ?_
  refine lv_if_ne (tgt := 32) hx hb d_Or_addLine_1 (by decide) (fun _ => ?_) (fun h => absurd h (by decide +kernel))
  refine lv_iload_n hx hb d_Or_addLine_32 rfl (lv_at hl 1 rfl) ?_
  refine lv_iconst (v := 1) hx hb d_Or_addLine_33 (by decide +kernel) ?_
  refine lv_icmp_ne (tgt := 65) hx hb d_Or_addLine_34 (by decide) (fun _ => ?_) (fun h => absurd h (by decide +kernel))
  refine lv_aload_n hx hb d_Or_addLine_65 rfl (lv_at hl 0 rfl) ?_
  refine tw_getr (D := (dC, dI)) (C := R_Or) (T := F_Or) (N := 9) (ci := 3) (kd := 15) (ct := ct) hx hb htb i_Or hown hK hP hO_0 m0 rfl rfl 4 (by decide) (htb (.fieldLink R_Or 20 "WaterMen$Order" "single" "[I") tw_248) (fun _ h9 => h9) rfl d_Or_addLine_66 (fun q_1 e_1 m_1 => ?_)
  have hQ := hQ q_1 e_1
  refine lv_iload_n hx hb d_Or_addLine_69 rfl (lv_at hl 1 rfl) ?_
  refine lv_iload_n hx hb d_Or_addLine_70 rfl (lv_at hl 2 rfl) ?_
  refine tw_astI (ct := ct) (x := p_1) hx hb hK hP hD hS hO_0 m_1 rfl (by unfold vp_in; decide +kernel) (i32_full _) d_Or_addLine_71 (fun f_1 H locs hP hD hS hO_1 hE_1 w_2 ow_2 hF_1 => ?_)
  have hA_1 := hA_0.trans hE_1
  have hQ := hQ f_1 hF_1
  have hQ := hQ hO_1
  refine lv_iload_n hx hb d_Or_addLine_72 rfl (lv_at hl 1 rfl) ?_
  refine lv_bipush (v := 6) hx hb d_Or_addLine_73 (by decide +kernel) ?_
  refine lv_icmp_ne (tgt := 88) hx hb d_Or_addLine_75 (by decide) (fun _ => ?_) (fun h => absurd h (by decide +kernel))
  refine W.widen (k := 0) (n := 0) (Nat.le_of_ble_eq_true rfl) (Nat.le_of_ble_eq_true rfl) ?_
  exact W.vret hx hb hr (fun t ht hW => ⟨⟨(L, f_1), rfl, ⟨hO_1, hA_1.mono (by decide +kernel), trivial, hQ⟩, by rw [ht]; exact hP, va_K.moved hW.alike hK, by rw [hAe]; exact hD⟩, by rw [hAe]; exact hS.F ht⟩) (by rw [hAe]; exact hS.2.2) d_Or_addLine_88
def wp_Or_takesLine_5_w (L : List Nat) (f : TF) (q0 : Nat) (Q : Int32 → Prop) : Prop := ∀ q_3 : Nat, tr f q0 4 = some q_3 → ∀ x_4 : Int32, ti f q_3 (5 : Int32).toNatClampNeg = x_4 → ((x_4 = (-1) → Q 1) ∧ (¬ (x_4 = (-1)) → Q 0))
set_option maxHeartbeats 4000000 in
set_option maxRecDepth 100000 in
theorem c_Or_takesLine_5_w (l : Launch) (dC : Nat → ClassId) (dI : Nat → Nat → Nat) (ct : Nat → ClassId) (L : List Nat) (f : TF) (hO_0 : Ok L f) (q0 : Nat) (m0 : q0 ∈ L ∧ tk f q0 = 15)    (Q : Int32 → Prop) (hQ : wp_Or_takesLine_5_w L f q0 Q) : Met l y_Or_takesLine (.code y_Or_takesLine b_Or_takesLine 2 (some .boolean) :: TB) ({ frames := 0, cells := 0, slots := 0, locals := 0 }) (va_Pc [.ref q0, .int 5] (PR dC dI (TW ct L f) (TT ct))) (vp_Si (fun r => ((r = 0 ∧ True) ∨ (r = 1 ∧ True)) ∧ Q r)) 0 0 (fun _ => False) := by
  refine Met.ofW (cc := b_Or_takesLine) (maxL := 2) (ret := (some .boolean)) (by decide) rfl ?_
  intro p e s m args below meth c s₁ B hml hv
  obtain ⟨rfl, hP, hK, hN⟩ := hv
  have hx := B.exec
  have hb := B.bytes
  have hr := B.returns
  have hts := atoms_spec (ws := (.code y_Or_takesLine b_Or_takesLine 2 (some .boolean) :: TB)) B.pre
  have htb := fun w (h : w ∈ TB) => hts w (List.mem_cons_of_mem _ h)
  have hown : s.vm.findClass R_Or = some m.cls := findClass_of_methodNamed B.named
  have hlocks := B.notSynchronized
  have hl := lv_entry ([.ref q0, .int 5]) (n := 2) (Nat.le_of_ble_eq_true rfl)
  rw [lg_entry_eq]
  generalize (lg_sl ([.ref q0, .int 5]) ++ List.replicate (2 - (lg_sl ([.ref q0, .int 5])).length) Slot.unset).toArray = ls at hl ⊢
  have hl : lv_has ls 2 [(0, .ref q0), (1, .int 5)] := hl
  unfold wp_Or_takesLine_5_w at hQ
  have bs_1 := hO_0.i m0 (show slotD 15 5 = some (.inl (0, 12)) from rfl)
  have bs_2 := hO_0.i m0 (show slotD 15 6 = some (.inl (0, 12)) from rfl)
  refine lv_iload_n hx hb d_Or_takesLine_0 rfl (lv_at hl 1 rfl) ?_
  refine lv_if_ne (tgt := 19) hx hb d_Or_takesLine_1 (by decide) (fun _ => ?_) (fun h => absurd h (by decide +kernel))
  refine lv_iload_n hx hb d_Or_takesLine_19 rfl (lv_at hl 1 rfl) ?_
  refine lv_iconst (v := 1) hx hb d_Or_takesLine_20 (by decide +kernel) ?_
  refine lv_icmp_ne (tgt := 39) hx hb d_Or_takesLine_21 (by decide) (fun _ => ?_) (fun h => absurd h (by decide +kernel))
  refine lv_aload_n hx hb d_Or_takesLine_39 rfl (lv_at hl 0 rfl) ?_
  refine tw_getr (D := (dC, dI)) (C := R_Or) (T := F_Or) (N := 9) (ci := 3) (kd := 15) (ct := ct) hx hb htb i_Or hown hK hP hO_0 m0 rfl rfl 4 (by decide) (htb (.fieldLink R_Or 20 "WaterMen$Order" "single" "[I") tw_248) (fun _ h9 => h9) rfl d_Or_takesLine_40 (fun q_3 e_3 m_3 => ?_)
  have hQ := hQ q_3 e_3
  refine lv_iload_n hx hb d_Or_takesLine_43 rfl (lv_at hl 1 rfl) ?_
  refine tw_aldI (ct := ct) hx hb hK hP hO_0 m_3 rfl (by unfold vp_in; decide +kernel) d_Or_takesLine_44 (fun x_4 e_4 b_4 => ?_)
  have hQ := hQ x_4 e_4
  refine lv_iconst (v := (-1)) hx hb d_Or_takesLine_45 (by decide +kernel) ?_
  refine lv_icmp_ne (tgt := 53) hx hb d_Or_takesLine_46 (by decide) (fun c_5 => ?_) (fun c_5 => ?_)
  · have hQ := hQ.2 c_5
    refine lv_iconst (v := 0) hx hb d_Or_takesLine_53 (by decide +kernel) ?_
    exact W.zret (v := 0) hx hb hr (by decide +kernel) (fun t ht hW => ⟨0, rfl, ⟨(Or.inl ⟨rfl, trivial⟩), hQ⟩, ht⟩) t_nil d_Or_takesLine_54
  · have hQ := hQ.1 c_5
    refine lv_iconst (v := 1) hx hb d_Or_takesLine_49 (by decide +kernel) ?_
    refine lv_goto (tgt := 54) hx hb d_Or_takesLine_50 (by decide) ?_
    exact W.zret (v := 1) hx hb hr (by decide +kernel) (fun t ht hW => ⟨1, rfl, ⟨(Or.inr ⟨rfl, trivial⟩), hQ⟩, ht⟩) t_nil d_Or_takesLine_54
