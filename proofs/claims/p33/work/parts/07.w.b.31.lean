def W_Pn_init_w : List (Nat × Nat) := [(26, 0), (26, 1)]
def wp_Pn_init_w (L : List Nat) (f : TF) (q0 : Nat) (p_0 : Int32) (p_1 : Int32) (Q : List Nat → TF → Prop) : Prop := ∀ f_1 : TF, f_1 = sI f q0 0 p_0 → Ok L f_1 → ∀ f_2 : TF, f_2 = sI f_1 q0 1 p_1 → Ok L f_2 → Q L f_2
set_option maxHeartbeats 4000000 in
set_option maxRecDepth 100000 in
theorem c_Pn_init_w (l : Launch) (dC : Nat → ClassId) (dI : Nat → Nat → Nat) (ct : Nat → ClassId) (L : List Nat) (f : TF) (hO_0 : Ok L f) (q0 : Nat) (m0 : q0 ∈ L ∧ tk f q0 = 26) (sz : Nat) (p_0 : Int32) (p_1 : Int32)   (Q : List Nat → TF → Prop) (hQ : wp_Pn_init_w L f q0 p_0 p_1 Q) : Met l y_Pn_init (.code y_Pn_init b_Pn_init 3 none :: TB) ({ frames := 1, cells := 0, slots := 0, locals := 12 }) (va_Pc [.ref q0, .int p_0, .int p_1] (PC dC dI (TW ct L f) (TT ct) sz)) (va_Qv (fun (u : TSt) => Ok u.1 u.2 ∧ Ext W_Pn_init_w L f u.1 u.2 ∧ (True) ∧ Q u.1 u.2) (fun (u : TSt) t => va_P (dC, dI) vwCl (TW ct u.1 u.2) t.heap ∧ va_K (dC, dI) vwCl (TT ct) t ∧ va_D (va_A (TW ct L f) sz) (TW ct u.1 u.2)) (va_A (TW ct L f) sz)) 0 0 (va_A (TW ct L f) sz) := by
  refine Met.ofW (cc := b_Pn_init) (maxL := 3) (ret := none) (by decide) rfl ?_
  intro p e s m args below meth c s₁ B hml hv
  obtain ⟨rfl, hsz, hP, hK, hD0, hN⟩ := hv
  have hx := B.exec
  have hb := B.bytes
  have hr := B.returns
  have hts := atoms_spec (ws := (.code y_Pn_init b_Pn_init 3 none :: TB)) B.pre
  have htb := fun w (h : w ∈ TB) => hts w (List.mem_cons_of_mem _ h)
  have hown : s.vm.findClass R_Pn = some m.cls := findClass_of_methodNamed B.named
  have hlocks := B.notSynchronized
  have hin : meth.name = "<init>" := (name_of_methodNamed B.named B.method).1
  have hl := lv_entry ([.ref q0, .int p_0, .int p_1]) (n := 3) (Nat.le_of_ble_eq_true rfl)
  rw [lg_entry_eq]
  generalize (lg_sl ([.ref q0, .int p_0, .int p_1]) ++ List.replicate (3 - (lg_sl ([.ref q0, .int p_0, .int p_1])).length) Slot.unset).toArray = ls at hl ⊢
  have hl : lv_has ls 3 [(0, .ref q0), (1, .int p_0), (2, .int p_1)] := hl
  subst hsz
  have hD := hD0.self (sz := s.heap.size)
  obtain ⟨A, hAe⟩ : ∃ A, va_A (TW ct L f) s.heap.size = A := ⟨_, rfl⟩
  rw [hAe] at hD
  have hA : ∀ q : Nat, s.heap.size ≤ q → A q := fun q h => by rw [← hAe]; exact Or.inr h
  have hS : va_S A s.heap s.heap [] := va_S.rf
  have hA_0 : Ext [] L f L f := Ext.rf
  suffices hGo : ∀ (H : Heap) (locs : List Loc), va_P (dC, dI) vwCl (TW ct L f) H → va_S A s.heap H locs → W p l e (headSpec (.code y_Pn_init b_Pn_init 3 none :: TB) ({ frames := 1, cells := 0, slots := 0, locals := 12 })).room s m [.ref q0, .int p_0, .int p_1].toArray below meth c H locs 0 0 (MQ below (va_Qv (fun (u : TSt) => Ok u.1 u.2 ∧ Ext W_Pn_init_w L f u.1 u.2 ∧ (True) ∧ Q u.1 u.2) (fun (u : TSt) t => va_P (dC, dI) vwCl (TW ct u.1 u.2) t.heap ∧ va_K (dC, dI) vwCl (TT ct) t ∧ va_D (va_A (TW ct L f) s.heap.size) (TW ct u.1 u.2)) (va_A (TW ct L f) s.heap.size)) [.ref q0, .int p_0, .int p_1].toArray s 0 0 (va_A (TW ct L f) s.heap.size)) (F0 m 0 ls []) from hGo _ _ hP hS
  clear hP hS
  intro H locs hP hS
  unfold wp_Pn_init_w at hQ
  refine lv_aload_n hx hb d_Pn_init_0 rfl (lv_at hl 0 rfl) ?_
  refine W.objInit hx hb hown (htb (.methodLink R_Pn 1 objectInit) tw_643) (htb (.instanceMethod objectInit) tw_329) (htb (.code objectInit ⟨#[0xb1]⟩ 1 none) tw_330) rfl (by rw [hml]; exact hl.1) rfl d_Pn_init_1 (Nat.le_of_ble_eq_true rfl) (Nat.le_of_ble_eq_true rfl) ?_
  refine W.eq (g2 := F0 m 4 ls []) rfl ?_
  refine lv_aload_n hx hb d_Pn_init_4 rfl (lv_at hl 0 rfl) ?_
  refine lv_iload_n hx hb d_Pn_init_5 rfl (lv_at hl 1 rfl) ?_
  refine tw_putFi (v := p_0) (D := (dC, dI)) (C := R_Pn) (T := F_Pn) (N := 3) (ci := 6) (kd := 26) (ct := ct) (ty := .int) hx hb htb i_Pn t_Pn t_Pn_ok n_Pn hown hK hP hD hS hO_0 m0 rfl rfl 0 (by decide) (htb (.fieldLink R_Pn 7 "WaterMen$Pensioner" "pension" "I") tw_644) (fun _ h9 => h9) rfl hin rfl (by decide +kernel) rfl rfl rfl (i32_full _) d_Pn_init_6 (fun f_1 H locs hP hD hS hO_1 hE_1 w_1 hF_1 => ?_)
  have hA_1 := hA_0.trans hE_1
  have hQ := hQ f_1 hF_1
  have hQ := hQ hO_1
  refine lv_aload_n hx hb d_Pn_init_9 rfl (lv_at hl 0 rfl) ?_
  refine lv_iload_n hx hb d_Pn_init_10 rfl (lv_at hl 2 rfl) ?_
  refine tw_putFi (v := p_1) (D := (dC, dI)) (C := R_Pn) (T := F_Pn) (N := 3) (ci := 6) (kd := 26) (ct := ct) (ty := .int) hx hb htb i_Pn t_Pn t_Pn_ok n_Pn hown hK hP hD hS hO_1 (hA_1.m m0) rfl rfl 1 (by decide) (htb (.fieldLink R_Pn 13 "WaterMen$Pensioner" "end" "I") tw_645) (fun _ h9 => h9) rfl hin rfl (by decide +kernel) rfl rfl rfl (i32_full _) d_Pn_init_11 (fun f_2 H locs hP hD hS hO_2 hE_2 w_2 hF_2 => ?_)
  have hA_2 := hA_1.trans hE_2
  have hQ := hQ f_2 hF_2
  have hQ := hQ hO_2
  refine W.widen (k := 0) (n := 0) (Nat.le_of_ble_eq_true rfl) (Nat.le_of_ble_eq_true rfl) ?_
  exact W.vret hx hb hr (fun t ht hW => ⟨⟨(L, f_2), rfl, ⟨hO_2, hA_2.mono (by decide +kernel), trivial, hQ⟩, by rw [ht]; exact hP, va_K.moved hW.alike hK, by rw [hAe]; exact hD⟩, by rw [hAe]; exact hS.F ht⟩) (by rw [hAe]; exact hS.2.2) d_Pn_init_14
def W_Bx_take_w : List (Nat × Nat) := [(12, 6), (14, 1000), (26, 0), (26, 1)]
def wp_Bx_take_w (L : List Nat) (f : TF) (q0 : Nat) (p_0 : Int32) (p_1 : Int32) (Q : Int32 → List Nat → TF → Prop) : Prop := ∀ q_1 : Nat, tr f q0 5 = some q_1 → ∀ (q_n1 : Nat) (L_1 : List Nat) (f_1 : TF), q_n1 ∉ L → L_1 = L ++ [q_n1] → f_1 = nC f q_n1 26 → Ok L_1 f_1 → wp_Pn_init_w L_1 f_1 q_n1 p_0 p_1 (fun (L_2 : List Nat) (f_2 : TF) => Ok L_2 f_2 → Ext W_Pn_init_w L_1 f_1 L_2 f_2 → ∀ f_3 : TF, f_3 = sR f_2 q_1 ((ti f q0 6) : Int32).toNatClampNeg q_n1 → Ok L_2 f_3 → ∀ f_4 : TF, f_4 = sI f_3 q0 6 ((ti f q0 6) + 1) → Ok L_2 f_4 → Q (((ti f q0 6) + 1) - 1) L_2 f_4)
set_option maxHeartbeats 4000000 in
set_option maxRecDepth 100000 in
theorem c_Bx_take_w (l : Launch) (dC : Nat → ClassId) (dI : Nat → Nat → Nat) (ct : Nat → ClassId) (L : List Nat) (f : TF) (hO_0 : Ok L f) (q0 : Nat) (m0 : q0 ∈ L ∧ tk f q0 = 12) (sz : Nat) (p_0 : Int32) (p_1 : Int32)  (as_0 : ¬ (29 < (ti f q0 6))) (Q : Int32 → List Nat → TF → Prop) (hQ : wp_Bx_take_w L f q0 p_0 p_1 Q) : Met l y_Bx_take (.code y_Bx_take b_Bx_take 3 (some .int) :: TB) ({ frames := 2, cells := 1, slots := 3, locals := 34 }) (va_Pc [.ref q0, .int p_0, .int p_1] (PC dC dI (TW ct L f) (TT ct) sz)) (va_Qi (fun r (u : TSt) => Ok u.1 u.2 ∧ Ext W_Bx_take_w L f u.1 u.2 ∧ (True) ∧ Q r u.1 u.2) (fun (u : TSt) t => va_P (dC, dI) vwCl (TW ct u.1 u.2) t.heap ∧ va_K (dC, dI) vwCl (TT ct) t ∧ va_D (va_A (TW ct L f) sz) (TW ct u.1 u.2)) (va_A (TW ct L f) sz)) 1 3 (va_A (TW ct L f) sz) := by
  refine Met.ofW (cc := b_Bx_take) (maxL := 3) (ret := (some .int)) (by decide) rfl ?_
  intro p e s m args below meth c s₁ B hml hv
  obtain ⟨rfl, hsz, hP, hK, hD0, hN⟩ := hv
  have hx := B.exec
  have hb := B.bytes
  have hr := B.returns
  have hts := atoms_spec (ws := (.code y_Bx_take b_Bx_take 3 (some .int) :: TB)) B.pre
  have htb := fun w (h : w ∈ TB) => hts w (List.mem_cons_of_mem _ h)
  have hown : s.vm.findClass R_Bx = some m.cls := findClass_of_methodNamed B.named
  have hlocks := B.notSynchronized
  have hl := lv_entry ([.ref q0, .int p_0, .int p_1]) (n := 3) (Nat.le_of_ble_eq_true rfl)
  rw [lg_entry_eq]
  generalize (lg_sl ([.ref q0, .int p_0, .int p_1]) ++ List.replicate (3 - (lg_sl ([.ref q0, .int p_0, .int p_1])).length) Slot.unset).toArray = ls at hl ⊢
  have hl : lv_has ls 3 [(0, .ref q0), (1, .int p_0), (2, .int p_1)] := hl
  subst hsz
  have hD := hD0.self (sz := s.heap.size)
  obtain ⟨A, hAe⟩ : ∃ A, va_A (TW ct L f) s.heap.size = A := ⟨_, rfl⟩
  rw [hAe] at hD
  have hA : ∀ q : Nat, s.heap.size ≤ q → A q := fun q h => by rw [← hAe]; exact Or.inr h
  have hS : va_S A s.heap s.heap [] := va_S.rf
  have hA_0 : Ext [] L f L f := Ext.rf
  suffices hGo : ∀ (H : Heap) (locs : List Loc), va_P (dC, dI) vwCl (TW ct L f) H → va_S A s.heap H locs → W p l e (headSpec (.code y_Bx_take b_Bx_take 3 (some .int) :: TB) ({ frames := 2, cells := 1, slots := 3, locals := 34 })).room s m [.ref q0, .int p_0, .int p_1].toArray below meth c H locs 0 0 (MQ below (va_Qi (fun r (u : TSt) => Ok u.1 u.2 ∧ Ext W_Bx_take_w L f u.1 u.2 ∧ (True) ∧ Q r u.1 u.2) (fun (u : TSt) t => va_P (dC, dI) vwCl (TW ct u.1 u.2) t.heap ∧ va_K (dC, dI) vwCl (TT ct) t ∧ va_D (va_A (TW ct L f) s.heap.size) (TW ct u.1 u.2)) (va_A (TW ct L f) s.heap.size)) [.ref q0, .int p_0, .int p_1].toArray s 1 3 (va_A (TW ct L f) s.heap.size)) (F0 m 0 ls []) from hGo _ _ hP hS
  clear hP hS
  intro H locs hP hS
  unfold wp_Bx_take_w at hQ
  have bp_6 := hO_0.i m0 (show slotD 12 6 = some (.inl (0, 30)) from rfl)
  refine lv_aload_n hx hb d_Bx_take_0 rfl (lv_at hl 0 rfl) ?_
  refine tw_getr (D := (dC, dI)) (C := R_Bx) (T := F_Bx) (N := 7) (ci := 5) (kd := 12) (ct := ct) hx hb htb i_Bx hown hK hP hO_0 m0 rfl rfl 5 (by decide) (htb (.fieldLink R_Bx 17 "WaterMen$Box" "pensioners" "[LWaterMen$Pensioner;") tw_59) (fun _ h9 => h9) rfl d_Bx_take_1 (fun q_1 e_1 m_1 => ?_)
  have hQ := hQ q_1 e_1
  refine lv_aload_n hx hb d_Bx_take_4 rfl (lv_at hl 0 rfl) ?_
  refine tw_getI (x := (ti f q0 6)) (D := (dC, dI)) (C := R_Bx) (T := F_Bx) (N := 7) (ci := 5) (kd := 12) (ct := ct) hx hb htb i_Bx hown hK hP m0 rfl rfl 6 rfl (by decide) (htb (.fieldLink R_Bx 29 "WaterMen$Box" "pensionerCount" "I") tw_58) (fun _ h9 => h9) rfl d_Bx_take_5 ?_
  refine tw_newO (D := (dC, dI)) (ci := 6) (fs := [.int 0, .int 0, .int 0]) (C := R_Pn) (T := F_Pn) (N := 3) (ct := ct) hx hb htb i_Pn t_Pn t_Pn_ok hown (htb (.classLink R_Bx 15 R_Pn) tw_640) (htb (.instantiable R_Pn 3) tw_641) (htb (.initialized R_Pn) tw_642) hK hP hD hS hA hO_0 26 rfl rfl rfl (by decide +kernel) (df_Pn) (Nat.le_of_ble_eq_true rfl) (Nat.le_of_ble_eq_true rfl) d_Bx_take_8 (fun q_n1 L_1 f_1 H hP hD hS hO_1 hE_1 m_n1 nq_1 hL_1 hF_1 => ?_)
  have hA_1 := hA_0.trans hE_1
  have hQ := hQ q_n1 L_1 f_1 nq_1 hL_1 hF_1 hO_1
  refine lv_dup hx hb d_Bx_take_11 rfl ?_
  refine lv_iload_n hx hb d_Bx_take_12 rfl (lv_at hl 1 rfl) ?_
  refine lv_iload_n hx hb d_Bx_take_13 rfl (lv_at hl 2 rfl) ?_
  have hFc := hb_free hD hS hA
  refine va_callv (va_runI (As := [.int p_0, .int p_1]) (rest := [.ref q_n1, .int (ti f q0 6), .ref q_1]) ⟨hx, hb, hml, hown, htb⟩ (c_Pn_init_w l dC dI ct L_1 f_1 hO_1 q_n1 m_n1 _ p_0 p_1 _ hQ) (cwI 2 htb (gd_I tw_646) rfl rfl rfl (htb (.initialized R_Pn) tw_642) (htb (.methodLink R_Bx 32 y_Pn_init) tw_647) (htb (.instanceMethod y_Pn_init) tw_648) rfl (by decide +kernel) ⟨Nat.le_of_ble_eq_true rfl, Nat.le_of_ble_eq_true rfl⟩) ⟨pc_blind, pc_pre hP hK hD hN⟩ rfl rfl hl.1 rfl (lv_room (Nat.le_of_ble_eq_true rfl)) d_Bx_take_14 ⟨Nat.le_of_ble_eq_true rfl, Nat.le_of_ble_eq_true rfl⟩) hS (fun q _ h => hFc q h) hFc (fun u t H locs ht hvm er hB hz1 hk1 hS => ?_)
  obtain ⟨L_2, f_2⟩ := u
  obtain ⟨hO_2, hE_2, er, hQ⟩ := er
  obtain ⟨hP, hK1, hD1⟩ := hB
  rw [ht] at hP
  have hP : va_P (dC, dI) vwCl (TW ct L_2 f_2) H := hP
  have hD : va_D A (TW ct L_2 f_2) := hD1.weaken (fun _ q _ h => hFc q.1 h)
  have hO_2 : Ok L_2 f_2 := hO_2
  have hE_2 : Ext W_Pn_init_w L_1 f_1 L_2 f_2 := hE_2
  clear hK1 hD1 ht hvm hz1 hk1
  have hA_2 := hA_1.trans hE_2
  have hQ := hQ hO_2 hE_2
  clear er
  refine tw_astq (ct := ct) hx hb hK hP hD hS hO_2 (hA_2.m m_1) rfl rfl (hE_2.m m_n1) rfl rfl (hb_inl bp_6.1 as_0 (by decide +kernel)) d_Bx_take_17 (fun f_3 H locs hP hD hS hO_3 hE_3 w_3 hF_3 => ?_)
  have hA_3 := hA_2.trans hE_3
  have hQ := hQ f_3 hF_3
  have hQ := hQ hO_3
  refine lv_aload_n hx hb d_Bx_take_18 rfl (lv_at hl 0 rfl) ?_
  refine lv_dup hx hb d_Bx_take_19 rfl ?_
  refine tw_getI (x := (ti f q0 6)) (D := (dC, dI)) (C := R_Bx) (T := F_Bx) (N := 7) (ci := 5) (kd := 12) (ct := ct) hx hb htb i_Bx hown hK hP (hA_3.m m0) rfl rfl 6 ((hA_3.ei m0 rfl).trans rfl) (by decide) (htb (.fieldLink R_Bx 29 "WaterMen$Box" "pensionerCount" "I") tw_58) (fun _ h9 => h9) rfl d_Bx_take_20 ?_
  refine lv_iconst (v := 1) hx hb d_Bx_take_23 (by decide +kernel) ?_
  refine lv_iadd hx hb d_Bx_take_24 ?_
  refine tw_puti (v := ((ti f q0 6) + 1)) (D := (dC, dI)) (C := R_Bx) (T := F_Bx) (N := 7) (ci := 5) (kd := 12) (ct := ct) (ty := .int) hx hb htb i_Bx t_Bx t_Bx_ok n_Bx hown hK hP hD hS hO_3 (hA_3.m m0) rfl rfl 6 (by decide) (htb (.fieldLink R_Bx 29 "WaterMen$Box" "pensionerCount" "I") tw_58) (fun _ h9 => h9) rfl (by decide +kernel) rfl rfl rfl ⟨(show ¬ (((ti f q0 6) + 1) < 0) from ((fun (a_0 : Int32) (k_0 : ¬ (a_0 < 0)) (k_1 : ¬ (30 < a_0)) => (show ¬ ((a_0 + 1) < 0) from by have z0 : (0 : Int32).toInt = 0 := (by decide +kernel); have z1 : (1 : Int32).toInt = 1 := (by decide +kernel); have z2 : (30 : Int32).toInt = 30 := (by decide +kernel); have r0 := fb_rng (a_0); have e0 := k_0; rw [Int32.lt_iff_toInt_lt, z0] at e0; have e1 := k_1; rw [Int32.lt_iff_toInt_lt, z2] at e1; obtain ⟨n_0, hn_0, s0⟩ := nd_add (x := a_0) (y := (1 : Int32)) (by (try rw [z1]); omega) (by (try rw [z1]); omega); rw [z1] at s0; rw [hn_0, Int32.lt_iff_toInt_lt, z0]; omega)) (ti f q0 6) bp_6.1 bp_6.2)), (show ¬ (30 < ((ti f q0 6) + 1)) from ((fun (a_0 : Int32) (k_0 : ¬ (29 < a_0)) => (show ¬ (30 < (a_0 + 1)) from by have z0 : (1 : Int32).toInt = 1 := (by decide +kernel); have z1 : (29 : Int32).toInt = 29 := (by decide +kernel); have z2 : (30 : Int32).toInt = 30 := (by decide +kernel); have r0 := fb_rng (a_0); have e0 := k_0; rw [Int32.lt_iff_toInt_lt, z1] at e0; obtain ⟨n_0, hn_0, s0⟩ := nd_add (x := a_0) (y := (1 : Int32)) (by (try rw [z0]); omega) (by (try rw [z0]); omega); rw [z0] at s0; rw [hn_0, Int32.lt_iff_toInt_lt, z2]; omega)) (ti f q0 6) as_0))⟩ d_Bx_take_25 (fun f_4 H locs hP hD hS hO_4 hE_4 w_4 hF_4 => ?_)
  have hA_4 := hA_3.trans hE_4
  have hQ := hQ f_4 hF_4
  have hQ := hQ hO_4
  refine lv_aload_n hx hb d_Bx_take_28 rfl (lv_at hl 0 rfl) ?_
  refine tw_getI (x := ((ti f q0 6) + 1)) (D := (dC, dI)) (C := R_Bx) (T := F_Bx) (N := 7) (ci := 5) (kd := 12) (ct := ct) hx hb htb i_Bx hown hK hP (hA_4.m m0) rfl rfl 6 w_4 (by decide) (htb (.fieldLink R_Bx 29 "WaterMen$Box" "pensionerCount" "I") tw_58) (fun _ h9 => h9) rfl d_Bx_take_29 ?_
  refine lv_iconst (v := 1) hx hb d_Bx_take_32 (by decide +kernel) ?_
  refine lv_isub hx hb d_Bx_take_33 ?_
  refine W.widen (k := 1) (n := 3) (Nat.le_of_ble_eq_true rfl) (Nat.le_of_ble_eq_true rfl) ?_
  exact W.iret (v := (((ti f q0 6) + 1) - 1)) hx hb hr (fun t ht hW => ⟨⟨(((ti f q0 6) + 1) - 1), (L_2, f_4), rfl, ⟨hO_4, hA_4.mono (by decide +kernel), trivial, hQ⟩, by rw [ht]; exact hP, va_K.moved hW.alike hK, by rw [hAe]; exact hD⟩, by rw [hAe]; exact hS.F ht⟩) (by rw [hAe]; exact hS.2.2) d_Bx_take_34
def W_WM_sink_w : List (Nat × Nat) := [(12, 6), (14, 1000), (20, 0), (20, 5), (24, 5), (25, 7), (26, 0), (26, 1)]
def wp_WM_sink_w (L : List Nat) (f : TF) (q0 : Nat) (p_0 : Int32) (p_1 : Int32) (p_2 : Int32) (Q : Int32 → List Nat → TF → Prop) : Prop := wp_WM_boatAt_w L f q0 p_0 (fun (r_1 : Option Nat) => ((r_1 = none → Q (-1) L f) ∧ (∀ q_1 : Nat, r_1 = some q_1 → ((p_1 < 1 → Q (-1) L f) ∧ (¬ (p_1 < 1) → ((10000 < p_1 → Q (-1) L f) ∧ (¬ (10000 < p_1) → ((p_2 < 0 → Q (-1) L f) ∧ (¬ (p_2 < 0) → ((9999 < p_2 → Q (-1) L f) ∧ (¬ (9999 < p_2) → ∀ x_7 : Int32, ti f q_1 3 = x_7 → wp_WM_manAt_w L f q0 x_7 (fun (r_8 : Option Nat) => ((r_8 = none → ∀ x_9 : Int32, ti f q0 10 = x_9 → wp_Bt_stateAt_w L f q_1 x_9 (fun (r_10 : Int32) => ((r_10 = 1 → Q (-2) L f) ∧ (¬ (r_10 = 1) → Q (-2) L f)))) ∧ (∀ q_8 : Nat, r_8 = some q_8 → ∀ x_12 : Int32, ti f q0 10 = x_12 → wp_Bt_stateAt_w L f q_1 x_12 (fun (r_13 : Int32) => ((r_13 = 1 → ∀ q_15 : Nat, tr f q0 6 = some q_15 → ∀ x_16 : Int32, ti f q_15 6 = x_16 → ((x_16 < 30 → ∀ f_1 : TF, f_1 = sI f q_1 5 1 → Ok L f_1 → ∀ f_2 : TF, f_2 = sI f_1 q_8 0 3 → Ok L f_2 → ∀ f_3 : TF, f_3 = sI f_2 q_8 5 x_12 → Ok L f_3 → ∀ x_21 : Int32, ti f_3 q_1 4 = x_21 → wp_WM_tripAt_w L f_3 q0 x_21 (fun (r_22 : Option Nat) => ((r_22 = none → wp_Bx_take_w L f_3 q_15 p_1 p_2 (fun (r_23 : Int32) (L_4 : List Nat) (f_4 : TF) => Ok L_4 f_4 → Ext W_Bx_take_w L f_3 L_4 f_4 → Q r_23 L_4 f_4)) ∧ (∀ q_22 : Nat, r_22 = some q_22 → ∀ f_4 : TF, f_4 = sI f_3 q_22 7 1 → Ok L f_4 → wp_Bx_take_w L f_4 q_15 p_1 p_2 (fun (r_25 : Int32) (L_5 : List Nat) (f_5 : TF) => Ok L_5 f_5 → Ext W_Bx_take_w L f_4 L_5 f_5 → Q r_25 L_5 f_5))))) ∧ (¬ (x_16 < 30) → Q (-3) L f))) ∧ (¬ (r_13 = 1) → Q (-2) L f)))))))))))))))))
set_option maxHeartbeats 4000000 in
set_option maxRecDepth 100000 in
theorem c_WM_sink_w (l : Launch) (dC : Nat → ClassId) (dI : Nat → Nat → Nat) (ct : Nat → ClassId) (L : List Nat) (f : TF) (hO_0 : Ok L f) (q0 : Nat) (m0 : q0 ∈ L ∧ tk f q0 = 0) (sz : Nat) (p_0 : Int32) (p_1 : Int32) (p_2 : Int32)   (Q : Int32 → List Nat → TF → Prop) (hQ : wp_WM_sink_w L f q0 p_0 p_1 p_2 Q) : Met l y_WM_sink (.code y_WM_sink b_WM_sink 7 (some .int) :: TB) ({ frames := 3, cells := 1, slots := 3, locals := 56 }) (va_Pc [.ref q0, .int p_0, .int p_1, .int p_2] (PC dC dI (TW ct L f) (TT ct) sz)) (va_Qi (fun r (u : TSt) => Ok u.1 u.2 ∧ Ext W_WM_sink_w L f u.1 u.2 ∧ (True) ∧ Q r u.1 u.2) (fun (u : TSt) t => va_P (dC, dI) vwCl (TW ct u.1 u.2) t.heap ∧ va_K (dC, dI) vwCl (TT ct) t ∧ va_D (va_A (TW ct L f) sz) (TW ct u.1 u.2)) (va_A (TW ct L f) sz)) 1 3 (va_A (TW ct L f) sz) := by
  refine Met.ofW (cc := b_WM_sink) (maxL := 7) (ret := (some .int)) (by decide) rfl ?_
  intro p e s m args below meth c s₁ B hml hv
  obtain ⟨rfl, hsz, hP, hK, hD0, hN⟩ := hv
  have hx := B.exec
  have hb := B.bytes
  have hr := B.returns
  have hts := atoms_spec (ws := (.code y_WM_sink b_WM_sink 7 (some .int) :: TB)) B.pre
  have htb := fun w (h : w ∈ TB) => hts w (List.mem_cons_of_mem _ h)
  have hown : s.vm.findClass R_WM = some m.cls := findClass_of_methodNamed B.named
  have hlocks := B.notSynchronized
  have hl := lv_entry ([.ref q0, .int p_0, .int p_1, .int p_2]) (n := 7) (Nat.le_of_ble_eq_true rfl)
  rw [lg_entry_eq]
  generalize (lg_sl ([.ref q0, .int p_0, .int p_1, .int p_2]) ++ List.replicate (7 - (lg_sl ([.ref q0, .int p_0, .int p_1, .int p_2])).length) Slot.unset).toArray = ls at hl ⊢
  have hl : lv_has ls 7 [(0, .ref q0), (1, .int p_0), (2, .int p_1), (3, .int p_2)] := hl
  subst hsz
  have hD := hD0.self (sz := s.heap.size)
  obtain ⟨A, hAe⟩ : ∃ A, va_A (TW ct L f) s.heap.size = A := ⟨_, rfl⟩
  rw [hAe] at hD
  have hA : ∀ q : Nat, s.heap.size ≤ q → A q := fun q h => by rw [← hAe]; exact Or.inr h
  have hS : va_S A s.heap s.heap [] := va_S.rf
  have hA_0 : Ext [] L f L f := Ext.rf
  suffices hGo : ∀ (H : Heap) (locs : List Loc), va_P (dC, dI) vwCl (TW ct L f) H → va_S A s.heap H locs → W p l e (headSpec (.code y_WM_sink b_WM_sink 7 (some .int) :: TB) ({ frames := 3, cells := 1, slots := 3, locals := 56 })).room s m [.ref q0, .int p_0, .int p_1, .int p_2].toArray below meth c H locs 0 0 (MQ below (va_Qi (fun r (u : TSt) => Ok u.1 u.2 ∧ Ext W_WM_sink_w L f u.1 u.2 ∧ (True) ∧ Q r u.1 u.2) (fun (u : TSt) t => va_P (dC, dI) vwCl (TW ct u.1 u.2) t.heap ∧ va_K (dC, dI) vwCl (TT ct) t ∧ va_D (va_A (TW ct L f) s.heap.size) (TW ct u.1 u.2)) (va_A (TW ct L f) s.heap.size)) [.ref q0, .int p_0, .int p_1, .int p_2].toArray s 1 3 (va_A (TW ct L f) s.heap.size)) (F0 m 0 ls []) from hGo _ _ hP hS
  clear hP hS
  intro H locs hP hS
  unfold wp_WM_sink_w at hQ
  refine lv_aload_n hx hb d_WM_sink_0 rfl (lv_at hl 0 rfl) ?_
  refine lv_iload_n hx hb d_WM_sink_1 rfl (lv_at hl 1 rfl) ?_
  refine va_csq (va_Run.run (va_runV (As := [.int p_0]) (rest := []) ⟨hx, hb, hml, hown, htb⟩ (c_WM_boatAt_w l dC dI ct L f hO_0 q0 m0 p_0 _ hQ) (cwV 1 htb (gd_V tw_514 tw_515 tw_516 tw_26 tw_513) rfl rfl rfl (by decide +kernel) ⟨Nat.le_of_ble_eq_true rfl, Nat.le_of_ble_eq_true rfl⟩) ⟨pr_blind, tw_recv hK hP m0 rfl rfl, pr_pre hP hK hN⟩ rfl rfl hl.1 rfl (lv_room (Nat.le_of_ble_eq_true rfl)) d_WM_sink_2 ⟨Nat.le_of_ble_eq_true rfl, Nat.le_of_ble_eq_true rfl⟩)) (fun r_1 er_1 => ?_)
  obtain ⟨er_1, hQ⟩ := er_1
  rcases er_1 with rfl | ⟨q_1, rfl, m_1⟩
  · have hQ := hQ.1 rfl
    refine hb_tv .null rfl ?_
    refine lv_astoreN (lv' := [(4, .null), (0, .ref q0), (1, .int p_0), (2, .int p_1), (3, .int p_2)]) hx hb d_WM_sink_5 hl (by decide) rfl (fun ls hl => ?_)
    refine lv_aloadN hx hb d_WM_sink_7 (lv_at hl 0 rfl) ?_
    refine lv_ifnullN (tgt := 20) hx hb d_WM_sink_9 (by decide) ?_
    refine lv_iconst (v := (-1)) hx hb d_WM_sink_20 (by decide +kernel) ?_
    refine W.widen (k := 1) (n := 3) (Nat.le_of_ble_eq_true rfl) (Nat.le_of_ble_eq_true rfl) ?_
    exact W.iret (v := (-1)) hx hb hr (fun t ht hW => ⟨⟨(-1), (L, f), rfl, ⟨hO_0, hA_0.mono (by decide +kernel), trivial, hQ⟩, by rw [ht]; exact hP, va_K.moved hW.alike hK, by rw [hAe]; exact hD⟩, by rw [hAe]; exact hS.F ht⟩) (by rw [hAe]; exact hS.2.2) d_WM_sink_21
  · have hQ := hQ.2 q_1 rfl
    refine hb_tv (.ref q_1) rfl ?_
    refine lv_astore (lv' := [(4, .ref q_1), (0, .ref q0), (1, .int p_0), (2, .int p_1), (3, .int p_2)]) hx hb d_WM_sink_5 hl (by decide) rfl (fun ls hl => ?_)
    refine lv_aload hx hb d_WM_sink_7 (lv_at hl 0 rfl) ?_
    refine lv_ifnull hx hb d_WM_sink_9 ?_
    refine lv_iload_n hx hb d_WM_sink_12 rfl (lv_at hl 3 rfl) ?_
    refine lv_iload_n hx hb d_WM_sink_13 rfl (lv_at hl 4 rfl) ?_
    refine vp_callSi (va_Run.run (va_runS (As := [.int p_1, .int p_2]) (rest := []) ⟨hx, hb, hml, hown, htb⟩ (c_WM_isPension l p_1 p_2) (cwS 2 htb (gd_S tw_631 tw_632 tw_26 tw_630) rfl rfl rfl (by decide +kernel) ⟨Nat.le_of_ble_eq_true rfl, Nat.le_of_ble_eq_true rfl⟩) ⟨fun _ _ _ _ h => h, fun U _ _ => ⟨rfl, trivial⟩⟩ rfl rfl hl.1 rfl (lv_room (Nat.le_of_ble_eq_true rfl)) d_WM_sink_14 ⟨Nat.le_of_ble_eq_true rfl, Nat.le_of_ble_eq_true rfl⟩)) (fun r er => ?_)
    subst er
    by_cases c_3 : p_1 < 1
    · have hQ := hQ.1 c_3
      refine hb_ti 0 (by unfold f_WM_isPension; rw [if_pos c_3]; first | done | rfl) ?_
      refine lv_if_ne (tgt := 22) hx hb d_WM_sink_17 (by decide) (fun h => absurd (by decide +kernel) h) (fun _ => ?_)
      refine lv_iconst (v := (-1)) hx hb d_WM_sink_20 (by decide +kernel) ?_
      refine W.widen (k := 1) (n := 3) (Nat.le_of_ble_eq_true rfl) (Nat.le_of_ble_eq_true rfl) ?_
      exact W.iret (v := (-1)) hx hb hr (fun t ht hW => ⟨⟨(-1), (L, f), rfl, ⟨hO_0, hA_0.mono (by decide +kernel), trivial, hQ⟩, by rw [ht]; exact hP, va_K.moved hW.alike hK, by rw [hAe]; exact hD⟩, by rw [hAe]; exact hS.F ht⟩) (by rw [hAe]; exact hS.2.2) d_WM_sink_21
    · have hQ := hQ.2 c_3
      by_cases c_4 : 10000 < p_1
      · have hQ := hQ.1 c_4
        refine hb_ti 0 (by unfold f_WM_isPension; rw [if_neg c_3, if_pos c_4]; first | done | rfl) ?_
        refine lv_if_ne (tgt := 22) hx hb d_WM_sink_17 (by decide) (fun h => absurd (by decide +kernel) h) (fun _ => ?_)
        refine lv_iconst (v := (-1)) hx hb d_WM_sink_20 (by decide +kernel) ?_
        refine W.widen (k := 1) (n := 3) (Nat.le_of_ble_eq_true rfl) (Nat.le_of_ble_eq_true rfl) ?_
        exact W.iret (v := (-1)) hx hb hr (fun t ht hW => ⟨⟨(-1), (L, f), rfl, ⟨hO_0, hA_0.mono (by decide +kernel), trivial, hQ⟩, by rw [ht]; exact hP, va_K.moved hW.alike hK, by rw [hAe]; exact hD⟩, by rw [hAe]; exact hS.F ht⟩) (by rw [hAe]; exact hS.2.2) d_WM_sink_21
      · have hQ := hQ.2 c_4
        by_cases c_5 : p_2 < 0
        · have hQ := hQ.1 c_5
          refine hb_ti 0 (by unfold f_WM_isPension; rw [if_neg c_3, if_neg c_4, if_pos c_5]; first | done | rfl) ?_
          refine lv_if_ne (tgt := 22) hx hb d_WM_sink_17 (by decide) (fun h => absurd (by decide +kernel) h) (fun _ => ?_)
          refine lv_iconst (v := (-1)) hx hb d_WM_sink_20 (by decide +kernel) ?_
          refine W.widen (k := 1) (n := 3) (Nat.le_of_ble_eq_true rfl) (Nat.le_of_ble_eq_true rfl) ?_
          exact W.iret (v := (-1)) hx hb hr (fun t ht hW => ⟨⟨(-1), (L, f), rfl, ⟨hO_0, hA_0.mono (by decide +kernel), trivial, hQ⟩, by rw [ht]; exact hP, va_K.moved hW.alike hK, by rw [hAe]; exact hD⟩, by rw [hAe]; exact hS.F ht⟩) (by rw [hAe]; exact hS.2.2) d_WM_sink_21
        · have hQ := hQ.2 c_5
          by_cases c_6 : 9999 < p_2
          · have hQ := hQ.1 c_6
            refine hb_ti 0 (by unfold f_WM_isPension; rw [if_neg c_3, if_neg c_4, if_neg c_5, if_pos c_6]; first | done | rfl) ?_
            refine lv_if_ne (tgt := 22) hx hb d_WM_sink_17 (by decide) (fun h => absurd (by decide +kernel) h) (fun _ => ?_)
            refine lv_iconst (v := (-1)) hx hb d_WM_sink_20 (by decide +kernel) ?_
            refine W.widen (k := 1) (n := 3) (Nat.le_of_ble_eq_true rfl) (Nat.le_of_ble_eq_true rfl) ?_
            exact W.iret (v := (-1)) hx hb hr (fun t ht hW => ⟨⟨(-1), (L, f), rfl, ⟨hO_0, hA_0.mono (by decide +kernel), trivial, hQ⟩, by rw [ht]; exact hP, va_K.moved hW.alike hK, by rw [hAe]; exact hD⟩, by rw [hAe]; exact hS.F ht⟩) (by rw [hAe]; exact hS.2.2) d_WM_sink_21
          · have hQ := hQ.2 c_6
            refine hb_ti 1 (by unfold f_WM_isPension; rw [if_neg c_3, if_neg c_4, if_neg c_5, if_neg c_6]; first | done | rfl) ?_
            refine lv_if_ne (tgt := 22) hx hb d_WM_sink_17 (by decide) (fun _ => ?_) (fun h => absurd h (by decide +kernel))
            refine lv_aload_n hx hb d_WM_sink_22 rfl (lv_at hl 1 rfl) ?_
            refine lv_aload hx hb d_WM_sink_23 (lv_at hl 0 rfl) ?_
            refine tw_geti (D := (dC, dI)) (C := R_Bt) (T := F_Bt) (N := 6) (ci := 9) (kd := 24) (ct := ct) hx hb htb i_Bt hown hK hP hO_0 m_1 rfl rfl 3 (by decide) (htb (.fieldLink R_WM 190 "WaterMen$Boat" "rower" "I") tw_526) (fun _ h9 => h9) rfl d_WM_sink_25 (fun x_7 e_7 b_7 => ?_)
            have hQ := hQ x_7 e_7
            refine va_csq (va_Run.run (va_runV (As := [.int x_7]) (rest := []) ⟨hx, hb, hml, hown, htb⟩ (c_WM_manAt_w l dC dI ct L f hO_0 q0 m0 x_7 _ hQ) (cwV 1 htb (gd_V tw_27 tw_28 tw_29 tw_26 tw_25) rfl rfl rfl (by decide +kernel) ⟨Nat.le_of_ble_eq_true rfl, Nat.le_of_ble_eq_true rfl⟩) ⟨pr_blind, tw_recv hK hP m0 rfl rfl, pr_pre hP hK hN⟩ rfl rfl hl.1 rfl (lv_room (Nat.le_of_ble_eq_true rfl)) d_WM_sink_28 ⟨Nat.le_of_ble_eq_true rfl, Nat.le_of_ble_eq_true rfl⟩)) (fun r_8 er_8 => ?_)
            obtain ⟨er_8, hQ⟩ := er_8
            rcases er_8 with rfl | ⟨q_8, rfl, m_8⟩
            · have hQ := hQ.1 rfl
              refine hb_tv .null rfl ?_
              refine lv_astoreN (lv' := [(5, .null), (4, .ref q_1), (0, .ref q0), (1, .int p_0), (2, .int p_1), (3, .int p_2)]) hx hb d_WM_sink_31 hl (by decide) rfl (fun ls hl => ?_)
              refine lv_aload hx hb d_WM_sink_33 (lv_at hl 1 rfl) ?_
              refine lv_aload_n hx hb d_WM_sink_35 rfl (lv_at hl 2 rfl) ?_
              refine tw_geti (D := (dC, dI)) (C := R_WM) (T := F_WM) (N := 13) (ci := 0) (kd := 0) (ct := ct) hx hb htb i_WM hown hK hP hO_0 m0 rfl rfl 10 (by decide) (htb (.fieldLink R_WM 155 "WaterMen" "now" "I") tw_40) (fun _ h9 => h9) rfl d_WM_sink_36 (fun x_9 e_9 b_9 => ?_)
              have hQ := hQ x_9 e_9
              refine vp_callSi (va_Run.run (va_runV (As := [.int x_9]) (rest := []) ⟨hx, hb, hml, hown, htb⟩ (c_Bt_stateAt_w l dC dI ct L f hO_0 q_1 m_1 x_9 _ hQ) (cwV 1 htb (gd_V tw_523 tw_524 tw_525 tw_501 tw_522) rfl rfl rfl (by decide +kernel) ⟨Nat.le_of_ble_eq_true rfl, Nat.le_of_ble_eq_true rfl⟩) ⟨pr_blind, tw_recv hK hP m_1 rfl rfl, pr_pre hP hK hN⟩ rfl rfl hl.1 rfl (lv_room (Nat.le_of_ble_eq_true rfl)) d_WM_sink_39 ⟨Nat.le_of_ble_eq_true rfl, Nat.le_of_ble_eq_true rfl⟩)) (fun r_10 er_10 => ?_)
              obtain ⟨er_10, hQ⟩ := er_10
              clear er_10
              refine lv_iconst (v := 1) hx hb d_WM_sink_42 (by decide +kernel) ?_
              refine lv_icmp_ne (tgt := 51) hx hb d_WM_sink_43 (by decide) (fun c_11 => ?_) (fun c_11 => ?_)
              · have hQ := hQ.2 c_11
                refine lv_bipush (v := (-2)) hx hb d_WM_sink_51 (by decide +kernel) ?_
                refine W.widen (k := 1) (n := 3) (Nat.le_of_ble_eq_true rfl) (Nat.le_of_ble_eq_true rfl) ?_
                exact W.iret (v := (-2)) hx hb hr (fun t ht hW => ⟨⟨(-2), (L, f), rfl, ⟨hO_0, hA_0.mono (by decide +kernel), trivial, hQ⟩, by rw [ht]; exact hP, va_K.moved hW.alike hK, by rw [hAe]; exact hD⟩, by rw [hAe]; exact hS.F ht⟩) (by rw [hAe]; exact hS.2.2) d_WM_sink_53
              · have hQ := hQ.1 c_11
                refine lv_aloadN hx hb d_WM_sink_46 (lv_at hl 0 rfl) ?_
                refine lv_ifnonnullN hx hb d_WM_sink_48 ?_
                refine lv_bipush (v := (-2)) hx hb d_WM_sink_51 (by decide +kernel) ?_
                refine W.widen (k := 1) (n := 3) (Nat.le_of_ble_eq_true rfl) (Nat.le_of_ble_eq_true rfl) ?_
                exact W.iret (v := (-2)) hx hb hr (fun t ht hW => ⟨⟨(-2), (L, f), rfl, ⟨hO_0, hA_0.mono (by decide +kernel), trivial, hQ⟩, by rw [ht]; exact hP, va_K.moved hW.alike hK, by rw [hAe]; exact hD⟩, by rw [hAe]; exact hS.F ht⟩) (by rw [hAe]; exact hS.2.2) d_WM_sink_53
            · have hQ := hQ.2 q_8 rfl
              refine hb_tv (.ref q_8) rfl ?_
              refine lv_astore (lv' := [(5, .ref q_8), (4, .ref q_1), (0, .ref q0), (1, .int p_0), (2, .int p_1), (3, .int p_2)]) hx hb d_WM_sink_31 hl (by decide) rfl (fun ls hl => ?_)
              refine lv_aload hx hb d_WM_sink_33 (lv_at hl 1 rfl) ?_
              refine lv_aload_n hx hb d_WM_sink_35 rfl (lv_at hl 2 rfl) ?_
              refine tw_geti (D := (dC, dI)) (C := R_WM) (T := F_WM) (N := 13) (ci := 0) (kd := 0) (ct := ct) hx hb htb i_WM hown hK hP hO_0 m0 rfl rfl 10 (by decide) (htb (.fieldLink R_WM 155 "WaterMen" "now" "I") tw_40) (fun _ h9 => h9) rfl d_WM_sink_36 (fun x_12 e_12 b_12 => ?_)
              have hQ := hQ x_12 e_12
              refine vp_callSi (va_Run.run (va_runV (As := [.int x_12]) (rest := []) ⟨hx, hb, hml, hown, htb⟩ (c_Bt_stateAt_w l dC dI ct L f hO_0 q_1 m_1 x_12 _ hQ) (cwV 1 htb (gd_V tw_523 tw_524 tw_525 tw_501 tw_522) rfl rfl rfl (by decide +kernel) ⟨Nat.le_of_ble_eq_true rfl, Nat.le_of_ble_eq_true rfl⟩) ⟨pr_blind, tw_recv hK hP m_1 rfl rfl, pr_pre hP hK hN⟩ rfl rfl hl.1 rfl (lv_room (Nat.le_of_ble_eq_true rfl)) d_WM_sink_39 ⟨Nat.le_of_ble_eq_true rfl, Nat.le_of_ble_eq_true rfl⟩)) (fun r_13 er_13 => ?_)
              obtain ⟨er_13, hQ⟩ := er_13
              clear er_13
              refine lv_iconst (v := 1) hx hb d_WM_sink_42 (by decide +kernel) ?_
              refine lv_icmp_ne (tgt := 51) hx hb d_WM_sink_43 (by decide) (fun c_14 => ?_) (fun c_14 => ?_)
              · have hQ := hQ.2 c_14
                refine lv_bipush (v := (-2)) hx hb d_WM_sink_51 (by decide +kernel) ?_
                refine W.widen (k := 1) (n := 3) (Nat.le_of_ble_eq_true rfl) (Nat.le_of_ble_eq_true rfl) ?_
                exact W.iret (v := (-2)) hx hb hr (fun t ht hW => ⟨⟨(-2), (L, f), rfl, ⟨hO_0, hA_0.mono (by decide +kernel), trivial, hQ⟩, by rw [ht]; exact hP, va_K.moved hW.alike hK, by rw [hAe]; exact hD⟩, by rw [hAe]; exact hS.F ht⟩) (by rw [hAe]; exact hS.2.2) d_WM_sink_53
              · have hQ := hQ.1 c_14
                refine lv_aload hx hb d_WM_sink_46 (lv_at hl 0 rfl) ?_
                refine lv_ifnonnull (tgt := 54) hx hb d_WM_sink_48 (by decide) ?_
                refine lv_aload_n hx hb d_WM_sink_54 rfl (lv_at hl 2 rfl) ?_
                refine tw_getr (D := (dC, dI)) (C := R_WM) (T := F_WM) (N := 13) (ci := 0) (kd := 0) (ct := ct) hx hb htb i_WM hown hK hP hO_0 m0 rfl rfl 6 (by decide) (htb (.fieldLink R_WM 50 "WaterMen" "box" "LWaterMen$Box;") tw_48) (fun _ h9 => h9) rfl d_WM_sink_55 (fun q_15 e_15 m_15 => ?_)
                have hQ := hQ q_15 e_15
                refine tw_geti (D := (dC, dI)) (C := R_Bx) (T := F_Bx) (N := 7) (ci := 5) (kd := 12) (ct := ct) hx hb htb i_Bx hown hK hP hO_0 m_15 rfl rfl 6 (by decide) (htb (.fieldLink R_WM 280 "WaterMen$Box" "pensionerCount" "I") tw_633) (fun _ h9 => h9) rfl d_WM_sink_58 (fun x_16 e_16 b_16 => ?_)
                have hQ := hQ x_16 e_16
                refine lv_bipush (v := 30) hx hb d_WM_sink_61 (by decide +kernel) ?_
                refine lv_icmp_lt (tgt := 69) hx hb d_WM_sink_63 (by decide) (fun c_17 => ?_) (fun c_17 => ?_)
                · have hQ := hQ.1 c_17
                  refine lv_aload hx hb d_WM_sink_69 (lv_at hl 1 rfl) ?_
                  refine lv_iconst (v := 1) hx hb d_WM_sink_71 (by decide +kernel) ?_
                  refine tw_puti (v := 1) (D := (dC, dI)) (C := R_Bt) (T := F_Bt) (N := 6) (ci := 9) (kd := 24) (ct := ct) (ty := .boolean) hx hb htb i_Bt t_Bt t_Bt_ok n_Bt hown hK hP hD hS hO_0 m_1 rfl rfl 5 (by decide) (htb (.fieldLink R_WM 283 "WaterMen$Boat" "sunk" "Z") tw_537) (fun _ h9 => h9) rfl (by decide +kernel) (by decide +kernel) rfl rfl ⟨by decide +kernel, by decide +kernel⟩ d_WM_sink_72 (fun f_1 H locs hP hD hS hO_1 hE_1 w_18 hF_1 => ?_)
                  have hA_1 := hA_0.trans hE_1
                  have hQ := hQ f_1 hF_1
                  have hQ := hQ hO_1
                  refine lv_aload hx hb d_WM_sink_75 (lv_at hl 0 rfl) ?_
                  refine lv_iconst (v := 3) hx hb d_WM_sink_77 (by decide +kernel) ?_
                  refine tw_puti (v := 3) (D := (dC, dI)) (C := R_Mn) (T := F_Mn) (N := 8) (ci := 2) (kd := 20) (ct := ct) (ty := .int) hx hb htb i_Mn t_Mn t_Mn_ok n_Mn hown hK hP hD hS hO_1 (hA_1.m m_8) rfl rfl 0 (by decide) (htb (.fieldLink R_WM 111 "WaterMen$Man" "state" "I") tw_30) (fun _ h9 => h9) rfl (by decide +kernel) rfl rfl rfl (i32_full _) d_WM_sink_78 (fun f_2 H locs hP hD hS hO_2 hE_2 w_19 hF_2 => ?_)
                  have hA_2 := hA_1.trans hE_2
                  have hQ := hQ f_2 hF_2
                  have hQ := hQ hO_2
                  refine lv_aload hx hb d_WM_sink_81 (lv_at hl 0 rfl) ?_
                  refine lv_aload_n hx hb d_WM_sink_83 rfl (lv_at hl 2 rfl) ?_
                  refine tw_getI (x := x_12) (D := (dC, dI)) (C := R_WM) (T := F_WM) (N := 13) (ci := 0) (kd := 0) (ct := ct) hx hb htb i_WM hown hK hP (hA_2.m m0) rfl rfl 10 ((hA_2.ei m0 rfl).trans e_12) (by decide) (htb (.fieldLink R_WM 155 "WaterMen" "now" "I") tw_40) (fun _ h9 => h9) rfl d_WM_sink_84 ?_
                  refine tw_puti (v := x_12) (D := (dC, dI)) (C := R_Mn) (T := F_Mn) (N := 8) (ci := 2) (kd := 20) (ct := ct) (ty := .int) hx hb htb i_Mn t_Mn t_Mn_ok n_Mn hown hK hP hD hS hO_2 (hA_2.m m_8) rfl rfl 5 (by decide) (htb (.fieldLink R_WM 287 "WaterMen$Man" "busyUntil" "I") tw_634) (fun _ h9 => h9) rfl (by decide +kernel) rfl rfl rfl (i32_full _) d_WM_sink_87 (fun f_3 H locs hP hD hS hO_3 hE_3 w_20 hF_3 => ?_)
                  have hA_3 := hA_2.trans hE_3
                  have hQ := hQ f_3 hF_3
                  have hQ := hQ hO_3
                  refine lv_aload_n hx hb d_WM_sink_90 rfl (lv_at hl 2 rfl) ?_
                  refine lv_aload hx hb d_WM_sink_91 (lv_at hl 1 rfl) ?_
                  refine tw_geti (D := (dC, dI)) (C := R_Bt) (T := F_Bt) (N := 6) (ci := 9) (kd := 24) (ct := ct) hx hb htb i_Bt hown hK hP hO_3 (hA_3.m m_1) rfl rfl 4 (by decide) (htb (.fieldLink R_WM 290 "WaterMen$Boat" "lastTrip" "I") tw_635) (fun _ h9 => h9) rfl d_WM_sink_93 (fun x_21 e_21 b_21 => ?_)
                  have hQ := hQ x_21 e_21
                  refine va_csq (va_Run.run (va_runV (As := [.int x_21]) (rest := []) ⟨hx, hb, hml, hown, htb⟩ (c_WM_tripAt_w l dC dI ct L f_3 hO_3 q0 (hA_3.m m0) x_21 _ hQ) (cwV 1 htb (gd_V tw_637 tw_638 tw_639 tw_26 tw_636) rfl rfl rfl (by decide +kernel) ⟨Nat.le_of_ble_eq_true rfl, Nat.le_of_ble_eq_true rfl⟩) ⟨pr_blind, tw_recv hK hP (hA_3.m m0) rfl rfl, pr_pre hP hK hN⟩ rfl rfl hl.1 rfl (lv_room (Nat.le_of_ble_eq_true rfl)) d_WM_sink_96 ⟨Nat.le_of_ble_eq_true rfl, Nat.le_of_ble_eq_true rfl⟩)) (fun r_22 er_22 => ?_)
                  obtain ⟨er_22, hQ⟩ := er_22
                  rcases er_22 with rfl | ⟨q_22, rfl, m_22⟩
                  · have hQ := hQ.1 rfl
                    refine hb_tv .null rfl ?_
                    refine lv_astoreN (lv' := [(6, .null), (5, .ref q_8), (4, .ref q_1), (0, .ref q0), (1, .int p_0), (2, .int p_1), (3, .int p_2)]) hx hb d_WM_sink_99 hl (by decide) rfl (fun ls hl => ?_)
                    refine lv_aloadN hx hb d_WM_sink_101 (lv_at hl 0 rfl) ?_
                    refine lv_ifnullN (tgt := 112) hx hb d_WM_sink_103 (by decide) ?_
                    refine lv_aload_n hx hb d_WM_sink_112 rfl (lv_at hl 3 rfl) ?_
                    refine tw_getR (D := (dC, dI)) (C := R_WM) (T := F_WM) (N := 13) (ci := 0) (kd := 0) (ct := ct) hx hb htb i_WM hown hK hP (hA_3.m m0) rfl rfl 6 ((hA_3.er m0 rfl).trans e_15) (by decide) (htb (.fieldLink R_WM 50 "WaterMen" "box" "LWaterMen$Box;") tw_48) (fun _ h9 => h9) rfl d_WM_sink_113 ?_
                    refine hb_tv (.ref q_15) rfl ?_
                    refine lv_iload_n hx hb d_WM_sink_116 rfl (lv_at hl 5 rfl) ?_
                    refine lv_iload_n hx hb d_WM_sink_117 rfl (lv_at hl 6 rfl) ?_
                    have hFc := hb_free hD hS hA
                    refine va_calli (va_runV (As := [.int p_1, .int p_2]) (rest := []) ⟨hx, hb, hml, hown, htb⟩ (c_Bx_take_w l dC dI ct L f_3 hO_3 q_15 (hA_3.m m_15) _ p_1 p_2 (by rw [show ti f_3 q_15 6 = x_16 from ((hA_3.ei m_15 rfl).trans e_16)]; first | done | exact (show ¬ (29 < x_16) from by have e0 := b_16.1; rw [Int32.lt_iff_toInt_lt] at e0; have e1 := c_17; rw [Int32.lt_iff_toInt_lt] at e1; have z0 : (0 : Int32).toInt = 0 := (by decide +kernel); have z1 : (29 : Int32).toInt = 29 := (by decide +kernel); have z2 : (30 : Int32).toInt = 30 := (by decide +kernel); rw [Int32.lt_iff_toInt_lt]; omega)) _ hQ) (cwV 2 htb (gd_V tw_650 tw_651 tw_652 tw_61 tw_649) rfl rfl rfl (by decide +kernel) ⟨Nat.le_of_ble_eq_true rfl, Nat.le_of_ble_eq_true rfl⟩) ⟨pc_blind, tw_recv hK hP (hA_3.m m_15) rfl rfl, pc_pre hP hK hD hN⟩ rfl rfl hl.1 rfl (lv_room (Nat.le_of_ble_eq_true rfl)) d_WM_sink_118 ⟨Nat.le_of_ble_eq_true rfl, Nat.le_of_ble_eq_true rfl⟩) hS (fun q _ h => hFc q h) hFc (fun r_23 u t H locs ht hvm er hB hz1 hk1 hS => ?_)
                    obtain ⟨L_4, f_4⟩ := u
                    obtain ⟨hO_4, hE_4, er, hQ⟩ := er
                    obtain ⟨hP, hK1, hD1⟩ := hB
                    rw [ht] at hP
                    have hP : va_P (dC, dI) vwCl (TW ct L_4 f_4) H := hP
                    have hD : va_D A (TW ct L_4 f_4) := hD1.weaken (fun _ q _ h => hFc q.1 h)
                    have hO_4 : Ok L_4 f_4 := hO_4
                    have hE_4 : Ext W_Bx_take_w L f_3 L_4 f_4 := hE_4
                    clear hK1 hD1 ht hvm hz1 hk1
                    have hA_4 := hA_3.trans hE_4
                    have hQ := hQ hO_4 hE_4
                    clear er
                    refine W.widen (k := 1) (n := 3) (Nat.le_of_ble_eq_true rfl) (Nat.le_of_ble_eq_true rfl) ?_
                    exact W.iret (v := r_23) hx hb hr (fun t ht hW => ⟨⟨r_23, (L_4, f_4), rfl, ⟨hO_4, hA_4.mono (by decide +kernel), trivial, hQ⟩, by rw [ht]; exact hP, va_K.moved hW.alike hK, by rw [hAe]; exact hD⟩, by rw [hAe]; exact hS.F ht⟩) (by rw [hAe]; exact hS.2.2) d_WM_sink_121
                  · have hQ := hQ.2 q_22 rfl
                    refine hb_tv (.ref q_22) rfl ?_
                    refine lv_astore (lv' := [(6, .ref q_22), (5, .ref q_8), (4, .ref q_1), (0, .ref q0), (1, .int p_0), (2, .int p_1), (3, .int p_2)]) hx hb d_WM_sink_99 hl (by decide) rfl (fun ls hl => ?_)
                    refine lv_aload hx hb d_WM_sink_101 (lv_at hl 0 rfl) ?_
                    refine lv_ifnull hx hb d_WM_sink_103 ?_
                    refine lv_aload hx hb d_WM_sink_106 (lv_at hl 0 rfl) ?_
                    refine lv_iconst (v := 1) hx hb d_WM_sink_108 (by decide +kernel) ?_
                    refine tw_puti (v := 1) (D := (dC, dI)) (C := R_Tr) (T := F_Tr) (N := 8) (ci := 10) (kd := 25) (ct := ct) (ty := .boolean) hx hb htb i_Tr t_Tr t_Tr_ok n_Tr hown hK hP hD hS hO_3 m_22 rfl rfl 7 (by decide) (htb (.fieldLink R_WM 297 "WaterMen$Trip" "sank" "Z") tw_653) (fun _ h9 => h9) rfl (by decide +kernel) (by decide +kernel) rfl rfl ⟨by decide +kernel, by decide +kernel⟩ d_WM_sink_109 (fun f_4 H locs hP hD hS hO_4 hE_4 w_24 hF_4 => ?_)
                    have hA_4 := hA_3.trans hE_4
                    have hQ := hQ f_4 hF_4
                    have hQ := hQ hO_4
                    refine lv_aload_n hx hb d_WM_sink_112 rfl (lv_at hl 3 rfl) ?_
                    refine tw_getR (D := (dC, dI)) (C := R_WM) (T := F_WM) (N := 13) (ci := 0) (kd := 0) (ct := ct) hx hb htb i_WM hown hK hP (hA_4.m m0) rfl rfl 6 ((hA_4.er m0 rfl).trans e_15) (by decide) (htb (.fieldLink R_WM 50 "WaterMen" "box" "LWaterMen$Box;") tw_48) (fun _ h9 => h9) rfl d_WM_sink_113 ?_
                    refine hb_tv (.ref q_15) rfl ?_
                    refine lv_iload_n hx hb d_WM_sink_116 rfl (lv_at hl 5 rfl) ?_
                    refine lv_iload_n hx hb d_WM_sink_117 rfl (lv_at hl 6 rfl) ?_
                    have hFc := hb_free hD hS hA
                    refine va_calli (va_runV (As := [.int p_1, .int p_2]) (rest := []) ⟨hx, hb, hml, hown, htb⟩ (c_Bx_take_w l dC dI ct L f_4 hO_4 q_15 (hA_4.m m_15) _ p_1 p_2 (by rw [show ti f_4 q_15 6 = x_16 from ((hA_4.ei m_15 rfl).trans e_16)]; first | done | exact (show ¬ (29 < x_16) from by have e0 := b_16.1; rw [Int32.lt_iff_toInt_lt] at e0; have e1 := c_17; rw [Int32.lt_iff_toInt_lt] at e1; have z0 : (0 : Int32).toInt = 0 := (by decide +kernel); have z1 : (29 : Int32).toInt = 29 := (by decide +kernel); have z2 : (30 : Int32).toInt = 30 := (by decide +kernel); rw [Int32.lt_iff_toInt_lt]; omega)) _ hQ) (cwV 2 htb (gd_V tw_650 tw_651 tw_652 tw_61 tw_649) rfl rfl rfl (by decide +kernel) ⟨Nat.le_of_ble_eq_true rfl, Nat.le_of_ble_eq_true rfl⟩) ⟨pc_blind, tw_recv hK hP (hA_4.m m_15) rfl rfl, pc_pre hP hK hD hN⟩ rfl rfl hl.1 rfl (lv_room (Nat.le_of_ble_eq_true rfl)) d_WM_sink_118 ⟨Nat.le_of_ble_eq_true rfl, Nat.le_of_ble_eq_true rfl⟩) hS (fun q _ h => hFc q h) hFc (fun r_25 u t H locs ht hvm er hB hz1 hk1 hS => ?_)
                    obtain ⟨L_5, f_5⟩ := u
                    obtain ⟨hO_5, hE_5, er, hQ⟩ := er
                    obtain ⟨hP, hK1, hD1⟩ := hB
                    rw [ht] at hP
                    have hP : va_P (dC, dI) vwCl (TW ct L_5 f_5) H := hP
                    have hD : va_D A (TW ct L_5 f_5) := hD1.weaken (fun _ q _ h => hFc q.1 h)
                    have hO_5 : Ok L_5 f_5 := hO_5
                    have hE_5 : Ext W_Bx_take_w L f_4 L_5 f_5 := hE_5
                    clear hK1 hD1 ht hvm hz1 hk1
                    have hA_5 := hA_4.trans hE_5
                    have hQ := hQ hO_5 hE_5
                    clear er
                    refine W.widen (k := 1) (n := 3) (Nat.le_of_ble_eq_true rfl) (Nat.le_of_ble_eq_true rfl) ?_
                    exact W.iret (v := r_25) hx hb hr (fun t ht hW => ⟨⟨r_25, (L_5, f_5), rfl, ⟨hO_5, hA_5.mono (by decide +kernel), trivial, hQ⟩, by rw [ht]; exact hP, va_K.moved hW.alike hK, by rw [hAe]; exact hD⟩, by rw [hAe]; exact hS.F ht⟩) (by rw [hAe]; exact hS.2.2) d_WM_sink_121
                · have hQ := hQ.2 c_17
                  refine lv_bipush (v := (-3)) hx hb d_WM_sink_66 (by decide +kernel) ?_
                  refine W.widen (k := 1) (n := 3) (Nat.le_of_ble_eq_true rfl) (Nat.le_of_ble_eq_true rfl) ?_
                  exact W.iret (v := (-3)) hx hb hr (fun t ht hW => ⟨⟨(-3), (L, f), rfl, ⟨hO_0, hA_0.mono (by decide +kernel), trivial, hQ⟩, by rw [ht]; exact hP, va_K.moved hW.alike hK, by rw [hAe]; exact hD⟩, by rw [hAe]; exact hS.F ht⟩) (by rw [hAe]; exact hS.2.2) d_WM_sink_68
def f_Md_isPension  (p_0 : Int32) (p_1 : Int32) : Int32 := if p_0 < 1 then (0) else (if 10000 < p_0 then (0) else (if p_1 < 0 then (0) else (if 9999 < p_1 then (0) else (1))))
set_option maxHeartbeats 4000000 in
set_option maxRecDepth 100000 in
theorem c_Md_isPension (l : Launch)  (p_0 : Int32) (p_1 : Int32)  : Met l y_Md_isPension (.code y_Md_isPension b_Md_isPension 2 (some .boolean) :: TB) ({ frames := 1, cells := 0, slots := 0, locals := 22 }) (va_Pc [.int p_0, .int p_1] (fun _ => True)) (vp_Si (fun r => r = f_Md_isPension p_0 p_1)) 0 0 (fun _ => False) := by
  refine Met.ofW (cc := b_Md_isPension) (maxL := 2) (ret := (some .boolean)) (by decide) rfl ?_
  intro p e s m args below meth c s₁ B hml hv
  obtain ⟨rfl, -⟩ := hv
  have hx := B.exec
  have hb := B.bytes
  have hr := B.returns
  have hts := atoms_spec (ws := (.code y_Md_isPension b_Md_isPension 2 (some .boolean) :: TB)) B.pre
  have htb := fun w (h : w ∈ TB) => hts w (List.mem_cons_of_mem _ h)
  have hown : s.vm.findClass R_Md = some m.cls := findClass_of_methodNamed B.named
  have hlocks := B.notSynchronized
  have hl := lv_entry ([.int p_0, .int p_1]) (n := 2) (Nat.le_of_ble_eq_true rfl)
  rw [lg_entry_eq]
  generalize (lg_sl ([.int p_0, .int p_1]) ++ List.replicate (2 - (lg_sl ([.int p_0, .int p_1])).length) Slot.unset).toArray = ls at hl ⊢
  have hl : lv_has ls 2 [(0, .int p_0), (1, .int p_1)] := hl
  refine lv_iload_n hx hb d_Md_isPension_0 rfl (lv_at hl 0 rfl) ?_
  refine lv_iconst (v := 1) hx hb d_Md_isPension_1 (by decide +kernel) ?_
  refine lv_sipush (v := 10000) hx hb d_Md_isPension_2 (by decide +kernel) ?_
  refine vp_callSi (va_Run.run (va_runS (As := [.int p_0, .int 1, .int 10000]) (rest := []) ⟨hx, hb, hml, hown, htb⟩ (c_Md_in l p_0 1 10000) (cwS 3 htb (gd_S tw_90 tw_91 tw_89 tw_88) rfl rfl rfl (by decide +kernel) ⟨Nat.le_of_ble_eq_true rfl, Nat.le_of_ble_eq_true rfl⟩) ⟨fun _ _ _ _ h => h, fun U _ _ => ⟨rfl, trivial⟩⟩ rfl rfl hl.1 rfl (lv_room (Nat.le_of_ble_eq_true rfl)) d_Md_isPension_5 ⟨Nat.le_of_ble_eq_true rfl, Nat.le_of_ble_eq_true rfl⟩)) (fun r er => ?_)
  subst er
  by_cases c_2 : p_0 < 1
  · refine hb_ti 0 (by unfold f_Md_in; rw [if_pos c_2]) ?_
    refine lv_if_eq (tgt := 26) hx hb d_Md_isPension_8 (by decide) (fun _ => ?_) (fun h => absurd (by decide +kernel) h)
    refine lv_iconst (v := 0) hx hb d_Md_isPension_26 (by decide +kernel) ?_
    exact W.zret (v := 0) hx hb hr (by decide +kernel) (fun t ht hW => ⟨0, rfl, (by unfold f_Md_isPension; rw [if_pos c_2]), ht⟩) t_nil d_Md_isPension_27
  · by_cases c_3 : 10000 < p_0
    · refine hb_ti 0 (by unfold f_Md_in; rw [if_neg c_2, if_pos c_3]) ?_
      refine lv_if_eq (tgt := 26) hx hb d_Md_isPension_8 (by decide) (fun _ => ?_) (fun h => absurd (by decide +kernel) h)
      refine lv_iconst (v := 0) hx hb d_Md_isPension_26 (by decide +kernel) ?_
      exact W.zret (v := 0) hx hb hr (by decide +kernel) (fun t ht hW => ⟨0, rfl, (by unfold f_Md_isPension; rw [if_neg c_2, if_pos c_3]), ht⟩) t_nil d_Md_isPension_27
    · refine hb_ti 1 (by unfold f_Md_in; rw [if_neg c_2, if_neg c_3]) ?_
      refine lv_if_eq (tgt := 26) hx hb d_Md_isPension_8 (by decide) (fun h => absurd h (by decide +kernel)) (fun _ => ?_)
      refine lv_iload_n hx hb d_Md_isPension_11 rfl (lv_at hl 1 rfl) ?_
      refine lv_iconst (v := 0) hx hb d_Md_isPension_12 (by decide +kernel) ?_
      refine lv_sipush (v := 9999) hx hb d_Md_isPension_13 (by decide +kernel) ?_
      refine vp_callSi (va_Run.run (va_runS (As := [.int p_1, .int 0, .int 9999]) (rest := []) ⟨hx, hb, hml, hown, htb⟩ (c_Md_in l p_1 0 9999) (cwS 3 htb (gd_S tw_90 tw_91 tw_89 tw_88) rfl rfl rfl (by decide +kernel) ⟨Nat.le_of_ble_eq_true rfl, Nat.le_of_ble_eq_true rfl⟩) ⟨fun _ _ _ _ h => h, fun U _ _ => ⟨rfl, trivial⟩⟩ rfl rfl hl.1 rfl (lv_room (Nat.le_of_ble_eq_true rfl)) d_Md_isPension_16 ⟨Nat.le_of_ble_eq_true rfl, Nat.le_of_ble_eq_true rfl⟩)) (fun r er => ?_)
      subst er
      by_cases c_5 : p_1 < 0
      · refine hb_ti 0 (by unfold f_Md_in; rw [if_pos c_5]) ?_
        refine lv_if_eq (tgt := 26) hx hb d_Md_isPension_19 (by decide) (fun _ => ?_) (fun h => absurd (by decide +kernel) h)
        refine lv_iconst (v := 0) hx hb d_Md_isPension_26 (by decide +kernel) ?_
        exact W.zret (v := 0) hx hb hr (by decide +kernel) (fun t ht hW => ⟨0, rfl, (by unfold f_Md_isPension; rw [if_neg c_2, if_neg c_3, if_pos c_5]), ht⟩) t_nil d_Md_isPension_27
      · by_cases c_6 : 9999 < p_1
        · refine hb_ti 0 (by unfold f_Md_in; rw [if_neg c_5, if_pos c_6]) ?_
          refine lv_if_eq (tgt := 26) hx hb d_Md_isPension_19 (by decide) (fun _ => ?_) (fun h => absurd (by decide +kernel) h)
          refine lv_iconst (v := 0) hx hb d_Md_isPension_26 (by decide +kernel) ?_
          exact W.zret (v := 0) hx hb hr (by decide +kernel) (fun t ht hW => ⟨0, rfl, (by unfold f_Md_isPension; rw [if_neg c_2, if_neg c_3, if_neg c_5, if_pos c_6]), ht⟩) t_nil d_Md_isPension_27
        · refine hb_ti 1 (by unfold f_Md_in; rw [if_neg c_5, if_neg c_6]) ?_
          refine lv_if_eq (tgt := 26) hx hb d_Md_isPension_19 (by decide) (fun h => absurd h (by decide +kernel)) (fun _ => ?_)
          refine lv_iconst (v := 1) hx hb d_Md_isPension_22 (by decide +kernel) ?_
          refine lv_goto (tgt := 27) hx hb d_Md_isPension_23 (by decide) ?_
          exact W.zret (v := 1) hx hb hr (by decide +kernel) (fun t ht hW => ⟨1, rfl, (by unfold f_Md_isPension; rw [if_neg c_2, if_neg c_3, if_neg c_5, if_neg c_6]), ht⟩) t_nil d_Md_isPension_27
def W_Md_newPensioner_w : List (Nat × Nat) := [(27, 60), (72, 1000), (73, 1000)]
def wp_Md_newPensioner_w (L : List Nat) (f : TF) (q0 : Nat) (p_0 : Int32) (p_1 : Int32) (Q : Int32 → List Nat → TF → Prop) : Prop := ∀ q_1 : Nat, tr f q0 61 = some q_1 → ∀ f_1 : TF, f_1 = sI f q_1 ((ti f q0 60) : Int32).toNatClampNeg p_0 → Ok L f_1 → ∀ q_3 : Nat, tr f_1 q0 62 = some q_3 → ∀ f_2 : TF, f_2 = sI f_1 q_3 ((ti f q0 60) : Int32).toNatClampNeg p_1 → Ok L f_2 → ∀ f_3 : TF, f_3 = sI f_2 q0 60 ((ti f q0 60) + 1) → Ok L f_3 → Q (((ti f q0 60) + 1) - 1) L f_3
set_option maxHeartbeats 4000000 in
set_option maxRecDepth 100000 in
theorem c_Md_newPensioner_w (l : Launch) (dC : Nat → ClassId) (dI : Nat → Nat → Nat) (ct : Nat → ClassId) (L : List Nat) (f : TF) (hO_0 : Ok L f) (q0 : Nat) (m0 : q0 ∈ L ∧ tk f q0 = 27) (sz : Nat) (p_0 : Int32) (p_1 : Int32)  (as_0 : ¬ (29 < (ti f q0 60))) (Q : Int32 → List Nat → TF → Prop) (hQ : wp_Md_newPensioner_w L f q0 p_0 p_1 Q) : Met l y_Md_newPensioner (.code y_Md_newPensioner b_Md_newPensioner 3 (some .int) :: TB) ({ frames := 0, cells := 0, slots := 0, locals := 0 }) (va_Pc [.ref q0, .int p_0, .int p_1] (PC dC dI (TW ct L f) (TT ct) sz)) (va_Qi (fun r (u : TSt) => Ok u.1 u.2 ∧ Ext W_Md_newPensioner_w L f u.1 u.2 ∧ (True) ∧ Q r u.1 u.2) (fun (u : TSt) t => va_P (dC, dI) vwCl (TW ct u.1 u.2) t.heap ∧ va_K (dC, dI) vwCl (TT ct) t ∧ va_D (va_A (TW ct L f) sz) (TW ct u.1 u.2)) (va_A (TW ct L f) sz)) 0 0 (va_A (TW ct L f) sz) := by
  refine Met.ofW (cc := b_Md_newPensioner) (maxL := 3) (ret := (some .int)) (by decide) rfl ?_
  intro p e s m args below meth c s₁ B hml hv
  obtain ⟨rfl, hsz, hP, hK, hD0, hN⟩ := hv
  have hx := B.exec
  have hb := B.bytes
  have hr := B.returns
  have hts := atoms_spec (ws := (.code y_Md_newPensioner b_Md_newPensioner 3 (some .int) :: TB)) B.pre
  have htb := fun w (h : w ∈ TB) => hts w (List.mem_cons_of_mem _ h)
  have hown : s.vm.findClass R_Md = some m.cls := findClass_of_methodNamed B.named
  have hlocks := B.notSynchronized
  have hl := lv_entry ([.ref q0, .int p_0, .int p_1]) (n := 3) (Nat.le_of_ble_eq_true rfl)
  rw [lg_entry_eq]
  generalize (lg_sl ([.ref q0, .int p_0, .int p_1]) ++ List.replicate (3 - (lg_sl ([.ref q0, .int p_0, .int p_1])).length) Slot.unset).toArray = ls at hl ⊢
  have hl : lv_has ls 3 [(0, .ref q0), (1, .int p_0), (2, .int p_1)] := hl
  subst hsz
  have hD := hD0.self (sz := s.heap.size)
  obtain ⟨A, hAe⟩ : ∃ A, va_A (TW ct L f) s.heap.size = A := ⟨_, rfl⟩
  rw [hAe] at hD
  have hA : ∀ q : Nat, s.heap.size ≤ q → A q := fun q h => by rw [← hAe]; exact Or.inr h
  have hS : va_S A s.heap s.heap [] := va_S.rf
  have hA_0 : Ext [] L f L f := Ext.rf
  suffices hGo : ∀ (H : Heap) (locs : List Loc), va_P (dC, dI) vwCl (TW ct L f) H → va_S A s.heap H locs → W p l e (headSpec (.code y_Md_newPensioner b_Md_newPensioner 3 (some .int) :: TB) ({ frames := 0, cells := 0, slots := 0, locals := 0 })).room s m [.ref q0, .int p_0, .int p_1].toArray below meth c H locs 0 0 (MQ below (va_Qi (fun r (u : TSt) => Ok u.1 u.2 ∧ Ext W_Md_newPensioner_w L f u.1 u.2 ∧ (True) ∧ Q r u.1 u.2) (fun (u : TSt) t => va_P (dC, dI) vwCl (TW ct u.1 u.2) t.heap ∧ va_K (dC, dI) vwCl (TT ct) t ∧ va_D (va_A (TW ct L f) s.heap.size) (TW ct u.1 u.2)) (va_A (TW ct L f) s.heap.size)) [.ref q0, .int p_0, .int p_1].toArray s 0 0 (va_A (TW ct L f) s.heap.size)) (F0 m 0 ls []) from hGo _ _ hP hS
  clear hP hS
  intro H locs hP hS
  unfold wp_Md_newPensioner_w at hQ
  have bp_60 := hO_0.i m0 (show slotD 27 60 = some (.inl (0, 30)) from rfl)
  refine lv_aload_n hx hb d_Md_newPensioner_0 rfl (lv_at hl 0 rfl) ?_
  refine tw_getr (D := (dC, dI)) (C := R_Md) (T := F_Md) (N := 64) (ci := 7) (kd := 27) (ct := ct) hx hb htb i_Md hown hK hP hO_0 m0 rfl rfl 61 (by decide) (htb (.fieldLink R_Md 177 "WaterMenModel" "pensionOf" "[I") tw_119) (fun _ h9 => h9) rfl d_Md_newPensioner_1 (fun q_1 e_1 m_1 => ?_)
  have hQ := hQ q_1 e_1
  refine lv_aload_n hx hb d_Md_newPensioner_4 rfl (lv_at hl 0 rfl) ?_
  refine tw_getI (x := (ti f q0 60)) (D := (dC, dI)) (C := R_Md) (T := F_Md) (N := 64) (ci := 7) (kd := 27) (ct := ct) hx hb htb i_Md hown hK hP m0 rfl rfl 60 rfl (by decide) (htb (.fieldLink R_Md 323 "WaterMenModel" "pensioners" "I") tw_117) (fun _ h9 => h9) rfl d_Md_newPensioner_5 ?_
  refine lv_iload_n hx hb d_Md_newPensioner_8 rfl (lv_at hl 1 rfl) ?_
  refine tw_astI (ct := ct) (x := p_0) hx hb hK hP hD hS hO_0 m_1 rfl (hb_inl bp_60.1 as_0 (by decide +kernel)) (i32_full _) d_Md_newPensioner_9 (fun f_1 H locs hP hD hS hO_1 hE_1 w_2 ow_2 hF_1 => ?_)
  have hA_1 := hA_0.trans hE_1
  have hQ := hQ f_1 hF_1
  have hQ := hQ hO_1
  refine lv_aload_n hx hb d_Md_newPensioner_10 rfl (lv_at hl 0 rfl) ?_
  refine tw_getr (D := (dC, dI)) (C := R_Md) (T := F_Md) (N := 64) (ci := 7) (kd := 27) (ct := ct) hx hb htb i_Md hown hK hP hO_1 (hA_1.m m0) rfl rfl 62 (by decide) (htb (.fieldLink R_Md 180 "WaterMenModel" "pensionEnd" "[I") tw_118) (fun _ h9 => h9) rfl d_Md_newPensioner_11 (fun q_3 e_3 m_3 => ?_)
  have hQ := hQ q_3 e_3
  refine lv_aload_n hx hb d_Md_newPensioner_14 rfl (lv_at hl 0 rfl) ?_
  refine tw_getI (x := (ti f q0 60)) (D := (dC, dI)) (C := R_Md) (T := F_Md) (N := 64) (ci := 7) (kd := 27) (ct := ct) hx hb htb i_Md hown hK hP (hA_1.m m0) rfl rfl 60 ((hA_1.ei m0 rfl).trans rfl) (by decide) (htb (.fieldLink R_Md 323 "WaterMenModel" "pensioners" "I") tw_117) (fun _ h9 => h9) rfl d_Md_newPensioner_15 ?_
  refine lv_iload_n hx hb d_Md_newPensioner_18 rfl (lv_at hl 2 rfl) ?_
  refine tw_astI (ct := ct) (x := p_1) hx hb hK hP hD hS hO_1 m_3 rfl (hb_inl bp_60.1 as_0 (by decide +kernel)) (i32_full _) d_Md_newPensioner_19 (fun f_2 H locs hP hD hS hO_2 hE_2 w_4 ow_4 hF_2 => ?_)
  have hA_2 := hA_1.trans hE_2
  have hQ := hQ f_2 hF_2
  have hQ := hQ hO_2
  refine lv_aload_n hx hb d_Md_newPensioner_20 rfl (lv_at hl 0 rfl) ?_
  refine lv_dup hx hb d_Md_newPensioner_21 rfl ?_
  refine tw_getI (x := (ti f q0 60)) (D := (dC, dI)) (C := R_Md) (T := F_Md) (N := 64) (ci := 7) (kd := 27) (ct := ct) hx hb htb i_Md hown hK hP (hA_2.m m0) rfl rfl 60 ((hA_2.ei m0 rfl).trans rfl) (by decide) (htb (.fieldLink R_Md 323 "WaterMenModel" "pensioners" "I") tw_117) (fun _ h9 => h9) rfl d_Md_newPensioner_22 ?_
  refine lv_iconst (v := 1) hx hb d_Md_newPensioner_25 (by decide +kernel) ?_
  refine lv_iadd hx hb d_Md_newPensioner_26 ?_
  refine tw_puti (v := ((ti f q0 60) + 1)) (D := (dC, dI)) (C := R_Md) (T := F_Md) (N := 64) (ci := 7) (kd := 27) (ct := ct) (ty := .int) hx hb htb i_Md t_Md t_Md_ok n_Md hown hK hP hD hS hO_2 (hA_2.m m0) rfl rfl 60 (by decide) (htb (.fieldLink R_Md 323 "WaterMenModel" "pensioners" "I") tw_117) (fun _ h9 => h9) rfl (by decide +kernel) rfl rfl rfl ⟨(show ¬ (((ti f q0 60) + 1) < 0) from ((fun (a_0 : Int32) (k_0 : ¬ (a_0 < 0)) (k_1 : ¬ (30 < a_0)) => (show ¬ ((a_0 + 1) < 0) from by have z0 : (0 : Int32).toInt = 0 := (by decide +kernel); have z1 : (1 : Int32).toInt = 1 := (by decide +kernel); have z2 : (30 : Int32).toInt = 30 := (by decide +kernel); have r0 := fb_rng (a_0); have e0 := k_0; rw [Int32.lt_iff_toInt_lt, z0] at e0; have e1 := k_1; rw [Int32.lt_iff_toInt_lt, z2] at e1; obtain ⟨n_0, hn_0, s0⟩ := nd_add (x := a_0) (y := (1 : Int32)) (by (try rw [z1]); omega) (by (try rw [z1]); omega); rw [z1] at s0; rw [hn_0, Int32.lt_iff_toInt_lt, z0]; omega)) (ti f q0 60) bp_60.1 bp_60.2)), (show ¬ (30 < ((ti f q0 60) + 1)) from ((fun (a_0 : Int32) (k_0 : ¬ (29 < a_0)) => (show ¬ (30 < (a_0 + 1)) from by have z0 : (1 : Int32).toInt = 1 := (by decide +kernel); have z1 : (29 : Int32).toInt = 29 := (by decide +kernel); have z2 : (30 : Int32).toInt = 30 := (by decide +kernel); have r0 := fb_rng (a_0); have e0 := k_0; rw [Int32.lt_iff_toInt_lt, z1] at e0; obtain ⟨n_0, hn_0, s0⟩ := nd_add (x := a_0) (y := (1 : Int32)) (by (try rw [z0]); omega) (by (try rw [z0]); omega); rw [z0] at s0; rw [hn_0, Int32.lt_iff_toInt_lt, z2]; omega)) (ti f q0 60) as_0))⟩ d_Md_newPensioner_27 (fun f_3 H locs hP hD hS hO_3 hE_3 w_5 hF_3 => ?_)
  have hA_3 := hA_2.trans hE_3
  have hQ := hQ f_3 hF_3
  have hQ := hQ hO_3
  refine lv_aload_n hx hb d_Md_newPensioner_30 rfl (lv_at hl 0 rfl) ?_
  refine tw_getI (x := ((ti f q0 60) + 1)) (D := (dC, dI)) (C := R_Md) (T := F_Md) (N := 64) (ci := 7) (kd := 27) (ct := ct) hx hb htb i_Md hown hK hP (hA_3.m m0) rfl rfl 60 w_5 (by decide) (htb (.fieldLink R_Md 323 "WaterMenModel" "pensioners" "I") tw_117) (fun _ h9 => h9) rfl d_Md_newPensioner_31 ?_
  refine lv_iconst (v := 1) hx hb d_Md_newPensioner_34 (by decide +kernel) ?_
  refine lv_isub hx hb d_Md_newPensioner_35 ?_
  refine W.widen (k := 0) (n := 0) (Nat.le_of_ble_eq_true rfl) (Nat.le_of_ble_eq_true rfl) ?_
  exact W.iret (v := (((ti f q0 60) + 1) - 1)) hx hb hr (fun t ht hW => ⟨⟨(((ti f q0 60) + 1) - 1), (L, f_3), rfl, ⟨hO_3, hA_3.mono (by decide +kernel), trivial, hQ⟩, by rw [ht]; exact hP, va_K.moved hW.alike hK, by rw [hAe]; exact hD⟩, by rw [hAe]; exact hS.F ht⟩) (by rw [hAe]; exact hS.2.2) d_Md_newPensioner_36
