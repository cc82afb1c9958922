def wp_Md_why_w (L : List Nat) (f : TF) (q0 : Nat) (p_0 : Int32) (p_1 : Int32) (p_2 : Int32) (Q : Int32 → Prop) : Prop := wp_Md_isAsked_w L f q0 p_0 p_1 p_2 (fun (r_1 : Int32) => ((r_1 = 0 → Q (-1)) ∧ (r_1 = 1 → wp_Md_hinders_w L f q0 p_0 p_1 p_2 (fun (r_8 : Int32) => Q r_8))))
set_option maxHeartbeats 4000000 in
set_option maxRecDepth 100000 in
theorem c_Md_why_w (l : Launch) (dC : Nat → ClassId) (dI : Nat → Nat → Nat) (ct : Nat → ClassId) (L : List Nat) (f : TF) (hO_0 : Ok L f) (q0 : Nat) (m0 : q0 ∈ L ∧ tk f q0 = 27) (p_0 : Int32) (p_1 : Int32) (p_2 : Int32)   (Q : Int32 → Prop) (hQ : wp_Md_why_w L f q0 p_0 p_1 p_2 Q) : Met l y_Md_why (.code y_Md_why b_Md_why 4 (some .int) :: TB) ({ frames := 4, cells := 0, slots := 0, locals := 103 }) (va_Pc [.ref q0, .int p_0, .int p_1, .int p_2] (PR dC dI (TW ct L f) (TT ct))) (vp_Si (fun r => (True) ∧ Q r)) 0 0 (fun _ => False) := by
  refine Met.ofW (cc := b_Md_why) (maxL := 4) (ret := (some .int)) (by decide) rfl ?_
  intro p e s m args below meth c s₁ B hml hv
  obtain ⟨rfl, hP, hK, hN⟩ := hv
  have hx := B.exec
  have hb := B.bytes
  have hr := B.returns
  have hts := atoms_spec (ws := (.code y_Md_why b_Md_why 4 (some .int) :: TB)) B.pre
  have htb := fun w (h : w ∈ TB) => hts w (List.mem_cons_of_mem _ h)
  have hown : s.vm.findClass R_Md = some m.cls := findClass_of_methodNamed B.named
  have hlocks := B.notSynchronized
  have hl := lv_entry ([.ref q0, .int p_0, .int p_1, .int p_2]) (n := 4) (Nat.le_of_ble_eq_true rfl)
  rw [lg_entry_eq]
  generalize (lg_sl ([.ref q0, .int p_0, .int p_1, .int p_2]) ++ List.replicate (4 - (lg_sl ([.ref q0, .int p_0, .int p_1, .int p_2])).length) Slot.unset).toArray = ls at hl ⊢
  have hl : lv_has ls 4 [(0, .ref q0), (1, .int p_0), (2, .int p_1), (3, .int p_2)] := hl
  unfold wp_Md_why_w at hQ
  refine lv_aload_n hx hb d_Md_why_0 rfl (lv_at hl 0 rfl) ?_
  refine lv_iload_n hx hb d_Md_why_1 rfl (lv_at hl 1 rfl) ?_
  refine lv_iload_n hx hb d_Md_why_2 rfl (lv_at hl 2 rfl) ?_
  refine lv_iload_n hx hb d_Md_why_3 rfl (lv_at hl 3 rfl) ?_
  refine vp_callSi (va_Run.run (va_runV (As := [.int p_0, .int p_1, .int p_2]) (rest := []) ⟨hx, hb, hml, hown, htb⟩ (c_Md_isAsked_w l dC dI ct L f hO_0 q0 m0 p_0 p_1 p_2 _ hQ) (cwV 3 htb (gd_V tw_576 tw_577 tw_578 tw_89 tw_575) rfl rfl rfl (by decide +kernel) ⟨Nat.le_of_ble_eq_true rfl, Nat.le_of_ble_eq_true rfl⟩) ⟨pr_blind, tw_recv hK hP m0 rfl rfl, pr_pre hP hK hN⟩ rfl rfl hl.1 rfl (lv_room (Nat.le_of_ble_eq_true rfl)) d_Md_why_4 ⟨Nat.le_of_ble_eq_true rfl, Nat.le_of_ble_eq_true rfl⟩)) (fun r_1 er_1 => ?_)
  obtain ⟨er_1, hQ⟩ := er_1
  rcases er_1 with ⟨rfl, -⟩ | ⟨rfl, po_2, po_3, po_4, po_5, po_6, po_7, -⟩
  · have hQ := hQ.1 rfl
    refine lv_if_eq (tgt := 20) hx hb d_Md_why_7 (by decide) (fun _ => ?_) (fun h => absurd (by decide +kernel) h)
    refine lv_iconst (v := (-1)) hx hb d_Md_why_20 (by decide +kernel) ?_
    exact W.iret (v := (-1)) hx hb hr (fun t ht hW => ⟨(-1), rfl, ⟨trivial, hQ⟩, ht⟩) t_nil d_Md_why_21
  · have hQ := hQ.2 rfl
    refine lv_if_eq (tgt := 20) hx hb d_Md_why_7 (by decide) (fun h => absurd h (by decide +kernel)) (fun _ => ?_)
    refine lv_aload_n hx hb d_Md_why_10 rfl (lv_at hl 0 rfl) ?_
    refine lv_iload_n hx hb d_Md_why_11 rfl (lv_at hl 1 rfl) ?_
    refine lv_iload_n hx hb d_Md_why_12 rfl (lv_at hl 2 rfl) ?_
    refine lv_iload_n hx hb d_Md_why_13 rfl (lv_at hl 3 rfl) ?_
    refine vp_callSi (va_Run.run (va_runV (As := [.int p_0, .int p_1, .int p_2]) (rest := []) ⟨hx, hb, hml, hown, htb⟩ (c_Md_hinders_w l dC dI ct L f hO_0 q0 m0 p_0 p_1 p_2 po_2 po_3 po_4 po_5 po_6 po_7 _ hQ) (cwV 3 htb (gd_V tw_588 tw_589 tw_590 tw_89 tw_587) rfl rfl rfl (by decide +kernel) ⟨Nat.le_of_ble_eq_true rfl, Nat.le_of_ble_eq_true rfl⟩) ⟨pr_blind, tw_recv hK hP m0 rfl rfl, pr_pre hP hK hN⟩ rfl rfl hl.1 rfl (lv_room (Nat.le_of_ble_eq_true rfl)) d_Md_why_14 ⟨Nat.le_of_ble_eq_true rfl, Nat.le_of_ble_eq_true rfl⟩)) (fun r_8 er_8 => ?_)
    obtain ⟨er_8, hQ⟩ := er_8
    clear er_8
    refine lv_goto (tgt := 21) hx hb d_Md_why_17 (by decide) ?_
    exact W.iret (v := r_8) hx hb hr (fun t ht hW => ⟨r_8, rfl, ⟨trivial, hQ⟩, ht⟩) t_nil d_Md_why_21
def W_Tr_init_w : List (Nat × Nat) := [(25, 0), (25, 1), (25, 2), (25, 3)]
def wp_Tr_init_w (L : List Nat) (f : TF) (q0 : Nat) (p_0 : Int32) (p_1 : Int32) (p_2 : Int32) (p_3 : Int32) (Q : List Nat → TF → Prop) : Prop := ∀ f_1 : TF, f_1 = sI f q0 0 p_0 → Ok L f_1 → ∀ f_2 : TF, f_2 = sI f_1 q0 1 p_1 → Ok L f_2 → ∀ f_3 : TF, f_3 = sI f_2 q0 2 p_2 → Ok L f_3 → ∀ f_4 : TF, f_4 = sI f_3 q0 3 p_3 → Ok L f_4 → Q L f_4
set_option maxHeartbeats 4000000 in
set_option maxRecDepth 100000 in
theorem c_Tr_init_w (l : Launch) (dC : Nat → ClassId) (dI : Nat → Nat → Nat) (ct : Nat → ClassId) (L : List Nat) (f : TF) (hO_0 : Ok L f) (q0 : Nat) (m0 : q0 ∈ L ∧ tk f q0 = 25) (sz : Nat) (p_0 : Int32) (p_1 : Int32) (p_2 : Int32) (p_3 : Int32)  (as_0 : ¬ (p_2 < 0)) (as_1 : ¬ (359999 < p_2)) (Q : List Nat → TF → Prop) (hQ : wp_Tr_init_w L f q0 p_0 p_1 p_2 p_3 Q) : Met l y_Tr_init (.code y_Tr_init b_Tr_init 5 none :: TB) ({ frames := 1, cells := 0, slots := 0, locals := 12 }) (va_Pc [.ref q0, .int p_0, .int p_1, .int p_2, .int p_3] (PC dC dI (TW ct L f) (TT ct) sz)) (va_Qv (fun (u : TSt) => Ok u.1 u.2 ∧ Ext W_Tr_init_w L f u.1 u.2 ∧ (True) ∧ Q u.1 u.2) (fun (u : TSt) t => va_P (dC, dI) vwCl (TW ct u.1 u.2) t.heap ∧ va_K (dC, dI) vwCl (TT ct) t ∧ va_D (va_A (TW ct L f) sz) (TW ct u.1 u.2)) (va_A (TW ct L f) sz)) 0 0 (va_A (TW ct L f) sz) := by
  refine Met.ofW (cc := b_Tr_init) (maxL := 5) (ret := none) (by decide) rfl ?_
  intro p e s m args below meth c s₁ B hml hv
  obtain ⟨rfl, hsz, hP, hK, hD0, hN⟩ := hv
  have hx := B.exec
  have hb := B.bytes
  have hr := B.returns
  have hts := atoms_spec (ws := (.code y_Tr_init b_Tr_init 5 none :: TB)) B.pre
  have htb := fun w (h : w ∈ TB) => hts w (List.mem_cons_of_mem _ h)
  have hown : s.vm.findClass R_Tr = some m.cls := findClass_of_methodNamed B.named
  have hlocks := B.notSynchronized
  have hin : meth.name = "<init>" := (name_of_methodNamed B.named B.method).1
  have hl := lv_entry ([.ref q0, .int p_0, .int p_1, .int p_2, .int p_3]) (n := 5) (Nat.le_of_ble_eq_true rfl)
  rw [lg_entry_eq]
  generalize (lg_sl ([.ref q0, .int p_0, .int p_1, .int p_2, .int p_3]) ++ List.replicate (5 - (lg_sl ([.ref q0, .int p_0, .int p_1, .int p_2, .int p_3])).length) Slot.unset).toArray = ls at hl ⊢
  have hl : lv_has ls 5 [(0, .ref q0), (1, .int p_0), (2, .int p_1), (3, .int p_2), (4, .int p_3)] := hl
  subst hsz
  have hD := hD0.self (sz := s.heap.size)
  obtain ⟨A, hAe⟩ : ∃ A, va_A (TW ct L f) s.heap.size = A := ⟨_, rfl⟩
  rw [hAe] at hD
  have hA : ∀ q : Nat, s.heap.size ≤ q → A q := fun q h => by rw [← hAe]; exact Or.inr h
  have hS : va_S A s.heap s.heap [] := va_S.rf
  have hA_0 : Ext [] L f L f := Ext.rf
  suffices hGo : ∀ (H : Heap) (locs : List Loc), va_P (dC, dI) vwCl (TW ct L f) H → va_S A s.heap H locs → W p l e (headSpec (.code y_Tr_init b_Tr_init 5 none :: TB) ({ frames := 1, cells := 0, slots := 0, locals := 12 })).room s m [.ref q0, .int p_0, .int p_1, .int p_2, .int p_3].toArray below meth c H locs 0 0 (MQ below (va_Qv (fun (u : TSt) => Ok u.1 u.2 ∧ Ext W_Tr_init_w L f u.1 u.2 ∧ (True) ∧ Q u.1 u.2) (fun (u : TSt) t => va_P (dC, dI) vwCl (TW ct u.1 u.2) t.heap ∧ va_K (dC, dI) vwCl (TT ct) t ∧ va_D (va_A (TW ct L f) s.heap.size) (TW ct u.1 u.2)) (va_A (TW ct L f) s.heap.size)) [.ref q0, .int p_0, .int p_1, .int p_2, .int p_3].toArray s 0 0 (va_A (TW ct L f) s.heap.size)) (F0 m 0 ls []) from hGo _ _ hP hS
  clear hP hS
  intro H locs hP hS
  unfold wp_Tr_init_w at hQ
  refine lv_aload_n hx hb d_Tr_init_0 rfl (lv_at hl 0 rfl) ?_
  refine W.objInit hx hb hown (htb (.methodLink R_Tr 1 objectInit) tw_596) (htb (.instanceMethod objectInit) tw_329) (htb (.code objectInit ⟨#[0xb1]⟩ 1 none) tw_330) rfl (by rw [hml]; exact hl.1) rfl d_Tr_init_1 (Nat.le_of_ble_eq_true rfl) (Nat.le_of_ble_eq_true rfl) ?_
  refine W.eq (g2 := F0 m 4 ls []) rfl ?_
  refine lv_aload_n hx hb d_Tr_init_4 rfl (lv_at hl 0 rfl) ?_
  refine lv_iload_n hx hb d_Tr_init_5 rfl (lv_at hl 1 rfl) ?_
  refine tw_putFi (v := p_0) (D := (dC, dI)) (C := R_Tr) (T := F_Tr) (N := 8) (ci := 10) (kd := 25) (ct := ct) (ty := .int) hx hb htb i_Tr t_Tr t_Tr_ok n_Tr hown hK hP hD hS hO_0 m0 rfl rfl 0 (by decide) (htb (.fieldLink R_Tr 7 "WaterMen$Trip" "boat" "I") tw_597) (fun _ h9 => h9) rfl hin rfl (by decide +kernel) rfl rfl rfl (i32_full _) d_Tr_init_6 (fun f_1 H locs hP hD hS hO_1 hE_1 w_1 hF_1 => ?_)
  have hA_1 := hA_0.trans hE_1
  have hQ := hQ f_1 hF_1
  have hQ := hQ hO_1
  refine lv_aload_n hx hb d_Tr_init_9 rfl (lv_at hl 0 rfl) ?_
  refine lv_iload_n hx hb d_Tr_init_10 rfl (lv_at hl 2 rfl) ?_
  refine tw_putFi (v := p_1) (D := (dC, dI)) (C := R_Tr) (T := F_Tr) (N := 8) (ci := 10) (kd := 25) (ct := ct) (ty := .int) hx hb htb i_Tr t_Tr t_Tr_ok n_Tr hown hK hP hD hS hO_1 (hA_1.m m0) rfl rfl 1 (by decide) (htb (.fieldLink R_Tr 13 "WaterMen$Trip" "man" "I") tw_598) (fun _ h9 => h9) rfl hin rfl (by decide +kernel) rfl rfl rfl (i32_full _) d_Tr_init_11 (fun f_2 H locs hP hD hS hO_2 hE_2 w_2 hF_2 => ?_)
  have hA_2 := hA_1.trans hE_2
  have hQ := hQ f_2 hF_2
  have hQ := hQ hO_2
  refine lv_aload_n hx hb d_Tr_init_14 rfl (lv_at hl 0 rfl) ?_
  refine lv_iload_n hx hb d_Tr_init_15 rfl (lv_at hl 3 rfl) ?_
  refine tw_putFi (v := p_2) (D := (dC, dI)) (C := R_Tr) (T := F_Tr) (N := 8) (ci := 10) (kd := 25) (ct := ct) (ty := .int) hx hb htb i_Tr t_Tr t_Tr_ok n_Tr hown hK hP hD hS hO_2 (hA_2.m m0) rfl rfl 2 (by decide) (htb (.fieldLink R_Tr 16 "WaterMen$Trip" "start" "I") tw_599) (fun _ h9 => h9) rfl hin rfl (by decide +kernel) rfl rfl rfl ⟨as_0, as_1⟩ d_Tr_init_16 (fun f_3 H locs hP hD hS hO_3 hE_3 w_3 hF_3 => ?_)
  have hA_3 := hA_2.trans hE_3
  have hQ := hQ f_3 hF_3
  have hQ := hQ hO_3
  refine lv_aload_n hx hb d_Tr_init_19 rfl (lv_at hl 0 rfl) ?_
  refine lv_iload hx hb d_Tr_init_20 (lv_at hl 4 rfl) ?_
  refine tw_putFi (v := p_3) (D := (dC, dI)) (C := R_Tr) (T := F_Tr) (N := 8) (ci := 10) (kd := 25) (ct := ct) (ty := .int) hx hb htb i_Tr t_Tr t_Tr_ok n_Tr hown hK hP hD hS hO_3 (hA_3.m m0) rfl rfl 3 (by decide) (htb (.fieldLink R_Tr 19 "WaterMen$Trip" "paid" "I") tw_600) (fun _ h9 => h9) rfl hin rfl (by decide +kernel) rfl rfl rfl (i32_full _) d_Tr_init_22 (fun f_4 H locs hP hD hS hO_4 hE_4 w_4 hF_4 => ?_)
  have hA_4 := hA_3.trans hE_4
  have hQ := hQ f_4 hF_4
  have hQ := hQ hO_4
  refine W.widen (k := 0) (n := 0) (Nat.le_of_ble_eq_true rfl) (Nat.le_of_ble_eq_true rfl) ?_
  exact W.vret hx hb hr (fun t ht hW => ⟨⟨(L, f_4), rfl, ⟨hO_4, hA_4.mono (by decide +kernel), trivial, hQ⟩, by rw [ht]; exact hP, va_K.moved hW.alike hK, by rw [hAe]; exact hD⟩, by rw [hAe]; exact hS.F ht⟩) (by rw [hAe]; exact hS.2.2) d_Tr_init_25
def W_Bt_setOut_w : List (Nat × Nat) := [(24, 1), (24, 2), (24, 3), (24, 4)]
def wp_Bt_setOut_w (L : List Nat) (f : TF) (q0 : Nat) (pq_0 : Nat) (p_1 : Int32) (Q : List Nat → TF → Prop) : Prop := ∀ x_1 : Int32, ti f pq_0 5 = x_1 → ∀ f_1 : TF, f_1 = sI f q0 1 x_1 → Ok L f_1 → ∀ x_3 : Int32, ti f_1 pq_0 6 = x_3 → ∀ f_2 : TF, f_2 = sI f_1 q0 2 x_3 → Ok L f_2 → ∀ x_5 : Int32, ti f_2 pq_0 1 = x_5 → ∀ f_3 : TF, f_3 = sI f_2 q0 3 x_5 → Ok L f_3 → ∀ f_4 : TF, f_4 = sI f_3 q0 4 p_1 → Ok L f_4 → Q L f_4
set_option maxHeartbeats 4000000 in
set_option maxRecDepth 100000 in
theorem c_Bt_setOut_w (l : Launch) (dC : Nat → ClassId) (dI : Nat → Nat → Nat) (ct : Nat → ClassId) (L : List Nat) (f : TF) (hO_0 : Ok L f) (q0 : Nat) (m0 : q0 ∈ L ∧ tk f q0 = 24) (pq_0 : Nat) (pm_0 : pq_0 ∈ L ∧ tk f pq_0 = 25) (sz : Nat) (p_1 : Int32)   (Q : List Nat → TF → Prop) (hQ : wp_Bt_setOut_w L f q0 pq_0 p_1 Q) : Met l y_Bt_setOut (.code y_Bt_setOut b_Bt_setOut 3 none :: TB) ({ frames := 0, cells := 0, slots := 0, locals := 0 }) (va_Pc [.ref q0, .ref pq_0, .int p_1] (PC dC dI (TW ct L f) (TT ct) sz)) (va_Qv (fun (u : TSt) => Ok u.1 u.2 ∧ Ext W_Bt_setOut_w L f u.1 u.2 ∧ (True) ∧ Q u.1 u.2) (fun (u : TSt) t => va_P (dC, dI) vwCl (TW ct u.1 u.2) t.heap ∧ va_K (dC, dI) vwCl (TT ct) t ∧ va_D (va_A (TW ct L f) sz) (TW ct u.1 u.2)) (va_A (TW ct L f) sz)) 0 0 (va_A (TW ct L f) sz) := by
  refine Met.ofW (cc := b_Bt_setOut) (maxL := 3) (ret := none) (by decide) rfl ?_
  intro p e s m args below meth c s₁ B hml hv
  obtain ⟨rfl, hsz, hP, hK, hD0, hN⟩ := hv
  have hx := B.exec
  have hb := B.bytes
  have hr := B.returns
  have hts := atoms_spec (ws := (.code y_Bt_setOut b_Bt_setOut 3 none :: TB)) B.pre
  have htb := fun w (h : w ∈ TB) => hts w (List.mem_cons_of_mem _ h)
  have hown : s.vm.findClass R_Bt = some m.cls := findClass_of_methodNamed B.named
  have hlocks := B.notSynchronized
  have hl := lv_entry ([.ref q0, .ref pq_0, .int p_1]) (n := 3) (Nat.le_of_ble_eq_true rfl)
  rw [lg_entry_eq]
  generalize (lg_sl ([.ref q0, .ref pq_0, .int p_1]) ++ List.replicate (3 - (lg_sl ([.ref q0, .ref pq_0, .int p_1])).length) Slot.unset).toArray = ls at hl ⊢
  have hl : lv_has ls 3 [(0, .ref q0), (1, .ref pq_0), (2, .int p_1)] := hl
  subst hsz
  have hD := hD0.self (sz := s.heap.size)
  obtain ⟨A, hAe⟩ : ∃ A, va_A (TW ct L f) s.heap.size = A := ⟨_, rfl⟩
  rw [hAe] at hD
  have hA : ∀ q : Nat, s.heap.size ≤ q → A q := fun q h => by rw [← hAe]; exact Or.inr h
  have hS : va_S A s.heap s.heap [] := va_S.rf
  have hA_0 : Ext [] L f L f := Ext.rf
  suffices hGo : ∀ (H : Heap) (locs : List Loc), va_P (dC, dI) vwCl (TW ct L f) H → va_S A s.heap H locs → W p l e (headSpec (.code y_Bt_setOut b_Bt_setOut 3 none :: TB) ({ frames := 0, cells := 0, slots := 0, locals := 0 })).room s m [.ref q0, .ref pq_0, .int p_1].toArray below meth c H locs 0 0 (MQ below (va_Qv (fun (u : TSt) => Ok u.1 u.2 ∧ Ext W_Bt_setOut_w L f u.1 u.2 ∧ (True) ∧ Q u.1 u.2) (fun (u : TSt) t => va_P (dC, dI) vwCl (TW ct u.1 u.2) t.heap ∧ va_K (dC, dI) vwCl (TT ct) t ∧ va_D (va_A (TW ct L f) s.heap.size) (TW ct u.1 u.2)) (va_A (TW ct L f) s.heap.size)) [.ref q0, .ref pq_0, .int p_1].toArray s 0 0 (va_A (TW ct L f) s.heap.size)) (F0 m 0 ls []) from hGo _ _ hP hS
  clear hP hS
  intro H locs hP hS
  unfold wp_Bt_setOut_w at hQ
  refine lv_aload_n hx hb d_Bt_setOut_0 rfl (lv_at hl 0 rfl) ?_
  refine lv_aload_n hx hb d_Bt_setOut_1 rfl (lv_at hl 1 rfl) ?_
  refine tw_geti (D := (dC, dI)) (C := R_Tr) (T := F_Tr) (N := 8) (ci := 10) (kd := 25) (ct := ct) hx hb htb i_Tr hown hK hP hO_0 pm_0 rfl rfl 5 (by decide) (htb (.fieldLink R_Bt 31 "WaterMen$Trip" "to" "I") tw_608) (fun _ h9 => h9) rfl d_Bt_setOut_2 (fun x_1 e_1 b_1 => ?_)
  have hQ := hQ x_1 e_1
  refine tw_puti (v := x_1) (D := (dC, dI)) (C := R_Bt) (T := F_Bt) (N := 6) (ci := 9) (kd := 24) (ct := ct) (ty := .int) hx hb htb i_Bt t_Bt t_Bt_ok n_Bt hown hK hP hD hS hO_0 m0 rfl rfl 1 (by decide) (htb (.fieldLink R_Bt 21 "WaterMen$Boat" "stairs" "I") tw_506) (fun _ h9 => h9) rfl (by decide +kernel) rfl rfl rfl ⟨b_1.1, b_1.2⟩ d_Bt_setOut_5 (fun f_1 H locs hP hD hS hO_1 hE_1 w_2 hF_1 => ?_)
  have hA_1 := hA_0.trans hE_1
  have hQ := hQ f_1 hF_1
  have hQ := hQ hO_1
  refine lv_aload_n hx hb d_Bt_setOut_8 rfl (lv_at hl 0 rfl) ?_
  refine lv_aload_n hx hb d_Bt_setOut_9 rfl (lv_at hl 1 rfl) ?_
  refine tw_geti (D := (dC, dI)) (C := R_Tr) (T := F_Tr) (N := 8) (ci := 10) (kd := 25) (ct := ct) hx hb htb i_Tr hown hK hP hO_1 (hA_1.m pm_0) rfl rfl 6 (by decide) (htb (.fieldLink R_Bt 36 "WaterMen$Trip" "arrival" "I") tw_609) (fun _ h9 => h9) rfl d_Bt_setOut_10 (fun x_3 e_3 b_3 => ?_)
  have hQ := hQ x_3 e_3
  refine tw_puti (v := x_3) (D := (dC, dI)) (C := R_Bt) (T := F_Bt) (N := 6) (ci := 9) (kd := 24) (ct := ct) (ty := .int) hx hb htb i_Bt t_Bt t_Bt_ok n_Bt hown hK hP hD hS hO_1 (hA_1.m m0) rfl rfl 2 (by decide) (htb (.fieldLink R_Bt 28 "WaterMen$Boat" "thereFrom" "I") tw_521) (fun _ h9 => h9) rfl (by decide +kernel) rfl rfl rfl (i32_full _) d_Bt_setOut_13 (fun f_2 H locs hP hD hS hO_2 hE_2 w_4 hF_2 => ?_)
  have hA_2 := hA_1.trans hE_2
  have hQ := hQ f_2 hF_2
  have hQ := hQ hO_2
  refine lv_aload_n hx hb d_Bt_setOut_16 rfl (lv_at hl 0 rfl) ?_
  refine lv_aload_n hx hb d_Bt_setOut_17 rfl (lv_at hl 1 rfl) ?_
  refine tw_geti (D := (dC, dI)) (C := R_Tr) (T := F_Tr) (N := 8) (ci := 10) (kd := 25) (ct := ct) hx hb htb i_Tr hown hK hP hO_2 (hA_2.m pm_0) rfl rfl 1 (by decide) (htb (.fieldLink R_Bt 39 "WaterMen$Trip" "man" "I") tw_610) (fun _ h9 => h9) rfl d_Bt_setOut_18 (fun x_5 e_5 b_5 => ?_)
  have hQ := hQ x_5 e_5
  refine tw_puti (v := x_5) (D := (dC, dI)) (C := R_Bt) (T := F_Bt) (N := 6) (ci := 9) (kd := 24) (ct := ct) (ty := .int) hx hb htb i_Bt t_Bt t_Bt_ok n_Bt hown hK hP hD hS hO_2 (hA_2.m m0) rfl rfl 3 (by decide) (htb (.fieldLink R_Bt 9 "WaterMen$Boat" "rower" "I") tw_503) (fun _ h9 => h9) rfl (by decide +kernel) rfl rfl rfl (i32_full _) d_Bt_setOut_21 (fun f_3 H locs hP hD hS hO_3 hE_3 w_6 hF_3 => ?_)
  have hA_3 := hA_2.trans hE_3
  have hQ := hQ f_3 hF_3
  have hQ := hQ hO_3
  refine lv_aload_n hx hb d_Bt_setOut_24 rfl (lv_at hl 0 rfl) ?_
  refine lv_iload_n hx hb d_Bt_setOut_25 rfl (lv_at hl 2 rfl) ?_
  refine tw_puti (v := p_1) (D := (dC, dI)) (C := R_Bt) (T := F_Bt) (N := 6) (ci := 9) (kd := 24) (ct := ct) (ty := .int) hx hb htb i_Bt t_Bt t_Bt_ok n_Bt hown hK hP hD hS hO_3 (hA_3.m m0) rfl rfl 4 (by decide) (htb (.fieldLink R_Bt 15 "WaterMen$Boat" "lastTrip" "I") tw_504) (fun _ h9 => h9) rfl (by decide +kernel) rfl rfl rfl (i32_full _) d_Bt_setOut_26 (fun f_4 H locs hP hD hS hO_4 hE_4 w_7 hF_4 => ?_)
  have hA_4 := hA_3.trans hE_4
  have hQ := hQ f_4 hF_4
  have hQ := hQ hO_4
  refine W.widen (k := 0) (n := 0) (Nat.le_of_ble_eq_true rfl) (Nat.le_of_ble_eq_true rfl) ?_
  exact W.vret hx hb hr (fun t ht hW => ⟨⟨(L, f_4), rfl, ⟨hO_4, hA_4.mono (by decide +kernel), trivial, hQ⟩, by rw [ht]; exact hP, va_K.moved hW.alike hK, by rw [hAe]; exact hD⟩, by rw [hAe]; exact hS.F ht⟩) (by rw [hAe]; exact hS.2.2) d_Bt_setOut_29
def W_Mn_setOut_w : List (Nat × Nat) := [(20, 2), (20, 5), (20, 6)]
def wp_Mn_setOut_w (L : List Nat) (f : TF) (q0 : Nat) (p_0 : Int32) (Q : List Nat → TF → Prop) : Prop := ∀ f_1 : TF, f_1 = sI f q0 5 p_0 → Ok L f_1 → ∀ f_2 : TF, f_2 = sI f_1 q0 2 (-1) → Ok L f_2 → ∀ x_3 : Int32, ti f_2 q0 6 = x_3 → ∀ f_3 : TF, f_3 = sI f_2 q0 6 (x_3 + 1) → Ok L f_3 → Q L f_3
set_option maxHeartbeats 4000000 in
set_option maxRecDepth 100000 in
theorem c_Mn_setOut_w (l : Launch) (dC : Nat → ClassId) (dI : Nat → Nat → Nat) (ct : Nat → ClassId) (L : List Nat) (f : TF) (hO_0 : Ok L f) (q0 : Nat) (m0 : q0 ∈ L ∧ tk f q0 = 20) (sz : Nat) (p_0 : Int32)   (Q : List Nat → TF → Prop) (hQ : wp_Mn_setOut_w L f q0 p_0 Q) : Met l y_Mn_setOut (.code y_Mn_setOut b_Mn_setOut 2 none :: TB) ({ frames := 0, cells := 0, slots := 0, locals := 0 }) (va_Pc [.ref q0, .int p_0] (PC dC dI (TW ct L f) (TT ct) sz)) (va_Qv (fun (u : TSt) => Ok u.1 u.2 ∧ Ext W_Mn_setOut_w L f u.1 u.2 ∧ (True) ∧ Q u.1 u.2) (fun (u : TSt) t => va_P (dC, dI) vwCl (TW ct u.1 u.2) t.heap ∧ va_K (dC, dI) vwCl (TT ct) t ∧ va_D (va_A (TW ct L f) sz) (TW ct u.1 u.2)) (va_A (TW ct L f) sz)) 0 0 (va_A (TW ct L f) sz) := by
  refine Met.ofW (cc := b_Mn_setOut) (maxL := 2) (ret := none) (by decide) rfl ?_
  intro p e s m args below meth c s₁ B hml hv
  obtain ⟨rfl, hsz, hP, hK, hD0, hN⟩ := hv
  have hx := B.exec
  have hb := B.bytes
  have hr := B.returns
  have hts := atoms_spec (ws := (.code y_Mn_setOut b_Mn_setOut 2 none :: TB)) B.pre
  have htb := fun w (h : w ∈ TB) => hts w (List.mem_cons_of_mem _ h)
  have hown : s.vm.findClass R_Mn = some m.cls := findClass_of_methodNamed B.named
  have hlocks := B.notSynchronized
  have hl := lv_entry ([.ref q0, .int p_0]) (n := 2) (Nat.le_of_ble_eq_true rfl)
  rw [lg_entry_eq]
  generalize (lg_sl ([.ref q0, .int p_0]) ++ List.replicate (2 - (lg_sl ([.ref q0, .int p_0])).length) Slot.unset).toArray = ls at hl ⊢
  have hl : lv_has ls 2 [(0, .ref q0), (1, .int p_0)] := hl
  subst hsz
  have hD := hD0.self (sz := s.heap.size)
  obtain ⟨A, hAe⟩ : ∃ A, va_A (TW ct L f) s.heap.size = A := ⟨_, rfl⟩
  rw [hAe] at hD
  have hA : ∀ q : Nat, s.heap.size ≤ q → A q := fun q h => by rw [← hAe]; exact Or.inr h
  have hS : va_S A s.heap s.heap [] := va_S.rf
  have hA_0 : Ext [] L f L f := Ext.rf
  suffices hGo : ∀ (H : Heap) (locs : List Loc), va_P (dC, dI) vwCl (TW ct L f) H → va_S A s.heap H locs → W p l e (headSpec (.code y_Mn_setOut b_Mn_setOut 2 none :: TB) ({ frames := 0, cells := 0, slots := 0, locals := 0 })).room s m [.ref q0, .int p_0].toArray below meth c H locs 0 0 (MQ below (va_Qv (fun (u : TSt) => Ok u.1 u.2 ∧ Ext W_Mn_setOut_w L f u.1 u.2 ∧ (True) ∧ Q u.1 u.2) (fun (u : TSt) t => va_P (dC, dI) vwCl (TW ct u.1 u.2) t.heap ∧ va_K (dC, dI) vwCl (TT ct) t ∧ va_D (va_A (TW ct L f) s.heap.size) (TW ct u.1 u.2)) (va_A (TW ct L f) s.heap.size)) [.ref q0, .int p_0].toArray s 0 0 (va_A (TW ct L f) s.heap.size)) (F0 m 0 ls []) from hGo _ _ hP hS
  clear hP hS
  intro H locs hP hS
  unfold wp_Mn_setOut_w at hQ
  refine lv_aload_n hx hb d_Mn_setOut_0 rfl (lv_at hl 0 rfl) ?_
  refine lv_iload_n hx hb d_Mn_setOut_1 rfl (lv_at hl 1 rfl) ?_
  refine tw_puti (v := p_0) (D := (dC, dI)) (C := R_Mn) (T := F_Mn) (N := 8) (ci := 2) (kd := 20) (ct := ct) (ty := .int) hx hb htb i_Mn t_Mn t_Mn_ok n_Mn hown hK hP hD hS hO_0 m0 rfl rfl 5 (by decide) (htb (.fieldLink R_Mn 21 "WaterMen$Man" "busyUntil" "I") tw_41) (fun _ h9 => h9) rfl (by decide +kernel) rfl rfl rfl (i32_full _) d_Mn_setOut_2 (fun f_1 H locs hP hD hS hO_1 hE_1 w_1 hF_1 => ?_)
  have hA_1 := hA_0.trans hE_1
  have hQ := hQ f_1 hF_1
  have hQ := hQ hO_1
  refine lv_aload_n hx hb d_Mn_setOut_5 rfl (lv_at hl 0 rfl) ?_
  refine lv_iconst (v := (-1)) hx hb d_Mn_setOut_6 (by decide +kernel) ?_
  refine tw_puti (v := (-1)) (D := (dC, dI)) (C := R_Mn) (T := F_Mn) (N := 8) (ci := 2) (kd := 20) (ct := ct) (ty := .int) hx hb htb i_Mn t_Mn t_Mn_ok n_Mn hown hK hP hD hS hO_1 (hA_1.m m0) rfl rfl 2 (by decide) (htb (.fieldLink R_Mn 15 "WaterMen$Man" "turnStairs" "I") tw_615) (fun _ h9 => h9) rfl (by decide +kernel) rfl rfl rfl (i32_full _) d_Mn_setOut_7 (fun f_2 H locs hP hD hS hO_2 hE_2 w_2 hF_2 => ?_)
  have hA_2 := hA_1.trans hE_2
  have hQ := hQ f_2 hF_2
  have hQ := hQ hO_2
  refine lv_aload_n hx hb d_Mn_setOut_10 rfl (lv_at hl 0 rfl) ?_
  refine lv_dup hx hb d_Mn_setOut_11 rfl ?_
  refine tw_geti (D := (dC, dI)) (C := R_Mn) (T := F_Mn) (N := 8) (ci := 2) (kd := 20) (ct := ct) hx hb htb i_Mn hown hK hP hO_2 (hA_2.m m0) rfl rfl 6 (by decide) (htb (.fieldLink R_Mn 24 "WaterMen$Man" "tripCount" "I") tw_616) (fun _ h9 => h9) rfl d_Mn_setOut_12 (fun x_3 e_3 b_3 => ?_)
  have hQ := hQ x_3 e_3
  refine lv_iconst (v := 1) hx hb d_Mn_setOut_15 (by decide +kernel) ?_
  refine lv_iadd hx hb d_Mn_setOut_16 ?_
  refine tw_puti (v := (x_3 + 1)) (D := (dC, dI)) (C := R_Mn) (T := F_Mn) (N := 8) (ci := 2) (kd := 20) (ct := ct) (ty := .int) hx hb htb i_Mn t_Mn t_Mn_ok n_Mn hown hK hP hD hS hO_2 (hA_2.m m0) rfl rfl 6 (by decide) (htb (.fieldLink R_Mn 24 "WaterMen$Man" "tripCount" "I") tw_616) (fun _ h9 => h9) rfl (by decide +kernel) rfl rfl rfl (i32_full _) d_Mn_setOut_17 (fun f_3 H locs hP hD hS hO_3 hE_3 w_4 hF_3 => ?_)
  have hA_3 := hA_2.trans hE_3
  have hQ := hQ f_3 hF_3
  have hQ := hQ hO_3
  refine W.widen (k := 0) (n := 0) (Nat.le_of_ble_eq_true rfl) (Nat.le_of_ble_eq_true rfl) ?_
  exact W.vret hx hb hr (fun t ht hW => ⟨⟨(L, f_3), rfl, ⟨hO_3, hA_3.mono (by decide +kernel), trivial, hQ⟩, by rw [ht]; exact hP, va_K.moved hW.alike hK, by rw [hAe]; exact hD⟩, by rw [hAe]; exact hS.F ht⟩) (by rw [hAe]; exact hS.2.2) d_Mn_setOut_20
def W_WM_takeMoney_t : List (Nat × Nat) := [(12, 0), (12, 1), (12, 2), (13, 1000), (20, 4), (20, 7)]
set_option maxHeartbeats 4000000 in
set_option maxRecDepth 100000 in
theorem c_WM_takeMoney_t (l : Launch) (dC : Nat → ClassId) (dI : Nat → Nat → Nat) (ct : Nat → ClassId) (L : List Nat) (f : TF) (hO_0 : Ok L f) (q0 : Nat) (m0 : q0 ∈ L ∧ tk f q0 = 0) (pq_0 : Nat) (pm_0 : pq_0 ∈ L ∧ tk f pq_0 = 20) (sz : Nat) (p_1 : Int32)   : Met l y_WM_takeMoney (.code y_WM_takeMoney b_WM_takeMoney 4 none :: TB) ({ frames := 2, cells := 0, slots := 0, locals := 42 }) (va_Pc [.ref q0, .ref pq_0, .int p_1] (PC dC dI (TW ct L f) (TT ct) sz)) (va_Qv (fun (u : TSt) => Ok u.1 u.2 ∧ Ext W_WM_takeMoney_t L f u.1 u.2 ∧ (True)) (fun (u : TSt) t => va_P (dC, dI) vwCl (TW ct u.1 u.2) t.heap ∧ va_K (dC, dI) vwCl (TT ct) t ∧ va_D (va_A (TW ct L f) sz) (TW ct u.1 u.2)) (va_A (TW ct L f) sz)) 0 0 (va_A (TW ct L f) sz) := by
  refine Met.ofW (cc := b_WM_takeMoney) (maxL := 4) (ret := none) (by decide) rfl ?_
  intro p e s m args below meth c s₁ B hml hv
  obtain ⟨rfl, hsz, hP, hK, hD0, hN⟩ := hv
  have hx := B.exec
  have hb := B.bytes
  have hr := B.returns
  have hts := atoms_spec (ws := (.code y_WM_takeMoney b_WM_takeMoney 4 none :: TB)) B.pre
  have htb := fun w (h : w ∈ TB) => hts w (List.mem_cons_of_mem _ h)
  have hown : s.vm.findClass R_WM = some m.cls := findClass_of_methodNamed B.named
  have hlocks := B.notSynchronized
  have hl := lv_entry ([.ref q0, .ref pq_0, .int p_1]) (n := 4) (Nat.le_of_ble_eq_true rfl)
  rw [lg_entry_eq]
  generalize (lg_sl ([.ref q0, .ref pq_0, .int p_1]) ++ List.replicate (4 - (lg_sl ([.ref q0, .ref pq_0, .int p_1])).length) Slot.unset).toArray = ls at hl ⊢
  have hl : lv_has ls 4 [(0, .ref q0), (1, .ref pq_0), (2, .int p_1)] := hl
  subst hsz
  have hD := hD0.self (sz := s.heap.size)
  obtain ⟨A, hAe⟩ : ∃ A, va_A (TW ct L f) s.heap.size = A := ⟨_, rfl⟩
  rw [hAe] at hD
  have hA : ∀ q : Nat, s.heap.size ≤ q → A q := fun q h => by rw [← hAe]; exact Or.inr h
  have hS : va_S A s.heap s.heap [] := va_S.rf
  have hA_0 : Ext [] L f L f := Ext.rf
  suffices hGo : ∀ (H : Heap) (locs : List Loc), va_P (dC, dI) vwCl (TW ct L f) H → va_S A s.heap H locs → W p l e (headSpec (.code y_WM_takeMoney b_WM_takeMoney 4 none :: TB) ({ frames := 2, cells := 0, slots := 0, locals := 42 })).room s m [.ref q0, .ref pq_0, .int p_1].toArray below meth c H locs 0 0 (MQ below (va_Qv (fun (u : TSt) => Ok u.1 u.2 ∧ Ext W_WM_takeMoney_t L f u.1 u.2 ∧ (True)) (fun (u : TSt) t => va_P (dC, dI) vwCl (TW ct u.1 u.2) t.heap ∧ va_K (dC, dI) vwCl (TT ct) t ∧ va_D (va_A (TW ct L f) s.heap.size) (TW ct u.1 u.2)) (va_A (TW ct L f) s.heap.size)) [.ref q0, .ref pq_0, .int p_1].toArray s 0 0 (va_A (TW ct L f) s.heap.size)) (F0 m 0 ls []) from hGo _ _ hP hS
  clear hP hS
  intro H locs hP hS
  refine lv_iload_n hx hb d_WM_takeMoney_0 rfl (lv_at hl 2 rfl) ?_
  refine lv_bipush (v := 20) hx hb d_WM_takeMoney_1 (by decide +kernel) ?_
  refine lv_idiv hx hb d_WM_takeMoney_3 (by decide) ?_
  refine lv_istore_n (lv' := [(3, .int (p_1 / 20)), (0, .ref q0), (1, .ref pq_0), (2, .int p_1)]) hx hb d_WM_takeMoney_4 rfl hl (by decide) rfl (fun ls hl => ?_)
  refine lv_aload_n hx hb d_WM_takeMoney_5 rfl (lv_at hl 1 rfl) ?_
  refine tw_getr (D := (dC, dI)) (C := R_WM) (T := F_WM) (N := 13) (ci := 0) (kd := 0) (ct := ct) hx hb htb i_WM hown hK hP hO_0 m0 rfl rfl 6 (by decide) (htb (.fieldLink R_WM 50 "WaterMen" "box" "LWaterMen$Box;") tw_48) (fun _ h9 => h9) rfl d_WM_takeMoney_6 (fun q_1 e_1 m_1 => ?_)
  refine lv_dup hx hb d_WM_takeMoney_9 rfl ?_
  refine tw_geti (D := (dC, dI)) (C := R_Bx) (T := F_Bx) (N := 7) (ci := 5) (kd := 12) (ct := ct) hx hb htb i_Bx hown hK hP hO_0 m_1 rfl rfl 2 (by decide) (htb (.fieldLink R_WM 350 "WaterMen$Box" "allPaid" "I") tw_86) (fun _ h9 => h9) rfl d_WM_takeMoney_10 (fun x_2 e_2 b_2 => ?_)
  refine lv_iload_n hx hb d_WM_takeMoney_13 rfl (lv_at hl 3 rfl) ?_
  refine lv_iadd hx hb d_WM_takeMoney_14 ?_
  refine tw_puti (v := (x_2 + p_1)) (D := (dC, dI)) (C := R_Bx) (T := F_Bx) (N := 7) (ci := 5) (kd := 12) (ct := ct) (ty := .int) hx hb htb i_Bx t_Bx t_Bx_ok n_Bx hown hK hP hD hS hO_0 m_1 rfl rfl 2 (by decide) (htb (.fieldLink R_WM 350 "WaterMen$Box" "allPaid" "I") tw_86) (fun _ h9 => h9) rfl (by decide +kernel) rfl rfl rfl (i32_full _) d_WM_takeMoney_15 (fun f_1 H locs hP hD hS hO_1 hE_1 w_3 hF_1 => ?_)
  have hA_1 := hA_0.trans hE_1
  refine lv_aload_n hx hb d_WM_takeMoney_18 rfl (lv_at hl 1 rfl) ?_
  refine tw_getR (D := (dC, dI)) (C := R_WM) (T := F_WM) (N := 13) (ci := 0) (kd := 0) (ct := ct) hx hb htb i_WM hown hK hP (hA_1.m m0) rfl rfl 6 ((hA_1.er m0 rfl).trans e_1) (by decide) (htb (.fieldLink R_WM 50 "WaterMen" "box" "LWaterMen$Box;") tw_48) (fun _ h9 => h9) rfl d_WM_takeMoney_19 ?_
  refine hb_tv (.ref q_1) rfl ?_
  refine lv_aload_n hx hb d_WM_takeMoney_22 rfl (lv_at hl 1 rfl) ?_
  refine vp_callSi (va_Run.run (va_runV (As := []) (rest := [.ref q_1]) ⟨hx, hb, hml, hown, htb⟩ (c_WM_today_t l dC dI ct L f_1 hO_1 q0 (hA_1.m m0)) (cwV 0 htb (gd_V tw_50 tw_51 tw_52 tw_26 tw_49) rfl rfl rfl (by decide +kernel) ⟨Nat.le_of_ble_eq_true rfl, Nat.le_of_ble_eq_true rfl⟩) ⟨pr_blind, tw_recv hK hP (hA_1.m m0) rfl rfl, pr_pre hP hK hN⟩ rfl rfl hl.1 rfl (lv_room (Nat.le_of_ble_eq_true rfl)) d_WM_takeMoney_23 ⟨Nat.le_of_ble_eq_true rfl, Nat.le_of_ble_eq_true rfl⟩)) (fun r_4 er_4 => ?_)
  obtain ⟨po_5, po_6, -⟩ := er_4
  refine lv_iload_n hx hb d_WM_takeMoney_26 rfl (lv_at hl 0 rfl) ?_
  have hFc := hb_free hD hS hA
  refine va_callv (va_runV (As := [.int r_4, .int (p_1 / 20)]) (rest := []) ⟨hx, hb, hml, hown, htb⟩ (c_Bx_receive_t l dC dI ct L f_1 hO_1 q_1 (hA_1.m m_1) _ r_4 (p_1 / 20)) (cwV 2 htb (gd_V tw_212 tw_213 tw_214 tw_61 tw_211) rfl rfl rfl (by decide +kernel) ⟨Nat.le_of_ble_eq_true rfl, Nat.le_of_ble_eq_true rfl⟩) ⟨pc_blind, tw_recv hK hP (hA_1.m m_1) rfl rfl, pc_pre hP hK hD hN⟩ rfl rfl hl.1 rfl (lv_room (Nat.le_of_ble_eq_true rfl)) d_WM_takeMoney_27 ⟨Nat.le_of_ble_eq_true rfl, Nat.le_of_ble_eq_true rfl⟩) hS (fun q _ h => hFc q h) hFc (fun u t H locs ht hvm er hB hz1 hk1 hS => ?_)
  obtain ⟨L_2, f_2⟩ := u
  obtain ⟨hO_2, hE_2, er⟩ := er
  obtain ⟨hP, hK1, hD1⟩ := hB
  rw [ht] at hP
  have hP : va_P (dC, dI) vwCl (TW ct L_2 f_2) H := hP
  have hD : va_D A (TW ct L_2 f_2) := hD1.weaken (fun _ q _ h => hFc q.1 h)
  have hO_2 : Ok L_2 f_2 := hO_2
  have hE_2 : Ext W_Bx_receive_t L f_1 L_2 f_2 := hE_2
  clear hK1 hD1 ht hvm hz1 hk1
  have hA_2 := hA_1.trans hE_2
  clear er
  refine lv_aload_n hx hb d_WM_takeMoney_30 rfl (lv_at hl 1 rfl) ?_
  refine vp_callSi (va_Run.run (va_runV (As := []) (rest := []) ⟨hx, hb, hml, hown, htb⟩ (c_WM_today_t l dC dI ct L_2 f_2 hO_2 q0 (hA_2.m m0)) (cwV 0 htb (gd_V tw_50 tw_51 tw_52 tw_26 tw_49) rfl rfl rfl (by decide +kernel) ⟨Nat.le_of_ble_eq_true rfl, Nat.le_of_ble_eq_true rfl⟩) ⟨pr_blind, tw_recv hK hP (hA_2.m m0) rfl rfl, pr_pre hP hK hN⟩ rfl rfl hl.1 rfl (lv_room (Nat.le_of_ble_eq_true rfl)) d_WM_takeMoney_31 ⟨Nat.le_of_ble_eq_true rfl, Nat.le_of_ble_eq_true rfl⟩)) (fun r_8 er_8 => ?_)
  obtain ⟨po_9, po_10, -⟩ := er_8
  refine vp_callSi (va_Run.run (va_runS (As := [.int r_8]) (rest := []) ⟨hx, hb, hml, hown, htb⟩ (c_WM_isSunday l r_8) (cwS 1 htb (gd_S tw_209 tw_210 tw_26 tw_208) rfl rfl rfl (by decide +kernel) ⟨Nat.le_of_ble_eq_true rfl, Nat.le_of_ble_eq_true rfl⟩) ⟨fun _ _ _ _ h => h, fun U _ _ => ⟨rfl, trivial⟩⟩ rfl rfl hl.1 rfl (lv_room (Nat.le_of_ble_eq_true rfl)) d_WM_takeMoney_34 ⟨Nat.le_of_ble_eq_true rfl, Nat.le_of_ble_eq_true rfl⟩)) (fun r er => ?_)
  subst er
  by_cases c_12 : (r_8 - r_8 / 7 * 7) = 0
  · refine hb_ti 1 (by unfold f_WM_isSunday; rw [if_pos c_12]; first | done | rfl) ?_
    refine lv_if_eq (tgt := 66) hx hb d_WM_takeMoney_37 (by decide) (fun h => absurd h (by decide +kernel)) (fun _ => ?_)
    refine lv_aload_n hx hb d_WM_takeMoney_40 rfl (lv_at hl 1 rfl) ?_
    refine tw_getR (D := (dC, dI)) (C := R_WM) (T := F_WM) (N := 13) (ci := 0) (kd := 0) (ct := ct) hx hb htb i_WM hown hK hP (hA_2.m m0) rfl rfl 6 ((hA_2.er m0 rfl).trans e_1) (by decide) (htb (.fieldLink R_WM 50 "WaterMen" "box" "LWaterMen$Box;") tw_48) (fun _ h9 => h9) rfl d_WM_takeMoney_41 ?_
    refine hb_tv (.ref q_1) rfl ?_
    refine lv_dup hx hb d_WM_takeMoney_44 rfl ?_
    refine tw_geti (D := (dC, dI)) (C := R_Bx) (T := F_Bx) (N := 7) (ci := 5) (kd := 12) (ct := ct) hx hb htb i_Bx hown hK hP hO_2 (hA_2.m m_1) rfl rfl 1 (by decide) (htb (.fieldLink R_WM 344 "WaterMen$Box" "pot" "I") tw_81) (fun _ h9 => h9) rfl d_WM_takeMoney_45 (fun x_13 e_13 b_13 => ?_)
    refine lv_iload_n hx hb d_WM_takeMoney_48 rfl (lv_at hl 3 rfl) ?_
    refine lv_iload_n hx hb d_WM_takeMoney_49 rfl (lv_at hl 0 rfl) ?_
    refine lv_isub hx hb d_WM_takeMoney_50 ?_
    refine lv_iadd hx hb d_WM_takeMoney_51 ?_
    refine tw_puti (v := (x_13 + (p_1 - (p_1 / 20)))) (D := (dC, dI)) (C := R_Bx) (T := F_Bx) (N := 7) (ci := 5) (kd := 12) (ct := ct) (ty := .int) hx hb htb i_Bx t_Bx t_Bx_ok n_Bx hown hK hP hD hS hO_2 (hA_2.m m_1) rfl rfl 1 (by decide) (htb (.fieldLink R_WM 344 "WaterMen$Box" "pot" "I") tw_81) (fun _ h9 => h9) rfl (by decide +kernel) rfl rfl rfl (i32_full _) d_WM_takeMoney_52 (fun f_3 H locs hP hD hS hO_3 hE_3 w_14 hF_3 => ?_)
    have hA_3 := hA_2.trans hE_3
    refine lv_aload_n hx hb d_WM_takeMoney_55 rfl (lv_at hl 2 rfl) ?_
    refine lv_aload_n hx hb d_WM_takeMoney_56 rfl (lv_at hl 1 rfl) ?_
    refine vp_callSi (va_Run.run (va_runV (As := []) (rest := [.ref pq_0]) ⟨hx, hb, hml, hown, htb⟩ (c_WM_today_t l dC dI ct L_2 f_3 hO_3 q0 (hA_3.m m0)) (cwV 0 htb (gd_V tw_50 tw_51 tw_52 tw_26 tw_49) rfl rfl rfl (by decide +kernel) ⟨Nat.le_of_ble_eq_true rfl, Nat.le_of_ble_eq_true rfl⟩) ⟨pr_blind, tw_recv hK hP (hA_3.m m0) rfl rfl, pr_pre hP hK hN⟩ rfl rfl hl.1 rfl (lv_room (Nat.le_of_ble_eq_true rfl)) d_WM_takeMoney_57 ⟨Nat.le_of_ble_eq_true rfl, Nat.le_of_ble_eq_true rfl⟩)) (fun r_15 er_15 => ?_)
    obtain ⟨po_16, po_17, -⟩ := er_15
    refine tw_puti (v := r_15) (D := (dC, dI)) (C := R_Mn) (T := F_Mn) (N := 8) (ci := 2) (kd := 20) (ct := ct) (ty := .int) hx hb htb i_Mn t_Mn t_Mn_ok n_Mn hown hK hP hD hS hO_3 (hA_3.m pm_0) rfl rfl 7 (by decide) (htb (.fieldLink R_WM 394 "WaterMen$Man" "lastSunday" "I") tw_215) (fun _ h9 => h9) rfl (by decide +kernel) rfl rfl rfl (i32_full _) d_WM_takeMoney_60 (fun f_4 H locs hP hD hS hO_4 hE_4 w_18 hF_4 => ?_)
    have hA_4 := hA_3.trans hE_4
    refine lv_goto (tgt := 78) hx hb d_WM_takeMoney_63 (by decide) ?_
    refine W.widen (k := 0) (n := 0) (Nat.le_of_ble_eq_true rfl) (Nat.le_of_ble_eq_true rfl) ?_
    exact W.vret hx hb hr (fun t ht hW => ⟨⟨(L_2, f_4), rfl, ⟨hO_4, hA_4.mono (by decide +kernel), trivial⟩, by rw [ht]; exact hP, va_K.moved hW.alike hK, by rw [hAe]; exact hD⟩, by rw [hAe]; exact hS.F ht⟩) (by rw [hAe]; exact hS.2.2) d_WM_takeMoney_78
  · refine hb_ti 0 (by unfold f_WM_isSunday; rw [if_neg c_12]; first | done | rfl) ?_
    refine lv_if_eq (tgt := 66) hx hb d_WM_takeMoney_37 (by decide) (fun _ => ?_) (fun h => absurd (by decide +kernel) h)
    refine lv_aload_n hx hb d_WM_takeMoney_66 rfl (lv_at hl 2 rfl) ?_
    refine lv_dup hx hb d_WM_takeMoney_67 rfl ?_
    refine tw_geti (D := (dC, dI)) (C := R_Mn) (T := F_Mn) (N := 8) (ci := 2) (kd := 20) (ct := ct) hx hb htb i_Mn hown hK hP hO_2 (hA_2.m pm_0) rfl rfl 4 (by decide) (htb (.fieldLink R_WM 152 "WaterMen$Man" "coins" "I") tw_39) (fun _ h9 => h9) rfl d_WM_takeMoney_68 (fun x_19 e_19 b_19 => ?_)
    refine lv_iload_n hx hb d_WM_takeMoney_71 rfl (lv_at hl 3 rfl) ?_
    refine lv_iload_n hx hb d_WM_takeMoney_72 rfl (lv_at hl 0 rfl) ?_
    refine lv_isub hx hb d_WM_takeMoney_73 ?_
    refine lv_iadd hx hb d_WM_takeMoney_74 ?_
    refine tw_puti (v := (x_19 + (p_1 - (p_1 / 20)))) (D := (dC, dI)) (C := R_Mn) (T := F_Mn) (N := 8) (ci := 2) (kd := 20) (ct := ct) (ty := .int) hx hb htb i_Mn t_Mn t_Mn_ok n_Mn hown hK hP hD hS hO_2 (hA_2.m pm_0) rfl rfl 4 (by decide) (htb (.fieldLink R_WM 152 "WaterMen$Man" "coins" "I") tw_39) (fun _ h9 => h9) rfl (by decide +kernel) rfl rfl rfl (i32_full _) d_WM_takeMoney_75 (fun f_3 H locs hP hD hS hO_3 hE_3 w_20 hF_3 => ?_)
    have hA_3 := hA_2.trans hE_3
    refine W.widen (k := 0) (n := 0) (Nat.le_of_ble_eq_true rfl) (Nat.le_of_ble_eq_true rfl) ?_
    exact W.vret hx hb hr (fun t ht hW => ⟨⟨(L_2, f_3), rfl, ⟨hO_3, hA_3.mono (by decide +kernel), trivial⟩, by rw [ht]; exact hP, va_K.moved hW.alike hK, by rw [hAe]; exact hD⟩, by rw [hAe]; exact hS.F ht⟩) (by rw [hAe]; exact hS.2.2) d_WM_takeMoney_78
def W_WM_row_w : List (Nat × Nat) := [(0, 9), (9, 1000), (12, 0), (12, 1), (12, 2), (13, 1000), (20, 2), (20, 4), (20, 5), (20, 6), (20, 7), (24, 1), (24, 2), (24, 3), (24, 4), (25, 0), (25, 1), (25, 2), (25, 3), (25, 4), (25, 5), (25, 6)]
def wp_WM_row_w (L : List Nat) (f : TF) (q0 : Nat) (p_0 : Int32) (p_1 : Int32) (p_2 : Int32) (p_3 : Int32) (Q : Int32 → List Nat → TF → Prop) : Prop := wp_WM_boatAt_w L f q0 p_0 (fun (r_1 : Option Nat) => ((r_1 = none → wp_WM_manAt_w L f q0 p_1 (fun (r_2 : Option Nat) => ((r_2 = none → Q (-1) L f) ∧ (∀ q_2 : Nat, r_2 = some q_2 → Q (-1) L f)))) ∧ (∀ q_1 : Nat, r_1 = some q_1 → wp_WM_manAt_w L f q0 p_1 (fun (r_3 : Option Nat) => ((r_3 = none → Q (-1) L f) ∧ (∀ q_3 : Nat, r_3 = some q_3 → wp_WM_mayGoTo_w L f q0 q_1 p_2 (fun (r_4 : Int32) => ((r_4 = 0 → Q (-1) L f) ∧ (r_4 = 1 → ((p_3 < 0 → Q (-1) L f) ∧ (¬ (p_3 < 0) → ((p_3 ≤ 1000000 → wp_WM_hindrance_w L f q0 q_1 q_3 p_2 (fun (r_9 : Int32) => ((r_9 = 0 → ∀ x_11 : Int32, ti f q0 9 = x_11 → ((x_11 < 600 → ∀ (q_n1 : Nat) (L_1 : List Nat) (f_1 : TF), q_n1 ∉ L → L_1 = L ++ [q_n1] → f_1 = nC f q_n1 25 → Ok L_1 f_1 → ∀ x_13 : Int32, ti f_1 q0 10 = x_13 → wp_Tr_init_w L_1 f_1 q_n1 p_0 p_1 x_13 p_3 (fun (L_2 : List Nat) (f_2 : TF) => Ok L_2 f_2 → Ext W_Tr_init_w L_1 f_1 L_2 f_2 → ∀ x_15 : Int32, ti f_2 q_1 1 = x_15 → ∀ f_3 : TF, f_3 = sI f_2 q_n1 4 x_15 → Ok L_2 f_3 → ∀ f_4 : TF, f_4 = sI f_3 q_n1 5 p_2 → Ok L_2 f_4 → wp_WM_minutesOfWay_w L_2 f_4 q0 q_1 p_2 (fun (r_18 : Int32) => ∀ f_5 : TF, f_5 = sI f_4 q_n1 6 (x_13 + r_18) → Ok L_2 f_5 → ∀ q_20 : Nat, tr f_5 q0 4 = some q_20 → ∀ f_6 : TF, f_6 = sR f_5 q_20 (x_11 : Int32).toNatClampNeg q_n1 → Ok L_2 f_6 → wp_Bt_setOut_w L_2 f_6 q_1 q_n1 x_11 (fun (L_7 : List Nat) (f_7 : TF) => Ok L_7 f_7 → Ext W_Bt_setOut_w L_2 f_6 L_7 f_7 → wp_Mn_setOut_w L_7 f_7 q_3 (x_13 + r_18) (fun (L_8 : List Nat) (f_8 : TF) => Ok L_8 f_8 → Ext W_Mn_setOut_w L_7 f_7 L_8 f_8 → ∀ (L_9 : List Nat) (f_9 : TF), Ok L_9 f_9 → Ext W_WM_takeMoney_t L_8 f_8 L_9 f_9 → ∀ f_10 : TF, f_10 = sI f_9 q0 9 (x_11 + 1) → Ok L_9 f_10 → Q ((x_11 + 1) - 1) L_9 f_10))))) ∧ (¬ (x_11 < 600) → Q (-3) L f))) ∧ (¬ (r_9 = 0) → Q ((-10) - r_9) L f)))) ∧ (¬ (p_3 ≤ 1000000) → Q (-1) L f)))))))))))))
set_option maxHeartbeats 4000000 in
set_option maxRecDepth 100000 in
theorem c_WM_row_w (l : Launch) (dC : Nat → ClassId) (dI : Nat → Nat → Nat) (ct : Nat → ClassId) (L : List Nat) (f : TF) (hO_0 : Ok L f) (q0 : Nat) (m0 : q0 ∈ L ∧ tk f q0 = 0) (sz : Nat) (p_0 : Int32) (p_1 : Int32) (p_2 : Int32) (p_3 : Int32)   (Q : Int32 → List Nat → TF → Prop) (hQ : wp_WM_row_w L f q0 p_0 p_1 p_2 p_3 Q) : Met l y_WM_row (.code y_WM_row b_WM_row 9 (some .int) :: TB) ({ frames := 5, cells := 1, slots := 8, locals := 124 }) (va_Pc [.ref q0, .int p_0, .int p_1, .int p_2, .int p_3] (PC dC dI (TW ct L f) (TT ct) sz)) (va_Qi (fun r (u : TSt) => Ok u.1 u.2 ∧ Ext W_WM_row_w L f u.1 u.2 ∧ (True) ∧ Q r u.1 u.2) (fun (u : TSt) t => va_P (dC, dI) vwCl (TW ct u.1 u.2) t.heap ∧ va_K (dC, dI) vwCl (TT ct) t ∧ va_D (va_A (TW ct L f) sz) (TW ct u.1 u.2)) (va_A (TW ct L f) sz)) 1 8 (va_A (TW ct L f) sz) := by
  refine Met.ofW (cc := b_WM_row) (maxL := 9) (ret := (some .int)) (by decide) rfl ?_
  intro p e s m args below meth c s₁ B hml hv
  obtain ⟨rfl, hsz, hP, hK, hD0, hN⟩ := hv
  have hx := B.exec
  have hb := B.bytes
  have hr := B.returns
  have hts := atoms_spec (ws := (.code y_WM_row b_WM_row 9 (some .int) :: TB)) B.pre
  have htb := fun w (h : w ∈ TB) => hts w (List.mem_cons_of_mem _ h)
  have hown : s.vm.findClass R_WM = some m.cls := findClass_of_methodNamed B.named
  have hlocks := B.notSynchronized
  have hl := lv_entry ([.ref q0, .int p_0, .int p_1, .int p_2, .int p_3]) (n := 9) (Nat.le_of_ble_eq_true rfl)
  rw [lg_entry_eq]
  generalize (lg_sl ([.ref q0, .int p_0, .int p_1, .int p_2, .int p_3]) ++ List.replicate (9 - (lg_sl ([.ref q0, .int p_0, .int p_1, .int p_2, .int p_3])).length) Slot.unset).toArray = ls at hl ⊢
  have hl : lv_has ls 9 [(0, .ref q0), (1, .int p_0), (2, .int p_1), (3, .int p_2), (4, .int p_3)] := hl
  subst hsz
  have hD := hD0.self (sz := s.heap.size)
  obtain ⟨A, hAe⟩ : ∃ A, va_A (TW ct L f) s.heap.size = A := ⟨_, rfl⟩
  rw [hAe] at hD
  have hA : ∀ q : Nat, s.heap.size ≤ q → A q := fun q h => by rw [← hAe]; exact Or.inr h
  have hS : va_S A s.heap s.heap [] := va_S.rf
  have hA_0 : Ext [] L f L f := Ext.rf
  suffices hGo : ∀ (H : Heap) (locs : List Loc), va_P (dC, dI) vwCl (TW ct L f) H → va_S A s.heap H locs → W p l e (headSpec (.code y_WM_row b_WM_row 9 (some .int) :: TB) ({ frames := 5, cells := 1, slots := 8, locals := 124 })).room s m [.ref q0, .int p_0, .int p_1, .int p_2, .int p_3].toArray below meth c H locs 0 0 (MQ below (va_Qi (fun r (u : TSt) => Ok u.1 u.2 ∧ Ext W_WM_row_w L f u.1 u.2 ∧ (True) ∧ Q r u.1 u.2) (fun (u : TSt) t => va_P (dC, dI) vwCl (TW ct u.1 u.2) t.heap ∧ va_K (dC, dI) vwCl (TT ct) t ∧ va_D (va_A (TW ct L f) s.heap.size) (TW ct u.1 u.2)) (va_A (TW ct L f) s.heap.size)) [.ref q0, .int p_0, .int p_1, .int p_2, .int p_3].toArray s 1 8 (va_A (TW ct L f) s.heap.size)) (F0 m 0 ls []) from hGo _ _ hP hS
  clear hP hS
  intro H locs hP hS
  unfold wp_WM_row_w at hQ
  refine lv_aload_n hx hb d_WM_row_0 rfl (lv_at hl 0 rfl) ?_
  refine lv_iload_n hx hb d_WM_row_1 rfl (lv_at hl 1 rfl) ?_
  refine va_csq (va_Run.run (va_runV (As := [.int p_0]) (rest := []) ⟨hx, hb, hml, hown, htb⟩ (c_WM_boatAt_w l dC dI ct L f hO_0 q0 m0 p_0 _ hQ) (cwV 1 htb (gd_V tw_514 tw_515 tw_516 tw_26 tw_513) rfl rfl rfl (by decide +kernel) ⟨Nat.le_of_ble_eq_true rfl, Nat.le_of_ble_eq_true rfl⟩) ⟨pr_blind, tw_recv hK hP m0 rfl rfl, pr_pre hP hK hN⟩ rfl rfl hl.1 rfl (lv_room (Nat.le_of_ble_eq_true rfl)) d_WM_row_2 ⟨Nat.le_of_ble_eq_true rfl, Nat.le_of_ble_eq_true rfl⟩)) (fun r_1 er_1 => ?_)
  obtain ⟨er_1, hQ⟩ := er_1
  rcases er_1 with rfl | ⟨q_1, rfl, m_1⟩
  · have hQ := hQ.1 rfl
    refine hb_tv .null rfl ?_
    refine lv_astoreN (lv' := [(5, .null), (0, .ref q0), (1, .int p_0), (2, .int p_1), (3, .int p_2), (4, .int p_3)]) hx hb d_WM_row_5 hl (by decide) rfl (fun ls hl => ?_)
    refine lv_aload_n hx hb d_WM_row_7 rfl (lv_at hl 1 rfl) ?_
    refine lv_iload_n hx hb d_WM_row_8 rfl (lv_at hl 3 rfl) ?_
    refine va_csq (va_Run.run (va_runV (As := [.int p_1]) (rest := []) ⟨hx, hb, hml, hown, htb⟩ (c_WM_manAt_w l dC dI ct L f hO_0 q0 m0 p_1 _ hQ) (cwV 1 htb (gd_V tw_27 tw_28 tw_29 tw_26 tw_25) rfl rfl rfl (by decide +kernel) ⟨Nat.le_of_ble_eq_true rfl, Nat.le_of_ble_eq_true rfl⟩) ⟨pr_blind, tw_recv hK hP m0 rfl rfl, pr_pre hP hK hN⟩ rfl rfl hl.1 rfl (lv_room (Nat.le_of_ble_eq_true rfl)) d_WM_row_9 ⟨Nat.le_of_ble_eq_true rfl, Nat.le_of_ble_eq_true rfl⟩)) (fun r_2 er_2 => ?_)
    obtain ⟨er_2, hQ⟩ := er_2
    rcases er_2 with rfl | ⟨q_2, rfl, m_2⟩
    · have hQ := hQ.1 rfl
      refine hb_tv .null rfl ?_
      refine lv_astoreN (lv' := [(6, .null), (5, .null), (0, .ref q0), (1, .int p_0), (2, .int p_1), (3, .int p_2), (4, .int p_3)]) hx hb d_WM_row_12 hl (by decide) rfl (fun ls hl => ?_)
      refine lv_aloadN hx hb d_WM_row_14 (lv_at hl 1 rfl) ?_
      refine lv_ifnullN (tgt := 46) hx hb d_WM_row_16 (by decide) ?_
      refine lv_iconst (v := (-1)) hx hb d_WM_row_46 (by decide +kernel) ?_
      refine W.widen (k := 1) (n := 8) (Nat.le_of_ble_eq_true rfl) (Nat.le_of_ble_eq_true rfl) ?_
      exact W.iret (v := (-1)) hx hb hr (fun t ht hW => ⟨⟨(-1), (L, f), rfl, ⟨hO_0, hA_0.mono (by decide +kernel), trivial, hQ⟩, by rw [ht]; exact hP, va_K.moved hW.alike hK, by rw [hAe]; exact hD⟩, by rw [hAe]; exact hS.F ht⟩) (by rw [hAe]; exact hS.2.2) d_WM_row_47
    · have hQ := hQ.2 q_2 rfl
      refine hb_tv (.ref q_2) rfl ?_
      refine lv_astore (lv' := [(6, .ref q_2), (5, .null), (0, .ref q0), (1, .int p_0), (2, .int p_1), (3, .int p_2), (4, .int p_3)]) hx hb d_WM_row_12 hl (by decide) rfl (fun ls hl => ?_)
      refine lv_aloadN hx hb d_WM_row_14 (lv_at hl 1 rfl) ?_
      refine lv_ifnullN (tgt := 46) hx hb d_WM_row_16 (by decide) ?_
      refine lv_iconst (v := (-1)) hx hb d_WM_row_46 (by decide +kernel) ?_
      refine W.widen (k := 1) (n := 8) (Nat.le_of_ble_eq_true rfl) (Nat.le_of_ble_eq_true rfl) ?_
      exact W.iret (v := (-1)) hx hb hr (fun t ht hW => ⟨⟨(-1), (L, f), rfl, ⟨hO_0, hA_0.mono (by decide +kernel), trivial, hQ⟩, by rw [ht]; exact hP, va_K.moved hW.alike hK, by rw [hAe]; exact hD⟩, by rw [hAe]; exact hS.F ht⟩) (by rw [hAe]; exact hS.2.2) d_WM_row_47
  · have hQ := hQ.2 q_1 rfl
    refine hb_tv (.ref q_1) rfl ?_
    refine lv_astore (lv' := [(5, .ref q_1), (0, .ref q0), (1, .int p_0), (2, .int p_1), (3, .int p_2), (4, .int p_3)]) hx hb d_WM_row_5 hl (by decide) rfl (fun ls hl => ?_)
    refine lv_aload_n hx hb d_WM_row_7 rfl (lv_at hl 1 rfl) ?_
    refine lv_iload_n hx hb d_WM_row_8 rfl (lv_at hl 3 rfl) ?_
    refine va_csq (va_Run.run (va_runV (As := [.int p_1]) (rest := []) ⟨hx, hb, hml, hown, htb⟩ (c_WM_manAt_w l dC dI ct L f hO_0 q0 m0 p_1 _ hQ) (cwV 1 htb (gd_V tw_27 tw_28 tw_29 tw_26 tw_25) rfl rfl rfl (by decide +kernel) ⟨Nat.le_of_ble_eq_true rfl, Nat.le_of_ble_eq_true rfl⟩) ⟨pr_blind, tw_recv hK hP m0 rfl rfl, pr_pre hP hK hN⟩ rfl rfl hl.1 rfl (lv_room (Nat.le_of_ble_eq_true rfl)) d_WM_row_9 ⟨Nat.le_of_ble_eq_true rfl, Nat.le_of_ble_eq_true rfl⟩)) (fun r_3 er_3 => ?_)
    obtain ⟨er_3, hQ⟩ := er_3
    rcases er_3 with rfl | ⟨q_3, rfl, m_3⟩
    · have hQ := hQ.1 rfl
      refine hb_tv .null rfl ?_
      refine lv_astoreN (lv' := [(6, .null), (5, .ref q_1), (0, .ref q0), (1, .int p_0), (2, .int p_1), (3, .int p_2), (4, .int p_3)]) hx hb d_WM_row_12 hl (by decide) rfl (fun ls hl => ?_)
      refine lv_aload hx hb d_WM_row_14 (lv_at hl 1 rfl) ?_
      refine lv_ifnull hx hb d_WM_row_16 ?_
      refine lv_aloadN hx hb d_WM_row_19 (lv_at hl 0 rfl) ?_
      refine lv_ifnullN (tgt := 46) hx hb d_WM_row_21 (by decide) ?_
      refine lv_iconst (v := (-1)) hx hb d_WM_row_46 (by decide +kernel) ?_
      refine W.widen (k := 1) (n := 8) (Nat.le_of_ble_eq_true rfl) (Nat.le_of_ble_eq_true rfl) ?_
      exact W.iret (v := (-1)) hx hb hr (fun t ht hW => ⟨⟨(-1), (L, f), rfl, ⟨hO_0, hA_0.mono (by decide +kernel), trivial, hQ⟩, by rw [ht]; exact hP, va_K.moved hW.alike hK, by rw [hAe]; exact hD⟩, by rw [hAe]; exact hS.F ht⟩) (by rw [hAe]; exact hS.2.2) d_WM_row_47
    · have hQ := hQ.2 q_3 rfl
      refine hb_tv (.ref q_3) rfl ?_
      refine lv_astore (lv' := [(6, .ref q_3), (5, .ref q_1), (0, .ref q0), (1, .int p_0), (2, .int p_1), (3, .int p_2), (4, .int p_3)]) hx hb d_WM_row_12 hl (by decide) rfl (fun ls hl => ?_)
      refine lv_aload hx hb d_WM_row_14 (lv_at hl 1 rfl) ?_
      refine lv_ifnull hx hb d_WM_row_16 ?_
      refine lv_aload hx hb d_WM_row_19 (lv_at hl 0 rfl) ?_
      refine lv_ifnull hx hb d_WM_row_21 ?_
      refine lv_aload_n hx hb d_WM_row_24 rfl (lv_at hl 2 rfl) ?_
      refine lv_aload hx hb d_WM_row_25 (lv_at hl 1 rfl) ?_
      refine lv_iload_n hx hb d_WM_row_27 rfl (lv_at hl 5 rfl) ?_
      refine vp_callSi (va_Run.run (va_runV (As := [.ref q_1, .int p_2]) (rest := []) ⟨hx, hb, hml, hown, htb⟩ (c_WM_mayGoTo_w l dC dI ct L f hO_0 q0 m0 q_1 m_1 p_2 _ hQ) (cwV 2 htb (gd_V tw_539 tw_540 tw_541 tw_26 tw_538) rfl rfl rfl (by decide +kernel) ⟨Nat.le_of_ble_eq_true rfl, Nat.le_of_ble_eq_true rfl⟩) ⟨pr_blind, tw_recv hK hP m0 rfl rfl, pr_pre hP hK hN⟩ rfl rfl hl.1 rfl (lv_room (Nat.le_of_ble_eq_true rfl)) d_WM_row_28 ⟨Nat.le_of_ble_eq_true rfl, Nat.le_of_ble_eq_true rfl⟩)) (fun r_4 er_4 => ?_)
      obtain ⟨er_4, hQ⟩ := er_4
      rcases er_4 with ⟨rfl, -⟩ | ⟨rfl, po_5, po_6, -⟩
      · have hQ := hQ.1 rfl
        refine lv_if_eq (tgt := 46) hx hb d_WM_row_31 (by decide) (fun _ => ?_) (fun h => absurd (by decide +kernel) h)
        refine lv_iconst (v := (-1)) hx hb d_WM_row_46 (by decide +kernel) ?_
        refine W.widen (k := 1) (n := 8) (Nat.le_of_ble_eq_true rfl) (Nat.le_of_ble_eq_true rfl) ?_
        exact W.iret (v := (-1)) hx hb hr (fun t ht hW => ⟨⟨(-1), (L, f), rfl, ⟨hO_0, hA_0.mono (by decide +kernel), trivial, hQ⟩, by rw [ht]; exact hP, va_K.moved hW.alike hK, by rw [hAe]; exact hD⟩, by rw [hAe]; exact hS.F ht⟩) (by rw [hAe]; exact hS.2.2) d_WM_row_47
      · have hQ := hQ.2 rfl
        refine lv_if_eq (tgt := 46) hx hb d_WM_row_31 (by decide) (fun h => absurd h (by decide +kernel)) (fun _ => ?_)
        refine lv_iload hx hb d_WM_row_34 (lv_at hl 6 rfl) ?_
        refine lv_if_lt (tgt := 46) hx hb d_WM_row_36 (by decide) (fun c_7 => ?_) (fun c_7 => ?_)
        · have hQ := hQ.1 c_7
          refine lv_iconst (v := (-1)) hx hb d_WM_row_46 (by decide +kernel) ?_
          refine W.widen (k := 1) (n := 8) (Nat.le_of_ble_eq_true rfl) (Nat.le_of_ble_eq_true rfl) ?_
          exact W.iret (v := (-1)) hx hb hr (fun t ht hW => ⟨⟨(-1), (L, f), rfl, ⟨hO_0, hA_0.mono (by decide +kernel), trivial, hQ⟩, by rw [ht]; exact hP, va_K.moved hW.alike hK, by rw [hAe]; exact hD⟩, by rw [hAe]; exact hS.F ht⟩) (by rw [hAe]; exact hS.2.2) d_WM_row_47
        · have hQ := hQ.2 c_7
          refine lv_iload hx hb d_WM_row_39 (lv_at hl 6 rfl) ?_
          refine lv_ldc (v := 1000000) hx hb hown (htb (.constant R_WM 242 1000000) tw_591) d_WM_row_41 ?_
          refine lv_icmp_le (tgt := 48) hx hb d_WM_row_43 (by decide) (fun c_8 => ?_) (fun c_8 => ?_)
          · have hQ := hQ.1 c_8
            refine lv_aload_n hx hb d_WM_row_48 rfl (lv_at hl 2 rfl) ?_
            refine lv_aload hx hb d_WM_row_49 (lv_at hl 1 rfl) ?_
            refine lv_aload hx hb d_WM_row_51 (lv_at hl 0 rfl) ?_
            refine lv_iload_n hx hb d_WM_row_53 rfl (lv_at hl 5 rfl) ?_
            refine vp_callSi (va_Run.run (va_runV (As := [.ref q_1, .ref q_3, .int p_2]) (rest := []) ⟨hx, hb, hml, hown, htb⟩ (c_WM_hindrance_w l dC dI ct L f hO_0 q0 m0 q_1 m_1 q_3 m_3 p_2 po_5 po_6 _ hQ) (cwV 3 htb (gd_V tw_572 tw_573 tw_574 tw_26 tw_571) rfl rfl rfl (by decide +kernel) ⟨Nat.le_of_ble_eq_true rfl, Nat.le_of_ble_eq_true rfl⟩) ⟨pr_blind, tw_recv hK hP m0 rfl rfl, pr_pre hP hK hN⟩ rfl rfl hl.1 rfl (lv_room (Nat.le_of_ble_eq_true rfl)) d_WM_row_54 ⟨Nat.le_of_ble_eq_true rfl, Nat.le_of_ble_eq_true rfl⟩)) (fun r_9 er_9 => ?_)
            obtain ⟨er_9, hQ⟩ := er_9
            clear er_9
            refine lv_istore (lv' := [(7, .int r_9), (6, .ref q_3), (5, .ref q_1), (0, .ref q0), (1, .int p_0), (2, .int p_1), (3, .int p_2), (4, .int p_3)]) hx hb d_WM_row_57 hl (by decide) rfl (fun ls hl => ?_)
            refine lv_iload hx hb d_WM_row_59 (lv_at hl 0 rfl) ?_
            refine lv_if_eq (tgt := 70) hx hb d_WM_row_61 (by decide) (fun c_10 => ?_) (fun c_10 => ?_)
            · have hQ := hQ.1 c_10
              refine lv_aload_n hx hb d_WM_row_70 rfl (lv_at hl 3 rfl) ?_
              refine tw_geti (D := (dC, dI)) (C := R_WM) (T := F_WM) (N := 13) (ci := 0) (kd := 0) (ct := ct) hx hb htb i_WM hown hK hP hO_0 m0 rfl rfl 9 (by decide) (htb (.fieldLink R_WM 243 "WaterMen" "tripCount" "I") tw_592) (fun _ h9 => h9) rfl d_WM_row_71 (fun x_11 e_11 b_11 => ?_)
              have hQ := hQ x_11 e_11
              refine lv_sipush (v := 600) hx hb d_WM_row_74 (by decide +kernel) ?_
              refine lv_icmp_lt (tgt := 83) hx hb d_WM_row_77 (by decide) (fun c_12 => ?_) (fun c_12 => ?_)
              · have hQ := hQ.1 c_12
                refine tw_newO (D := (dC, dI)) (ci := 10) (fs := [.int 0, .int 0, .int 0, .int 0, .int 0, .int 0, .int 0, .int 0]) (C := R_Tr) (T := F_Tr) (N := 8) (ct := ct) hx hb htb i_Tr t_Tr t_Tr_ok hown (htb (.classLink R_WM 34 R_Tr) tw_593) (htb (.instantiable R_Tr 8) tw_594) (htb (.initialized R_Tr) tw_595) hK hP hD hS hA hO_0 25 rfl rfl rfl (by decide +kernel) (df_Tr) (Nat.le_of_ble_eq_true rfl) (Nat.le_of_ble_eq_true rfl) d_WM_row_83 (fun q_n1 L_1 f_1 H hP hD hS hO_1 hE_1 m_n1 nq_1 hL_1 hF_1 => ?_)
                have hA_1 := hA_0.trans hE_1
                have hQ := hQ q_n1 L_1 f_1 nq_1 hL_1 hF_1 hO_1
                refine lv_dup hx hb d_WM_row_86 rfl ?_
                refine lv_iload_n hx hb d_WM_row_87 rfl (lv_at hl 4 rfl) ?_
                refine lv_iload_n hx hb d_WM_row_88 rfl (lv_at hl 5 rfl) ?_
                refine lv_aload_n hx hb d_WM_row_89 rfl (lv_at hl 3 rfl) ?_
                refine tw_geti (D := (dC, dI)) (C := R_WM) (T := F_WM) (N := 13) (ci := 0) (kd := 0) (ct := ct) hx hb htb i_WM hown hK hP hO_1 (hA_1.m m0) rfl rfl 10 (by decide) (htb (.fieldLink R_WM 155 "WaterMen" "now" "I") tw_40) (fun _ h9 => h9) rfl d_WM_row_90 (fun x_13 e_13 b_13 => ?_)
                have hQ := hQ x_13 e_13
                refine lv_iload hx hb d_WM_row_93 (lv_at hl 7 rfl) ?_
                have hFc := hb_free hD hS hA
                refine va_callv (va_runI (As := [.int p_0, .int p_1, .int x_13, .int p_3]) (rest := [.ref q_n1]) ⟨hx, hb, hml, hown, htb⟩ (c_Tr_init_w l dC dI ct L_1 f_1 hO_1 q_n1 m_n1 _ p_0 p_1 x_13 p_3 b_13.1 b_13.2 _ hQ) (cwI 4 htb (gd_I tw_601) rfl rfl rfl (htb (.initialized R_Tr) tw_595) (htb (.methodLink R_WM 244 y_Tr_init) tw_602) (htb (.instanceMethod y_Tr_init) tw_603) rfl (by decide +kernel) ⟨Nat.le_of_ble_eq_true rfl, Nat.le_of_ble_eq_true rfl⟩) ⟨pc_blind, pc_pre hP hK hD hN⟩ rfl rfl hl.1 rfl (lv_room (Nat.le_of_ble_eq_true rfl)) d_WM_row_95 ⟨Nat.le_of_ble_eq_true rfl, Nat.le_of_ble_eq_true rfl⟩) hS (fun q _ h => hFc q h) hFc (fun u t H locs ht hvm er hB hz1 hk1 hS => ?_)
                obtain ⟨L_2, f_2⟩ := u
                obtain ⟨hO_2, hE_2, er, hQ⟩ := er
                obtain ⟨hP, hK1, hD1⟩ := hB
                rw [ht] at hP
                have hP : va_P (dC, dI) vwCl (TW ct L_2 f_2) H := hP
                have hD : va_D A (TW ct L_2 f_2) := hD1.weaken (fun _ q _ h => hFc q.1 h)
                have hO_2 : Ok L_2 f_2 := hO_2
                have hE_2 : Ext W_Tr_init_w L_1 f_1 L_2 f_2 := hE_2
                clear hK1 hD1 ht hvm hz1 hk1
                have hA_2 := hA_1.trans hE_2
                have hQ := hQ hO_2 hE_2
                clear er
                refine lv_astore (lv' := [(8, .ref q_n1), (7, .int r_9), (6, .ref q_3), (5, .ref q_1), (0, .ref q0), (1, .int p_0), (2, .int p_1), (3, .int p_2), (4, .int p_3)]) hx hb d_WM_row_98 hl (by decide) rfl (fun ls hl => ?_)
                refine lv_aload hx hb d_WM_row_100 (lv_at hl 0 rfl) ?_
                refine lv_aload hx hb d_WM_row_102 (lv_at hl 3 rfl) ?_
                refine tw_geti (D := (dC, dI)) (C := R_Bt) (T := F_Bt) (N := 6) (ci := 9) (kd := 24) (ct := ct) hx hb htb i_Bt hown hK hP hO_2 (hA_2.m m_1) rfl rfl 1 (by decide) (htb (.fieldLink R_WM 178 "WaterMen$Boat" "stairs" "I") tw_517) (fun _ h9 => h9) rfl d_WM_row_104 (fun x_15 e_15 b_15 => ?_)
                have hQ := hQ x_15 e_15
                refine tw_puti (v := x_15) (D := (dC, dI)) (C := R_Tr) (T := F_Tr) (N := 8) (ci := 10) (kd := 25) (ct := ct) (ty := .int) hx hb htb i_Tr t_Tr t_Tr_ok n_Tr hown hK hP hD hS hO_2 (hE_2.m m_n1) rfl rfl 4 (by decide) (htb (.fieldLink R_WM 247 "WaterMen$Trip" "from" "I") tw_604) (fun _ h9 => h9) rfl (by decide +kernel) rfl rfl rfl ⟨b_15.1, b_15.2⟩ d_WM_row_107 (fun f_3 H locs hP hD hS hO_3 hE_3 w_16 hF_3 => ?_)
                have hA_3 := hA_2.trans hE_3
                have hQ := hQ f_3 hF_3
                have hQ := hQ hO_3
                refine lv_aload hx hb d_WM_row_110 (lv_at hl 0 rfl) ?_
                refine lv_iload_n hx hb d_WM_row_112 rfl (lv_at hl 7 rfl) ?_
                refine tw_puti (v := p_2) (D := (dC, dI)) (C := R_Tr) (T := F_Tr) (N := 8) (ci := 10) (kd := 25) (ct := ct) (ty := .int) hx hb htb i_Tr t_Tr t_Tr_ok n_Tr hown hK hP hD hS hO_3 (hE_3.m (hE_2.m m_n1)) rfl rfl 5 (by decide) (htb (.fieldLink R_WM 250 "WaterMen$Trip" "to" "I") tw_605) (fun _ h9 => h9) rfl (by decide +kernel) rfl rfl rfl ⟨po_5, po_6⟩ d_WM_row_113 (fun f_4 H locs hP hD hS hO_4 hE_4 w_17 hF_4 => ?_)
                have hA_4 := hA_3.trans hE_4
                have hQ := hQ f_4 hF_4
                have hQ := hQ hO_4
                refine lv_aload hx hb d_WM_row_116 (lv_at hl 0 rfl) ?_
                refine lv_aload_n hx hb d_WM_row_118 rfl (lv_at hl 4 rfl) ?_
                refine tw_getI (x := x_13) (D := (dC, dI)) (C := R_WM) (T := F_WM) (N := 13) (ci := 0) (kd := 0) (ct := ct) hx hb htb i_WM hown hK hP (hA_4.m m0) rfl rfl 10 ((hE_4.ei (hA_3.m m0) rfl).trans ((hE_3.ei (hA_2.m m0) rfl).trans ((hE_2.ei (hA_1.m m0) rfl).trans e_13))) (by decide) (htb (.fieldLink R_WM 155 "WaterMen" "now" "I") tw_40) (fun _ h9 => h9) rfl d_WM_row_119 ?_
                refine lv_aload_n hx hb d_WM_row_122 rfl (lv_at hl 4 rfl) ?_
                refine lv_aload hx hb d_WM_row_123 (lv_at hl 3 rfl) ?_
                refine lv_iload_n hx hb d_WM_row_125 rfl (lv_at hl 7 rfl) ?_
                refine vp_callSi (va_Run.run (va_runV (As := [.ref q_1, .int p_2]) (rest := [.int x_13, .ref q_n1]) ⟨hx, hb, hml, hown, htb⟩ (c_WM_minutesOfWay_w l dC dI ct L_2 f_4 hO_4 q0 (hA_4.m m0) q_1 (hA_4.m m_1) p_2 po_5 po_6 _ hQ) (cwV 2 htb (gd_V tw_563 tw_564 tw_565 tw_26 tw_562) rfl rfl rfl (by decide +kernel) ⟨Nat.le_of_ble_eq_true rfl, Nat.le_of_ble_eq_true rfl⟩) ⟨pr_blind, tw_recv hK hP (hA_4.m m0) rfl rfl, pr_pre hP hK hN⟩ rfl rfl hl.1 rfl (lv_room (Nat.le_of_ble_eq_true rfl)) d_WM_row_126 ⟨Nat.le_of_ble_eq_true rfl, Nat.le_of_ble_eq_true rfl⟩)) (fun r_18 er_18 => ?_)
                obtain ⟨er_18, hQ⟩ := er_18
                clear er_18
                refine lv_iadd hx hb d_WM_row_129 ?_
                refine tw_puti (v := (x_13 + r_18)) (D := (dC, dI)) (C := R_Tr) (T := F_Tr) (N := 8) (ci := 10) (kd := 25) (ct := ct) (ty := .int) hx hb htb i_Tr t_Tr t_Tr_ok n_Tr hown hK hP hD hS hO_4 (hE_4.m (hE_3.m (hE_2.m m_n1))) rfl rfl 6 (by decide) (htb (.fieldLink R_WM 257 "WaterMen$Trip" "arrival" "I") tw_606) (fun _ h9 => h9) rfl (by decide +kernel) rfl rfl rfl (i32_full _) d_WM_row_130 (fun f_5 H locs hP hD hS hO_5 hE_5 w_19 hF_5 => ?_)
                have hA_5 := hA_4.trans hE_5
                have hQ := hQ f_5 hF_5
                have hQ := hQ hO_5
                refine lv_aload_n hx hb d_WM_row_133 rfl (lv_at hl 4 rfl) ?_
                refine tw_getr (D := (dC, dI)) (C := R_WM) (T := F_WM) (N := 13) (ci := 0) (kd := 0) (ct := ct) hx hb htb i_WM hown hK hP hO_5 (hA_5.m m0) rfl rfl 4 (by decide) (htb (.fieldLink R_WM 36 "WaterMen" "trips" "[LWaterMen$Trip;") tw_607) (fun _ h9 => h9) rfl d_WM_row_134 (fun q_20 e_20 m_20 => ?_)
                have hQ := hQ q_20 e_20
                refine lv_aload_n hx hb d_WM_row_137 rfl (lv_at hl 4 rfl) ?_
                refine tw_getI (x := x_11) (D := (dC, dI)) (C := R_WM) (T := F_WM) (N := 13) (ci := 0) (kd := 0) (ct := ct) hx hb htb i_WM hown hK hP (hA_5.m m0) rfl rfl 9 ((hA_5.ei m0 rfl).trans e_11) (by decide) (htb (.fieldLink R_WM 243 "WaterMen" "tripCount" "I") tw_592) (fun _ h9 => h9) rfl d_WM_row_138 ?_
                refine lv_aload hx hb d_WM_row_141 (lv_at hl 0 rfl) ?_
                refine tw_astq (ct := ct) hx hb hK hP hD hS hO_5 m_20 rfl rfl (hE_5.m (hE_4.m (hE_3.m (hE_2.m m_n1)))) rfl rfl (hb_inp b_11.1 c_12 (by decide +kernel)) d_WM_row_143 (fun f_6 H locs hP hD hS hO_6 hE_6 w_21 hF_6 => ?_)
                have hA_6 := hA_5.trans hE_6
                have hQ := hQ f_6 hF_6
                have hQ := hQ hO_6
                refine lv_aload hx hb d_WM_row_144 (lv_at hl 3 rfl) ?_
                refine lv_aload hx hb d_WM_row_146 (lv_at hl 0 rfl) ?_
                refine lv_aload_n hx hb d_WM_row_148 rfl (lv_at hl 4 rfl) ?_
                refine tw_getI (x := x_11) (D := (dC, dI)) (C := R_WM) (T := F_WM) (N := 13) (ci := 0) (kd := 0) (ct := ct) hx hb htb i_WM hown hK hP (hA_6.m m0) rfl rfl 9 ((hA_6.ei m0 rfl).trans e_11) (by decide) (htb (.fieldLink R_WM 243 "WaterMen" "tripCount" "I") tw_592) (fun _ h9 => h9) rfl d_WM_row_149 ?_
                have hFc := hb_free hD hS hA
                refine va_callv (va_runV (As := [.ref q_n1, .int x_11]) (rest := []) ⟨hx, hb, hml, hown, htb⟩ (c_Bt_setOut_w l dC dI ct L_2 f_6 hO_6 q_1 (hA_6.m m_1) q_n1 (hE_6.m (hE_5.m (hE_4.m (hE_3.m (hE_2.m m_n1))))) _ x_11 _ hQ) (cwV 2 htb (gd_V tw_612 tw_613 tw_614 tw_501 tw_611) rfl rfl rfl (by decide +kernel) ⟨Nat.le_of_ble_eq_true rfl, Nat.le_of_ble_eq_true rfl⟩) ⟨pc_blind, tw_recv hK hP (hA_6.m m_1) rfl rfl, pc_pre hP hK hD hN⟩ rfl rfl hl.1 rfl (lv_room (Nat.le_of_ble_eq_true rfl)) d_WM_row_152 ⟨Nat.le_of_ble_eq_true rfl, Nat.le_of_ble_eq_true rfl⟩) hS (fun q _ h => hFc q h) hFc (fun u t H locs ht hvm er hB hz1 hk1 hS => ?_)
                obtain ⟨L_7, f_7⟩ := u
                obtain ⟨hO_7, hE_7, er, hQ⟩ := er
                obtain ⟨hP, hK1, hD1⟩ := hB
                rw [ht] at hP
                have hP : va_P (dC, dI) vwCl (TW ct L_7 f_7) H := hP
                have hD : va_D A (TW ct L_7 f_7) := hD1.weaken (fun _ q _ h => hFc q.1 h)
                have hO_7 : Ok L_7 f_7 := hO_7
                have hE_7 : Ext W_Bt_setOut_w L_2 f_6 L_7 f_7 := hE_7
                clear hK1 hD1 ht hvm hz1 hk1
                have hA_7 := hA_6.trans hE_7
                have hQ := hQ hO_7 hE_7
                clear er
                refine lv_aload hx hb d_WM_row_155 (lv_at hl 2 rfl) ?_
                refine lv_aload hx hb d_WM_row_157 (lv_at hl 0 rfl) ?_
                refine tw_getI (x := (x_13 + r_18)) (D := (dC, dI)) (C := R_Tr) (T := F_Tr) (N := 8) (ci := 10) (kd := 25) (ct := ct) hx hb htb i_Tr hown hK hP (hE_7.m (hE_6.m (hE_5.m (hE_4.m (hE_3.m (hE_2.m m_n1)))))) rfl rfl 6 ((hE_7.ei (hE_6.m (hE_5.m (hE_4.m (hE_3.m (hE_2.m m_n1))))) rfl).trans ((hE_6.ei (hE_5.m (hE_4.m (hE_3.m (hE_2.m m_n1)))) rfl).trans w_19)) (by decide) (htb (.fieldLink R_WM 257 "WaterMen$Trip" "arrival" "I") tw_606) (fun _ h9 => h9) rfl d_WM_row_159 ?_
                have hFc := hb_free hD hS hA
                refine va_callv (va_runV (As := [.int (x_13 + r_18)]) (rest := []) ⟨hx, hb, hml, hown, htb⟩ (c_Mn_setOut_w l dC dI ct L_7 f_7 hO_7 q_3 (hA_7.m m_3) _ (x_13 + r_18) _ hQ) (cwV 1 htb (gd_V tw_618 tw_619 tw_620 tw_43 tw_617) rfl rfl rfl (by decide +kernel) ⟨Nat.le_of_ble_eq_true rfl, Nat.le_of_ble_eq_true rfl⟩) ⟨pc_blind, tw_recv hK hP (hA_7.m m_3) rfl rfl, pc_pre hP hK hD hN⟩ rfl rfl hl.1 rfl (lv_room (Nat.le_of_ble_eq_true rfl)) d_WM_row_162 ⟨Nat.le_of_ble_eq_true rfl, Nat.le_of_ble_eq_true rfl⟩) hS (fun q _ h => hFc q h) hFc (fun u t H locs ht hvm er hB hz1 hk1 hS => ?_)
                obtain ⟨L_8, f_8⟩ := u
                obtain ⟨hO_8, hE_8, er, hQ⟩ := er
                obtain ⟨hP, hK1, hD1⟩ := hB
                rw [ht] at hP
                have hP : va_P (dC, dI) vwCl (TW ct L_8 f_8) H := hP
                have hD : va_D A (TW ct L_8 f_8) := hD1.weaken (fun _ q _ h => hFc q.1 h)
                have hO_8 : Ok L_8 f_8 := hO_8
                have hE_8 : Ext W_Mn_setOut_w L_7 f_7 L_8 f_8 := hE_8
                clear hK1 hD1 ht hvm hz1 hk1
                have hA_8 := hA_7.trans hE_8
                have hQ := hQ hO_8 hE_8
                clear er
                refine lv_aload_n hx hb d_WM_row_165 rfl (lv_at hl 4 rfl) ?_
                refine lv_aload hx hb d_WM_row_166 (lv_at hl 2 rfl) ?_
                refine lv_iload hx hb d_WM_row_168 (lv_at hl 8 rfl) ?_
                have hFc := hb_free hD hS hA
                refine va_callv (va_runV (As := [.ref q_3, .int p_3]) (rest := []) ⟨hx, hb, hml, hown, htb⟩ (c_WM_takeMoney_t l dC dI ct L_8 f_8 hO_8 q0 (hA_8.m m0) q_3 (hA_8.m m_3) _ p_3) (cwV 2 htb (gd_V tw_622 tw_623 tw_624 tw_26 tw_621) rfl rfl rfl (by decide +kernel) ⟨Nat.le_of_ble_eq_true rfl, Nat.le_of_ble_eq_true rfl⟩) ⟨pc_blind, tw_recv hK hP (hA_8.m m0) rfl rfl, pc_pre hP hK hD hN⟩ rfl rfl hl.1 rfl (lv_room (Nat.le_of_ble_eq_true rfl)) d_WM_row_170 ⟨Nat.le_of_ble_eq_true rfl, Nat.le_of_ble_eq_true rfl⟩) hS (fun q _ h => hFc q h) hFc (fun u t H locs ht hvm er hB hz1 hk1 hS => ?_)
                obtain ⟨L_9, f_9⟩ := u
                obtain ⟨hO_9, hE_9, er⟩ := er
                obtain ⟨hP, hK1, hD1⟩ := hB
                rw [ht] at hP
                have hP : va_P (dC, dI) vwCl (TW ct L_9 f_9) H := hP
                have hD : va_D A (TW ct L_9 f_9) := hD1.weaken (fun _ q _ h => hFc q.1 h)
                have hO_9 : Ok L_9 f_9 := hO_9
                have hE_9 : Ext W_WM_takeMoney_t L_8 f_8 L_9 f_9 := hE_9
                clear hK1 hD1 ht hvm hz1 hk1
                have hA_9 := hA_8.trans hE_9
                have hQ := hQ L_9 f_9 hO_9 hE_9
                clear er
                refine lv_aload_n hx hb d_WM_row_173 rfl (lv_at hl 4 rfl) ?_
                refine lv_dup hx hb d_WM_row_174 rfl ?_
                refine tw_getI (x := x_11) (D := (dC, dI)) (C := R_WM) (T := F_WM) (N := 13) (ci := 0) (kd := 0) (ct := ct) hx hb htb i_WM hown hK hP (hA_9.m m0) rfl rfl 9 ((hA_9.ei m0 rfl).trans e_11) (by decide) (htb (.fieldLink R_WM 243 "WaterMen" "tripCount" "I") tw_592) (fun _ h9 => h9) rfl d_WM_row_175 ?_
                refine lv_iconst (v := 1) hx hb d_WM_row_178 (by decide +kernel) ?_
                refine lv_iadd hx hb d_WM_row_179 ?_
                refine tw_puti (v := (x_11 + 1)) (D := (dC, dI)) (C := R_WM) (T := F_WM) (N := 13) (ci := 0) (kd := 0) (ct := ct) (ty := .int) hx hb htb i_WM t_WM t_WM_ok n_WM hown hK hP hD hS hO_9 (hA_9.m m0) rfl rfl 9 (by decide) (htb (.fieldLink R_WM 243 "WaterMen" "tripCount" "I") tw_592) (fun _ h9 => h9) rfl (by decide +kernel) rfl rfl rfl ⟨(show ¬ ((x_11 + 1) < 0) from by have e0 := b_11.1; rw [Int32.lt_iff_toInt_lt] at e0; have e1 := c_12; rw [Int32.lt_iff_toInt_lt] at e1; have z0 : (0 : Int32).toInt = 0 := (by decide +kernel); have z1 : (1 : Int32).toInt = 1 := (by decide +kernel); have z2 : (600 : Int32).toInt = 600 := (by decide +kernel); have ss := fb_addI (x := x_11) (y := 1) (by omega) (by omega); rw [Int32.lt_iff_toInt_lt]; omega), (show ¬ (600 < (x_11 + 1)) from by have e0 := b_11.1; rw [Int32.lt_iff_toInt_lt] at e0; have e1 := c_12; rw [Int32.lt_iff_toInt_lt] at e1; have z0 : (0 : Int32).toInt = 0 := (by decide +kernel); have z1 : (1 : Int32).toInt = 1 := (by decide +kernel); have z2 : (600 : Int32).toInt = 600 := (by decide +kernel); have ss := fb_addI (x := x_11) (y := 1) (by omega) (by omega); rw [Int32.lt_iff_toInt_lt]; omega)⟩ d_WM_row_180 (fun f_10 H locs hP hD hS hO_10 hE_10 w_25 hF_10 => ?_)
                have hA_10 := hA_9.trans hE_10
                have hQ := hQ f_10 hF_10
                have hQ := hQ hO_10
                refine lv_aload_n hx hb d_WM_row_183 rfl (lv_at hl 4 rfl) ?_
                refine tw_getI (x := (x_11 + 1)) (D := (dC, dI)) (C := R_WM) (T := F_WM) (N := 13) (ci := 0) (kd := 0) (ct := ct) hx hb htb i_WM hown hK hP (hA_10.m m0) rfl rfl 9 w_25 (by decide) (htb (.fieldLink R_WM 243 "WaterMen" "tripCount" "I") tw_592) (fun _ h9 => h9) rfl d_WM_row_184 ?_
                refine lv_iconst (v := 1) hx hb d_WM_row_187 (by decide +kernel) ?_
                refine lv_isub hx hb d_WM_row_188 ?_
                refine W.widen (k := 1) (n := 8) (Nat.le_of_ble_eq_true rfl) (Nat.le_of_ble_eq_true rfl) ?_
                exact W.iret (v := ((x_11 + 1) - 1)) hx hb hr (fun t ht hW => ⟨⟨((x_11 + 1) - 1), (L_9, f_10), rfl, ⟨hO_10, hA_10.mono (by decide +kernel), trivial, hQ⟩, by rw [ht]; exact hP, va_K.moved hW.alike hK, by rw [hAe]; exact hD⟩, by rw [hAe]; exact hS.F ht⟩) (by rw [hAe]; exact hS.2.2) d_WM_row_189
              · have hQ := hQ.2 c_12
                refine lv_bipush (v := (-3)) hx hb d_WM_row_80 (by decide +kernel) ?_
                refine W.widen (k := 1) (n := 8) (Nat.le_of_ble_eq_true rfl) (Nat.le_of_ble_eq_true rfl) ?_
                exact W.iret (v := (-3)) hx hb hr (fun t ht hW => ⟨⟨(-3), (L, f), rfl, ⟨hO_0, hA_0.mono (by decide +kernel), trivial, hQ⟩, by rw [ht]; exact hP, va_K.moved hW.alike hK, by rw [hAe]; exact hD⟩, by rw [hAe]; exact hS.F ht⟩) (by rw [hAe]; exact hS.2.2) d_WM_row_82
            · have hQ := hQ.2 c_10
              refine lv_bipush (v := (-10)) hx hb d_WM_row_64 (by decide +kernel) ?_
              refine lv_iload hx hb d_WM_row_66 (lv_at hl 0 rfl) ?_
              refine lv_isub hx hb d_WM_row_68 ?_
              refine W.widen (k := 1) (n := 8) (Nat.le_of_ble_eq_true rfl) (Nat.le_of_ble_eq_true rfl) ?_
              exact W.iret (v := ((-10) - r_9)) hx hb hr (fun t ht hW => ⟨⟨((-10) - r_9), (L, f), rfl, ⟨hO_0, hA_0.mono (by decide +kernel), trivial, hQ⟩, by rw [ht]; exact hP, va_K.moved hW.alike hK, by rw [hAe]; exact hD⟩, by rw [hAe]; exact hS.F ht⟩) (by rw [hAe]; exact hS.2.2) d_WM_row_69
          · have hQ := hQ.2 c_8
            refine lv_iconst (v := (-1)) hx hb d_WM_row_46 (by decide +kernel) ?_
            refine W.widen (k := 1) (n := 8) (Nat.le_of_ble_eq_true rfl) (Nat.le_of_ble_eq_true rfl) ?_
            exact W.iret (v := (-1)) hx hb hr (fun t ht hW => ⟨⟨(-1), (L, f), rfl, ⟨hO_0, hA_0.mono (by decide +kernel), trivial, hQ⟩, by rw [ht]; exact hP, va_K.moved hW.alike hK, by rw [hAe]; exact hD⟩, by rw [hAe]; exact hS.F ht⟩) (by rw [hAe]; exact hS.2.2) d_WM_row_47
