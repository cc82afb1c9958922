def W_Bt_init_w : List (Nat × Nat) := [(24, 0), (24, 1), (24, 3), (24, 4)]
def wp_Bt_init_w (L : List Nat) (f : TF) (q0 : Nat) (p_0 : Int32) (p_1 : Int32) (Q : List Nat → TF → Prop) : Prop := ∀ f_1 : TF, f_1 = sI f q0 3 (-1) → Ok L f_1 → ∀ f_2 : TF, f_2 = sI f_1 q0 4 (-1) → Ok L f_2 → ∀ f_3 : TF, f_3 = sI f_2 q0 0 p_0 → Ok L f_3 → ∀ f_4 : TF, f_4 = sI f_3 q0 1 p_1 → Ok L f_4 → Q L f_4
set_option maxHeartbeats 4000000 in
set_option maxRecDepth 100000 in
theorem c_Bt_init_w (l : Launch) (dC : Nat → ClassId) (dI : Nat → Nat → Nat) (ct : Nat → ClassId) (L : List Nat) (f : TF) (hO_0 : Ok L f) (q0 : Nat) (m0 : q0 ∈ L ∧ tk f q0 = 24) (sz : Nat) (p_0 : Int32) (p_1 : Int32)  (as_0 : ¬ (p_1 < 0)) (as_1 : ¬ (11 < p_1)) (Q : List Nat → TF → Prop) (hQ : wp_Bt_init_w L f q0 p_0 p_1 Q) : Met l y_Bt_init (.code y_Bt_init b_Bt_init 3 none :: TB) ({ frames := 1, cells := 0, slots := 0, locals := 12 }) (va_Pc [.ref q0, .int p_0, .int p_1] (PC dC dI (TW ct L f) (TT ct) sz)) (va_Qv (fun (u : TSt) => Ok u.1 u.2 ∧ Ext W_Bt_init_w L f u.1 u.2 ∧ (True) ∧ Q u.1 u.2) (fun (u : TSt) t => va_P (dC, dI) vwCl (TW ct u.1 u.2) t.heap ∧ va_K (dC, dI) vwCl (TT ct) t ∧ va_D (va_A (TW ct L f) sz) (TW ct u.1 u.2)) (va_A (TW ct L f) sz)) 0 0 (va_A (TW ct L f) sz) := by
  refine Met.ofW (cc := b_Bt_init) (maxL := 3) (ret := none) (by decide) rfl ?_
  intro p e s m args below meth c s₁ B hml hv
  obtain ⟨rfl, hsz, hP, hK, hD0, hN⟩ := hv
  have hx := B.exec
  have hb := B.bytes
  have hr := B.returns
  have hts := atoms_spec (ws := (.code y_Bt_init b_Bt_init 3 none :: TB)) B.pre
  have htb := fun w (h : w ∈ TB) => hts w (List.mem_cons_of_mem _ h)
  have hown : s.vm.findClass R_Bt = some m.cls := findClass_of_methodNamed B.named
  have hlocks := B.notSynchronized
  have hin : meth.name = "<init>" := (name_of_methodNamed B.named B.method).1
  have hl := lv_entry ([.ref q0, .int p_0, .int p_1]) (n := 3) (Nat.le_of_ble_eq_true rfl)
  rw [lg_entry_eq]
  generalize (lg_sl ([.ref q0, .int p_0, .int p_1]) ++ List.replicate (3 - (lg_sl ([.ref q0, .int p_0, .int p_1])).length) Slot.unset).toArray = ls at hl ⊢
  have hl : lv_has ls 3 [(0, .ref q0), (1, .int p_0), (2, .int p_1)] := hl
  subst hsz
  have hD := hD0.self (sz := s.heap.size)
  obtain ⟨A, hAe⟩ : ∃ A, va_A (TW ct L f) s.heap.size = A := ⟨_, rfl⟩
  rw [hAe] at hD
  have hA : ∀ q : Nat, s.heap.size ≤ q → A q := fun q h => by rw [← hAe]; exact Or.inr h
  have hS : va_S A s.heap s.heap [] := va_S.rf
  have hA_0 : Ext [] L f L f := Ext.rf
  suffices hGo : ∀ (H : Heap) (locs : List Loc), va_P (dC, dI) vwCl (TW ct L f) H → va_S A s.heap H locs → W p l e (headSpec (.code y_Bt_init b_Bt_init 3 none :: TB) ({ frames := 1, cells := 0, slots := 0, locals := 12 })).room s m [.ref q0, .int p_0, .int p_1].toArray below meth c H locs 0 0 (MQ below (va_Qv (fun (u : TSt) => Ok u.1 u.2 ∧ Ext W_Bt_init_w L f u.1 u.2 ∧ (True) ∧ Q u.1 u.2) (fun (u : TSt) t => va_P (dC, dI) vwCl (TW ct u.1 u.2) t.heap ∧ va_K (dC, dI) vwCl (TT ct) t ∧ va_D (va_A (TW ct L f) s.heap.size) (TW ct u.1 u.2)) (va_A (TW ct L f) s.heap.size)) [.ref q0, .int p_0, .int p_1].toArray s 0 0 (va_A (TW ct L f) s.heap.size)) (F0 m 0 ls []) from hGo _ _ hP hS
  clear hP hS
  intro H locs hP hS
  unfold wp_Bt_init_w at hQ
  refine lv_aload_n hx hb d_Bt_init_0 rfl (lv_at hl 0 rfl) ?_
  refine W.objInit hx hb hown (htb (.methodLink R_Bt 3 objectInit) tw_502) (htb (.instanceMethod objectInit) tw_329) (htb (.code objectInit ⟨#[0xb1]⟩ 1 none) tw_330) rfl (by rw [hml]; exact hl.1) rfl d_Bt_init_1 (Nat.le_of_ble_eq_true rfl) (Nat.le_of_ble_eq_true rfl) ?_
  refine W.eq (g2 := F0 m 4 ls []) rfl ?_
  refine lv_aload_n hx hb d_Bt_init_4 rfl (lv_at hl 0 rfl) ?_
  refine lv_iconst (v := (-1)) hx hb d_Bt_init_5 (by decide +kernel) ?_
  refine tw_puti (v := (-1)) (D := (dC, dI)) (C := R_Bt) (T := F_Bt) (N := 6) (ci := 9) (kd := 24) (ct := ct) (ty := .int) hx hb htb i_Bt t_Bt t_Bt_ok n_Bt hown hK hP hD hS hO_0 m0 rfl rfl 3 (by decide) (htb (.fieldLink R_Bt 9 "WaterMen$Boat" "rower" "I") tw_503) (fun _ h9 => h9) rfl (by decide +kernel) rfl rfl rfl (i32_full _) d_Bt_init_6 (fun f_1 H locs hP hD hS hO_1 hE_1 w_1 hF_1 => ?_)
  have hA_1 := hA_0.trans hE_1
  have hQ := hQ f_1 hF_1
  have hQ := hQ hO_1
  refine lv_aload_n hx hb d_Bt_init_9 rfl (lv_at hl 0 rfl) ?_
  refine lv_iconst (v := (-1)) hx hb d_Bt_init_10 (by decide +kernel) ?_
  refine tw_puti (v := (-1)) (D := (dC, dI)) (C := R_Bt) (T := F_Bt) (N := 6) (ci := 9) (kd := 24) (ct := ct) (ty := .int) hx hb htb i_Bt t_Bt t_Bt_ok n_Bt hown hK hP hD hS hO_1 (hA_1.m m0) rfl rfl 4 (by decide) (htb (.fieldLink R_Bt 15 "WaterMen$Boat" "lastTrip" "I") tw_504) (fun _ h9 => h9) rfl (by decide +kernel) rfl rfl rfl (i32_full _) d_Bt_init_11 (fun f_2 H locs hP hD hS hO_2 hE_2 w_2 hF_2 => ?_)
  have hA_2 := hA_1.trans hE_2
  have hQ := hQ f_2 hF_2
  have hQ := hQ hO_2
  refine lv_aload_n hx hb d_Bt_init_14 rfl (lv_at hl 0 rfl) ?_
  refine lv_iload_n hx hb d_Bt_init_15 rfl (lv_at hl 1 rfl) ?_
  refine tw_putFi (v := p_0) (D := (dC, dI)) (C := R_Bt) (T := F_Bt) (N := 6) (ci := 9) (kd := 24) (ct := ct) (ty := .int) hx hb htb i_Bt t_Bt t_Bt_ok n_Bt hown hK hP hD hS hO_2 (hA_2.m m0) rfl rfl 0 (by decide) (htb (.fieldLink R_Bt 18 "WaterMen$Boat" "oars" "I") tw_505) (fun _ h9 => h9) rfl hin rfl (by decide +kernel) rfl rfl rfl (i32_full _) d_Bt_init_16 (fun f_3 H locs hP hD hS hO_3 hE_3 w_3 hF_3 => ?_)
  have hA_3 := hA_2.trans hE_3
  have hQ := hQ f_3 hF_3
  have hQ := hQ hO_3
  refine lv_aload_n hx hb d_Bt_init_19 rfl (lv_at hl 0 rfl) ?_
  refine lv_iload_n hx hb d_Bt_init_20 rfl (lv_at hl 2 rfl) ?_
  refine tw_puti (v := p_1) (D := (dC, dI)) (C := R_Bt) (T := F_Bt) (N := 6) (ci := 9) (kd := 24) (ct := ct) (ty := .int) hx hb htb i_Bt t_Bt t_Bt_ok n_Bt hown hK hP hD hS hO_3 (hA_3.m m0) rfl rfl 1 (by decide) (htb (.fieldLink R_Bt 21 "WaterMen$Boat" "stairs" "I") tw_506) (fun _ h9 => h9) rfl (by decide +kernel) rfl rfl rfl ⟨as_0, as_1⟩ d_Bt_init_21 (fun f_4 H locs hP hD hS hO_4 hE_4 w_4 hF_4 => ?_)
  have hA_4 := hA_3.trans hE_4
  have hQ := hQ f_4 hF_4
  have hQ := hQ hO_4
  refine W.widen (k := 0) (n := 0) (Nat.le_of_ble_eq_true rfl) (Nat.le_of_ble_eq_true rfl) ?_
  exact W.vret hx hb hr (fun t ht hW => ⟨⟨(L, f_4), rfl, ⟨hO_4, hA_4.mono (by decide +kernel), trivial, hQ⟩, by rw [ht]; exact hP, va_K.moved hW.alike hK, by rw [hAe]; exact hD⟩, by rw [hAe]; exact hS.F ht⟩) (by rw [hAe]; exact hS.2.2) d_Bt_init_24
def W_WM_boat_w : List (Nat × Nat) := [(0, 7), (7, 1000), (24, 0), (24, 1), (24, 3), (24, 4)]
def wp_WM_boat_w (L : List Nat) (f : TF) (q0 : Nat) (p_0 : Int32) (p_1 : Int32) (Q : Int32 → List Nat → TF → Prop) : Prop := ((p_0 = 1 → ∀ q_3 : Nat, tr f q0 0 = some q_3 → wp_Rv_hasStairs_w L f q_3 p_1 (fun (r_4 : Int32) => ((r_4 = 0 → Q (-1) L f) ∧ (r_4 = 1 → ∀ x_7 : Int32, ti f q0 7 = x_7 → ((x_7 < 20 → ∀ q_9 : Nat, tr f q0 2 = some q_9 → ∀ (q_n1 : Nat) (L_1 : List Nat) (f_1 : TF), q_n1 ∉ L → L_1 = L ++ [q_n1] → f_1 = nC f q_n1 24 → Ok L_1 f_1 → wp_Bt_init_w L_1 f_1 q_n1 p_0 p_1 (fun (L_2 : List Nat) (f_2 : TF) => Ok L_2 f_2 → Ext W_Bt_init_w L_1 f_1 L_2 f_2 → ∀ f_3 : TF, f_3 = sR f_2 q_9 (x_7 : Int32).toNatClampNeg q_n1 → Ok L_2 f_3 → ∀ f_4 : TF, f_4 = sI f_3 q0 7 (x_7 + 1) → Ok L_2 f_4 → Q ((x_7 + 1) - 1) L_2 f_4)) ∧ (¬ (x_7 < 20) → Q (-3) L f)))))) ∧ (¬ (p_0 = 1) → ((p_0 = 2 → ∀ q_14 : Nat, tr f q0 0 = some q_14 → wp_Rv_hasStairs_w L f q_14 p_1 (fun (r_15 : Int32) => ((r_15 = 0 → Q (-1) L f) ∧ (r_15 = 1 → ∀ x_18 : Int32, ti f q0 7 = x_18 → ((x_18 < 20 → ∀ q_20 : Nat, tr f q0 2 = some q_20 → ∀ (q_n1 : Nat) (L_1 : List Nat) (f_1 : TF), q_n1 ∉ L → L_1 = L ++ [q_n1] → f_1 = nC f q_n1 24 → Ok L_1 f_1 → wp_Bt_init_w L_1 f_1 q_n1 p_0 p_1 (fun (L_2 : List Nat) (f_2 : TF) => Ok L_2 f_2 → Ext W_Bt_init_w L_1 f_1 L_2 f_2 → ∀ f_3 : TF, f_3 = sR f_2 q_20 (x_18 : Int32).toNatClampNeg q_n1 → Ok L_2 f_3 → ∀ f_4 : TF, f_4 = sI f_3 q0 7 (x_18 + 1) → Ok L_2 f_4 → Q ((x_18 + 1) - 1) L_2 f_4)) ∧ (¬ (x_18 < 20) → Q (-3) L f)))))) ∧ (¬ (p_0 = 2) → Q (-1) L f))))
set_option maxHeartbeats 4000000 in
set_option maxRecDepth 100000 in
theorem c_WM_boat_w (l : Launch) (dC : Nat → ClassId) (dI : Nat → Nat → Nat) (ct : Nat → ClassId) (L : List Nat) (f : TF) (hO_0 : Ok L f) (q0 : Nat) (m0 : q0 ∈ L ∧ tk f q0 = 0) (sz : Nat) (p_0 : Int32) (p_1 : Int32)   (Q : Int32 → List Nat → TF → Prop) (hQ : wp_WM_boat_w L f q0 p_0 p_1 Q) : Met l y_WM_boat (.code y_WM_boat b_WM_boat 3 (some .int) :: TB) ({ frames := 2, cells := 1, slots := 6, locals := 34 }) (va_Pc [.ref q0, .int p_0, .int p_1] (PC dC dI (TW ct L f) (TT ct) sz)) (va_Qi (fun r (u : TSt) => Ok u.1 u.2 ∧ Ext W_WM_boat_w L f u.1 u.2 ∧ (True) ∧ Q r u.1 u.2) (fun (u : TSt) t => va_P (dC, dI) vwCl (TW ct u.1 u.2) t.heap ∧ va_K (dC, dI) vwCl (TT ct) t ∧ va_D (va_A (TW ct L f) sz) (TW ct u.1 u.2)) (va_A (TW ct L f) sz)) 1 6 (va_A (TW ct L f) sz) := by
  refine Met.ofW (cc := b_WM_boat) (maxL := 3) (ret := (some .int)) (by decide) rfl ?_
  intro p e s m args below meth c s₁ B hml hv
  obtain ⟨rfl, hsz, hP, hK, hD0, hN⟩ := hv
  have hx := B.exec
  have hb := B.bytes
  have hr := B.returns
  have hts := atoms_spec (ws := (.code y_WM_boat b_WM_boat 3 (some .int) :: TB)) B.pre
  have htb := fun w (h : w ∈ TB) => hts w (List.mem_cons_of_mem _ h)
  have hown : s.vm.findClass R_WM = some m.cls := findClass_of_methodNamed B.named
  have hlocks := B.notSynchronized
  have hl := lv_entry ([.ref q0, .int p_0, .int p_1]) (n := 3) (Nat.le_of_ble_eq_true rfl)
  rw [lg_entry_eq]
  generalize (lg_sl ([.ref q0, .int p_0, .int p_1]) ++ List.replicate (3 - (lg_sl ([.ref q0, .int p_0, .int p_1])).length) Slot.unset).toArray = ls at hl ⊢
  have hl : lv_has ls 3 [(0, .ref q0), (1, .int p_0), (2, .int p_1)] := hl
  subst hsz
  have hD := hD0.self (sz := s.heap.size)
  obtain ⟨A, hAe⟩ : ∃ A, va_A (TW ct L f) s.heap.size = A := ⟨_, rfl⟩
  rw [hAe] at hD
  have hA : ∀ q : Nat, s.heap.size ≤ q → A q := fun q h => by rw [← hAe]; exact Or.inr h
  have hS : va_S A s.heap s.heap [] := va_S.rf
  have hA_0 : Ext [] L f L f := Ext.rf
  suffices hGo : ∀ (H : Heap) (locs : List Loc), va_P (dC, dI) vwCl (TW ct L f) H → va_S A s.heap H locs → W p l e (headSpec (.code y_WM_boat b_WM_boat 3 (some .int) :: TB) ({ frames := 2, cells := 1, slots := 6, locals := 34 })).room s m [.ref q0, .int p_0, .int p_1].toArray below meth c H locs 0 0 (MQ below (va_Qi (fun r (u : TSt) => Ok u.1 u.2 ∧ Ext W_WM_boat_w L f u.1 u.2 ∧ (True) ∧ Q r u.1 u.2) (fun (u : TSt) t => va_P (dC, dI) vwCl (TW ct u.1 u.2) t.heap ∧ va_K (dC, dI) vwCl (TT ct) t ∧ va_D (va_A (TW ct L f) s.heap.size) (TW ct u.1 u.2)) (va_A (TW ct L f) s.heap.size)) [.ref q0, .int p_0, .int p_1].toArray s 1 6 (va_A (TW ct L f) s.heap.size)) (F0 m 0 ls []) from hGo _ _ hP hS
  clear hP hS
  intro H locs hP hS
  unfold wp_WM_boat_w at hQ
  refine lv_iload_n hx hb d_WM_boat_0 rfl (lv_at hl 1 rfl) ?_
  refine vp_callSi (va_Run.run (va_runS (As := [.int p_0]) (rest := []) ⟨hx, hb, hml, hown, htb⟩ (c_WM_isOars l p_0) (cwS 1 htb (gd_S tw_402 tw_403 tw_26 tw_401) rfl rfl rfl (by decide +kernel) ⟨Nat.le_of_ble_eq_true rfl, Nat.le_of_ble_eq_true rfl⟩) ⟨fun _ _ _ _ h => h, fun U _ _ => ⟨rfl, trivial⟩⟩ rfl rfl hl.1 rfl (lv_room (Nat.le_of_ble_eq_true rfl)) d_WM_boat_1 ⟨Nat.le_of_ble_eq_true rfl, Nat.le_of_ble_eq_true rfl⟩)) (fun r er => ?_)
  subst er
  by_cases c_2 : p_0 = 1
  · have hQ := hQ.1 c_2
    refine hb_ti 1 (by unfold f_WM_isOars; rw [if_pos c_2]; first | done | rfl) ?_
    refine lv_if_eq (tgt := 18) hx hb d_WM_boat_4 (by decide) (fun h => absurd h (by decide +kernel)) (fun _ => ?_)
    refine lv_aload_n hx hb d_WM_boat_7 rfl (lv_at hl 0 rfl) ?_
    refine tw_getr (D := (dC, dI)) (C := R_WM) (T := F_WM) (N := 13) (ci := 0) (kd := 0) (ct := ct) hx hb htb i_WM hown hK hP hO_0 m0 rfl rfl 0 (by decide) (htb (.fieldLink R_WM 12 "WaterMen" "river" "LWaterMen$River;") tw_135) (fun _ h9 => h9) rfl d_WM_boat_8 (fun q_3 e_3 m_3 => ?_)
    have hQ := hQ q_3 e_3
    refine lv_iload_n hx hb d_WM_boat_11 rfl (lv_at hl 2 rfl) ?_
    refine vp_callSi (va_Run.run (va_runV (As := [.int p_1]) (rest := []) ⟨hx, hb, hml, hown, htb⟩ (c_Rv_hasStairs_w l dC dI ct L f hO_0 q_3 m_3 p_1 _ hQ) (cwV 1 htb (gd_V tw_398 tw_399 tw_400 tw_140 tw_397) rfl rfl rfl (by decide +kernel) ⟨Nat.le_of_ble_eq_true rfl, Nat.le_of_ble_eq_true rfl⟩) ⟨pr_blind, tw_recv hK hP m_3 rfl rfl, pr_pre hP hK hN⟩ rfl rfl hl.1 rfl (lv_room (Nat.le_of_ble_eq_true rfl)) d_WM_boat_12 ⟨Nat.le_of_ble_eq_true rfl, Nat.le_of_ble_eq_true rfl⟩)) (fun r_4 er_4 => ?_)
    obtain ⟨er_4, hQ⟩ := er_4
    rcases er_4 with ⟨rfl, -⟩ | ⟨rfl, po_5, po_6, -⟩
    · have hQ := hQ.1 rfl
      refine lv_if_ne (tgt := 20) hx hb d_WM_boat_15 (by decide) (fun h => absurd (by decide +kernel) h) (fun _ => ?_)
      refine lv_iconst (v := (-1)) hx hb d_WM_boat_18 (by decide +kernel) ?_
      refine W.widen (k := 1) (n := 6) (Nat.le_of_ble_eq_true rfl) (Nat.le_of_ble_eq_true rfl) ?_
      exact W.iret (v := (-1)) hx hb hr (fun t ht hW => ⟨⟨(-1), (L, f), rfl, ⟨hO_0, hA_0.mono (by decide +kernel), trivial, hQ⟩, by rw [ht]; exact hP, va_K.moved hW.alike hK, by rw [hAe]; exact hD⟩, by rw [hAe]; exact hS.F ht⟩) (by rw [hAe]; exact hS.2.2) d_WM_boat_19
    · have hQ := hQ.2 rfl
      refine lv_if_ne (tgt := 20) hx hb d_WM_boat_15 (by decide) (fun _ => ?_) (fun h => absurd h (by decide +kernel))
      refine lv_aload_n hx hb d_WM_boat_20 rfl (lv_at hl 0 rfl) ?_
      refine tw_geti (D := (dC, dI)) (C := R_WM) (T := F_WM) (N := 13) (ci := 0) (kd := 0) (ct := ct) hx hb htb i_WM hown hK hP hO_0 m0 rfl rfl 7 (by decide) (htb (.fieldLink R_WM 170 "WaterMen" "boatCount" "I") tw_497) (fun _ h9 => h9) rfl d_WM_boat_21 (fun x_7 e_7 b_7 => ?_)
      have hQ := hQ x_7 e_7
      refine lv_bipush (v := 20) hx hb d_WM_boat_24 (by decide +kernel) ?_
      refine lv_icmp_lt (tgt := 32) hx hb d_WM_boat_26 (by decide) (fun c_8 => ?_) (fun c_8 => ?_)
      · have hQ := hQ.1 c_8
        refine lv_aload_n hx hb d_WM_boat_32 rfl (lv_at hl 0 rfl) ?_
        refine tw_getr (D := (dC, dI)) (C := R_WM) (T := F_WM) (N := 13) (ci := 0) (kd := 0) (ct := ct) hx hb htb i_WM hown hK hP hO_0 m0 rfl rfl 2 (by decide) (htb (.fieldLink R_WM 24 "WaterMen" "boats" "[LWaterMen$Boat;") tw_498) (fun _ h9 => h9) rfl d_WM_boat_33 (fun q_9 e_9 m_9 => ?_)
        have hQ := hQ q_9 e_9
        refine lv_aload_n hx hb d_WM_boat_36 rfl (lv_at hl 0 rfl) ?_
        refine tw_getI (x := x_7) (D := (dC, dI)) (C := R_WM) (T := F_WM) (N := 13) (ci := 0) (kd := 0) (ct := ct) hx hb htb i_WM hown hK hP m0 rfl rfl 7 e_7 (by decide) (htb (.fieldLink R_WM 170 "WaterMen" "boatCount" "I") tw_497) (fun _ h9 => h9) rfl d_WM_boat_37 ?_
        refine tw_newO (D := (dC, dI)) (ci := 9) (fs := [.int 0, .int 0, .int 0, .int 0, .int 0, .int 0]) (C := R_Bt) (T := F_Bt) (N := 6) (ct := ct) hx hb htb i_Bt t_Bt t_Bt_ok hown (htb (.classLink R_WM 22 R_Bt) tw_499) (htb (.instantiable R_Bt 6) tw_500) (htb (.initialized R_Bt) tw_501) hK hP hD hS hA hO_0 24 rfl rfl rfl (by decide +kernel) (df_Bt) (Nat.le_of_ble_eq_true rfl) (Nat.le_of_ble_eq_true rfl) d_WM_boat_40 (fun q_n1 L_1 f_1 H hP hD hS hO_1 hE_1 m_n1 nq_1 hL_1 hF_1 => ?_)
        have hA_1 := hA_0.trans hE_1
        have hQ := hQ q_n1 L_1 f_1 nq_1 hL_1 hF_1 hO_1
        refine lv_dup hx hb d_WM_boat_43 rfl ?_
        refine lv_iload_n hx hb d_WM_boat_44 rfl (lv_at hl 1 rfl) ?_
        refine lv_iload_n hx hb d_WM_boat_45 rfl (lv_at hl 2 rfl) ?_
        have hFc := hb_free hD hS hA
        refine va_callv (va_runI (As := [.int p_0, .int p_1]) (rest := [.ref q_n1, .int x_7, .ref q_9]) ⟨hx, hb, hml, hown, htb⟩ (c_Bt_init_w l dC dI ct L_1 f_1 hO_1 q_n1 m_n1 _ p_0 p_1 po_5 po_6 _ hQ) (cwI 2 htb (gd_I tw_507) rfl rfl rfl (htb (.initialized R_Bt) tw_501) (htb (.methodLink R_WM 173 y_Bt_init) tw_508) (htb (.instanceMethod y_Bt_init) tw_509) rfl (by decide +kernel) ⟨Nat.le_of_ble_eq_true rfl, Nat.le_of_ble_eq_true rfl⟩) ⟨pc_blind, pc_pre hP hK hD hN⟩ rfl rfl hl.1 rfl (lv_room (Nat.le_of_ble_eq_true rfl)) d_WM_boat_46 ⟨Nat.le_of_ble_eq_true rfl, Nat.le_of_ble_eq_true rfl⟩) hS (fun q _ h => hFc q h) hFc (fun u t H locs ht hvm er hB hz1 hk1 hS => ?_)
        obtain ⟨L_2, f_2⟩ := u
        obtain ⟨hO_2, hE_2, er, hQ⟩ := er
        obtain ⟨hP, hK1, hD1⟩ := hB
        rw [ht] at hP
        have hP : va_P (dC, dI) vwCl (TW ct L_2 f_2) H := hP
        have hD : va_D A (TW ct L_2 f_2) := hD1.weaken (fun _ q _ h => hFc q.1 h)
        have hO_2 : Ok L_2 f_2 := hO_2
        have hE_2 : Ext W_Bt_init_w L_1 f_1 L_2 f_2 := hE_2
        clear hK1 hD1 ht hvm hz1 hk1
        have hA_2 := hA_1.trans hE_2
        have hQ := hQ hO_2 hE_2
        clear er
        refine tw_astq (ct := ct) hx hb hK hP hD hS hO_2 (hA_2.m m_9) rfl rfl (hE_2.m m_n1) rfl rfl (hb_inp b_7.1 c_8 (by decide +kernel)) d_WM_boat_49 (fun f_3 H locs hP hD hS hO_3 hE_3 w_11 hF_3 => ?_)
        have hA_3 := hA_2.trans hE_3
        have hQ := hQ f_3 hF_3
        have hQ := hQ hO_3
        refine lv_aload_n hx hb d_WM_boat_50 rfl (lv_at hl 0 rfl) ?_
        refine lv_dup hx hb d_WM_boat_51 rfl ?_
        refine tw_getI (x := x_7) (D := (dC, dI)) (C := R_WM) (T := F_WM) (N := 13) (ci := 0) (kd := 0) (ct := ct) hx hb htb i_WM hown hK hP (hA_3.m m0) rfl rfl 7 ((hA_3.ei m0 rfl).trans e_7) (by decide) (htb (.fieldLink R_WM 170 "WaterMen" "boatCount" "I") tw_497) (fun _ h9 => h9) rfl d_WM_boat_52 ?_
        refine lv_iconst (v := 1) hx hb d_WM_boat_55 (by decide +kernel) ?_
        refine lv_iadd hx hb d_WM_boat_56 ?_
        refine tw_puti (v := (x_7 + 1)) (D := (dC, dI)) (C := R_WM) (T := F_WM) (N := 13) (ci := 0) (kd := 0) (ct := ct) (ty := .int) hx hb htb i_WM t_WM t_WM_ok n_WM hown hK hP hD hS hO_3 (hA_3.m m0) rfl rfl 7 (by decide) (htb (.fieldLink R_WM 170 "WaterMen" "boatCount" "I") tw_497) (fun _ h9 => h9) rfl (by decide +kernel) rfl rfl rfl ⟨(show ¬ ((x_7 + 1) < 0) from by have e0 := b_7.1; rw [Int32.lt_iff_toInt_lt] at e0; have e1 := c_8; rw [Int32.lt_iff_toInt_lt] at e1; have z0 : (0 : Int32).toInt = 0 := (by decide +kernel); have z1 : (1 : Int32).toInt = 1 := (by decide +kernel); have z2 : (20 : Int32).toInt = 20 := (by decide +kernel); have ss := fb_addI (x := x_7) (y := 1) (by omega) (by omega); rw [Int32.lt_iff_toInt_lt]; omega), (show ¬ (20 < (x_7 + 1)) from by have e0 := b_7.1; rw [Int32.lt_iff_toInt_lt] at e0; have e1 := c_8; rw [Int32.lt_iff_toInt_lt] at e1; have z0 : (0 : Int32).toInt = 0 := (by decide +kernel); have z1 : (1 : Int32).toInt = 1 := (by decide +kernel); have z2 : (20 : Int32).toInt = 20 := (by decide +kernel); have ss := fb_addI (x := x_7) (y := 1) (by omega) (by omega); rw [Int32.lt_iff_toInt_lt]; omega)⟩ d_WM_boat_57 (fun f_4 H locs hP hD hS hO_4 hE_4 w_12 hF_4 => ?_)
        have hA_4 := hA_3.trans hE_4
        have hQ := hQ f_4 hF_4
        have hQ := hQ hO_4
        refine lv_aload_n hx hb d_WM_boat_60 rfl (lv_at hl 0 rfl) ?_
        refine tw_getI (x := (x_7 + 1)) (D := (dC, dI)) (C := R_WM) (T := F_WM) (N := 13) (ci := 0) (kd := 0) (ct := ct) hx hb htb i_WM hown hK hP (hA_4.m m0) rfl rfl 7 w_12 (by decide) (htb (.fieldLink R_WM 170 "WaterMen" "boatCount" "I") tw_497) (fun _ h9 => h9) rfl d_WM_boat_61 ?_
        refine lv_iconst (v := 1) hx hb d_WM_boat_64 (by decide +kernel) ?_
        refine lv_isub hx hb d_WM_boat_65 ?_
        refine W.widen (k := 1) (n := 6) (Nat.le_of_ble_eq_true rfl) (Nat.le_of_ble_eq_true rfl) ?_
        exact W.iret (v := ((x_7 + 1) - 1)) hx hb hr (fun t ht hW => ⟨⟨((x_7 + 1) - 1), (L_2, f_4), rfl, ⟨hO_4, hA_4.mono (by decide +kernel), trivial, hQ⟩, by rw [ht]; exact hP, va_K.moved hW.alike hK, by rw [hAe]; exact hD⟩, by rw [hAe]; exact hS.F ht⟩) (by rw [hAe]; exact hS.2.2) d_WM_boat_66
      · have hQ := hQ.2 c_8
        refine lv_bipush (v := (-3)) hx hb d_WM_boat_29 (by decide +kernel) ?_
        refine W.widen (k := 1) (n := 6) (Nat.le_of_ble_eq_true rfl) (Nat.le_of_ble_eq_true rfl) ?_
        exact W.iret (v := (-3)) hx hb hr (fun t ht hW => ⟨⟨(-3), (L, f), rfl, ⟨hO_0, hA_0.mono (by decide +kernel), trivial, hQ⟩, by rw [ht]; exact hP, va_K.moved hW.alike hK, by rw [hAe]; exact hD⟩, by rw [hAe]; exact hS.F ht⟩) (by rw [hAe]; exact hS.2.2) d_WM_boat_31
  · have hQ := hQ.2 c_2
    by_cases c_13 : p_0 = 2
    · have hQ := hQ.1 c_13
      refine hb_ti 1 (by unfold f_WM_isOars; rw [if_neg c_2, if_pos c_13]; first | done | rfl) ?_
      refine lv_if_eq (tgt := 18) hx hb d_WM_boat_4 (by decide) (fun h => absurd h (by decide +kernel)) (fun _ => ?_)
      refine lv_aload_n hx hb d_WM_boat_7 rfl (lv_at hl 0 rfl) ?_
      refine tw_getr (D := (dC, dI)) (C := R_WM) (T := F_WM) (N := 13) (ci := 0) (kd := 0) (ct := ct) hx hb htb i_WM hown hK hP hO_0 m0 rfl rfl 0 (by decide) (htb (.fieldLink R_WM 12 "WaterMen" "river" "LWaterMen$River;") tw_135) (fun _ h9 => h9) rfl d_WM_boat_8 (fun q_14 e_14 m_14 => ?_)
      have hQ := hQ q_14 e_14
      refine lv_iload_n hx hb d_WM_boat_11 rfl (lv_at hl 2 rfl) ?_
      refine vp_callSi (va_Run.run (va_runV (As := [.int p_1]) (rest := []) ⟨hx, hb, hml, hown, htb⟩ (c_Rv_hasStairs_w l dC dI ct L f hO_0 q_14 m_14 p_1 _ hQ) (cwV 1 htb (gd_V tw_398 tw_399 tw_400 tw_140 tw_397) rfl rfl rfl (by decide +kernel) ⟨Nat.le_of_ble_eq_true rfl, Nat.le_of_ble_eq_true rfl⟩) ⟨pr_blind, tw_recv hK hP m_14 rfl rfl, pr_pre hP hK hN⟩ rfl rfl hl.1 rfl (lv_room (Nat.le_of_ble_eq_true rfl)) d_WM_boat_12 ⟨Nat.le_of_ble_eq_true rfl, Nat.le_of_ble_eq_true rfl⟩)) (fun r_15 er_15 => ?_)
      obtain ⟨er_15, hQ⟩ := er_15
      rcases er_15 with ⟨rfl, -⟩ | ⟨rfl, po_16, po_17, -⟩
      · have hQ := hQ.1 rfl
        refine lv_if_ne (tgt := 20) hx hb d_WM_boat_15 (by decide) (fun h => absurd (by decide +kernel) h) (fun _ => ?_)
        refine lv_iconst (v := (-1)) hx hb d_WM_boat_18 (by decide +kernel) ?_
        refine W.widen (k := 1) (n := 6) (Nat.le_of_ble_eq_true rfl) (Nat.le_of_ble_eq_true rfl) ?_
        exact W.iret (v := (-1)) hx hb hr (fun t ht hW => ⟨⟨(-1), (L, f), rfl, ⟨hO_0, hA_0.mono (by decide +kernel), trivial, hQ⟩, by rw [ht]; exact hP, va_K.moved hW.alike hK, by rw [hAe]; exact hD⟩, by rw [hAe]; exact hS.F ht⟩) (by rw [hAe]; exact hS.2.2) d_WM_boat_19
      · have hQ := hQ.2 rfl
        refine lv_if_ne (tgt := 20) hx hb d_WM_boat_15 (by decide) (fun _ => ?_) (fun h => absurd h (by decide +kernel))
        refine lv_aload_n hx hb d_WM_boat_20 rfl (lv_at hl 0 rfl) ?_
        refine tw_geti (D := (dC, dI)) (C := R_WM) (T := F_WM) (N := 13) (ci := 0) (kd := 0) (ct := ct) hx hb htb i_WM hown hK hP hO_0 m0 rfl rfl 7 (by decide) (htb (.fieldLink R_WM 170 "WaterMen" "boatCount" "I") tw_497) (fun _ h9 => h9) rfl d_WM_boat_21 (fun x_18 e_18 b_18 => ?_)
        have hQ := hQ x_18 e_18
        refine lv_bipush (v := 20) hx hb d_WM_boat_24 (by decide +kernel) ?_
        refine lv_icmp_lt (tgt := 32) hx hb d_WM_boat_26 (by decide) (fun c_19 => ?_) (fun c_19 => ?_)
        · have hQ := hQ.1 c_19
          refine lv_aload_n hx hb d_WM_boat_32 rfl (lv_at hl 0 rfl) ?_
          refine tw_getr (D := (dC, dI)) (C := R_WM) (T := F_WM) (N := 13) (ci := 0) (kd := 0) (ct := ct) hx hb htb i_WM hown hK hP hO_0 m0 rfl rfl 2 (by decide) (htb (.fieldLink R_WM 24 "WaterMen" "boats" "[LWaterMen$Boat;") tw_498) (fun _ h9 => h9) rfl d_WM_boat_33 (fun q_20 e_20 m_20 => ?_)
          have hQ := hQ q_20 e_20
          refine lv_aload_n hx hb d_WM_boat_36 rfl (lv_at hl 0 rfl) ?_
          refine tw_getI (x := x_18) (D := (dC, dI)) (C := R_WM) (T := F_WM) (N := 13) (ci := 0) (kd := 0) (ct := ct) hx hb htb i_WM hown hK hP m0 rfl rfl 7 e_18 (by decide) (htb (.fieldLink R_WM 170 "WaterMen" "boatCount" "I") tw_497) (fun _ h9 => h9) rfl d_WM_boat_37 ?_
          refine tw_newO (D := (dC, dI)) (ci := 9) (fs := [.int 0, .int 0, .int 0, .int 0, .int 0, .int 0]) (C := R_Bt) (T := F_Bt) (N := 6) (ct := ct) hx hb htb i_Bt t_Bt t_Bt_ok hown (htb (.classLink R_WM 22 R_Bt) tw_499) (htb (.instantiable R_Bt 6) tw_500) (htb (.initialized R_Bt) tw_501) hK hP hD hS hA hO_0 24 rfl rfl rfl (by decide +kernel) (df_Bt) (Nat.le_of_ble_eq_true rfl) (Nat.le_of_ble_eq_true rfl) d_WM_boat_40 (fun q_n1 L_1 f_1 H hP hD hS hO_1 hE_1 m_n1 nq_1 hL_1 hF_1 => ?_)
          have hA_1 := hA_0.trans hE_1
          have hQ := hQ q_n1 L_1 f_1 nq_1 hL_1 hF_1 hO_1
          refine lv_dup hx hb d_WM_boat_43 rfl ?_
          refine lv_iload_n hx hb d_WM_boat_44 rfl (lv_at hl 1 rfl) ?_
          refine lv_iload_n hx hb d_WM_boat_45 rfl (lv_at hl 2 rfl) ?_
          have hFc := hb_free hD hS hA
          refine va_callv (va_runI (As := [.int p_0, .int p_1]) (rest := [.ref q_n1, .int x_18, .ref q_20]) ⟨hx, hb, hml, hown, htb⟩ (c_Bt_init_w l dC dI ct L_1 f_1 hO_1 q_n1 m_n1 _ p_0 p_1 po_16 po_17 _ hQ) (cwI 2 htb (gd_I tw_507) rfl rfl rfl (htb (.initialized R_Bt) tw_501) (htb (.methodLink R_WM 173 y_Bt_init) tw_508) (htb (.instanceMethod y_Bt_init) tw_509) rfl (by decide +kernel) ⟨Nat.le_of_ble_eq_true rfl, Nat.le_of_ble_eq_true rfl⟩) ⟨pc_blind, pc_pre hP hK hD hN⟩ rfl rfl hl.1 rfl (lv_room (Nat.le_of_ble_eq_true rfl)) d_WM_boat_46 ⟨Nat.le_of_ble_eq_true rfl, Nat.le_of_ble_eq_true rfl⟩) hS (fun q _ h => hFc q h) hFc (fun u t H locs ht hvm er hB hz1 hk1 hS => ?_)
          obtain ⟨L_2, f_2⟩ := u
          obtain ⟨hO_2, hE_2, er, hQ⟩ := er
          obtain ⟨hP, hK1, hD1⟩ := hB
          rw [ht] at hP
          have hP : va_P (dC, dI) vwCl (TW ct L_2 f_2) H := hP
          have hD : va_D A (TW ct L_2 f_2) := hD1.weaken (fun _ q _ h => hFc q.1 h)
          have hO_2 : Ok L_2 f_2 := hO_2
          have hE_2 : Ext W_Bt_init_w L_1 f_1 L_2 f_2 := hE_2
          clear hK1 hD1 ht hvm hz1 hk1
          have hA_2 := hA_1.trans hE_2
          have hQ := hQ hO_2 hE_2
          clear er
          refine tw_astq (ct := ct) hx hb hK hP hD hS hO_2 (hA_2.m m_20) rfl rfl (hE_2.m m_n1) rfl rfl (hb_inp b_18.1 c_19 (by decide +kernel)) d_WM_boat_49 (fun f_3 H locs hP hD hS hO_3 hE_3 w_22 hF_3 => ?_)
          have hA_3 := hA_2.trans hE_3
          have hQ := hQ f_3 hF_3
          have hQ := hQ hO_3
          refine lv_aload_n hx hb d_WM_boat_50 rfl (lv_at hl 0 rfl) ?_
          refine lv_dup hx hb d_WM_boat_51 rfl ?_
          refine tw_getI (x := x_18) (D := (dC, dI)) (C := R_WM) (T := F_WM) (N := 13) (ci := 0) (kd := 0) (ct := ct) hx hb htb i_WM hown hK hP (hA_3.m m0) rfl rfl 7 ((hA_3.ei m0 rfl).trans e_18) (by decide) (htb (.fieldLink R_WM 170 "WaterMen" "boatCount" "I") tw_497) (fun _ h9 => h9) rfl d_WM_boat_52 ?_
          refine lv_iconst (v := 1) hx hb d_WM_boat_55 (by decide +kernel) ?_
          refine lv_iadd hx hb d_WM_boat_56 ?_
          refine tw_puti (v := (x_18 + 1)) (D := (dC, dI)) (C := R_WM) (T := F_WM) (N := 13) (ci := 0) (kd := 0) (ct := ct) (ty := .int) hx hb htb i_WM t_WM t_WM_ok n_WM hown hK hP hD hS hO_3 (hA_3.m m0) rfl rfl 7 (by decide) (htb (.fieldLink R_WM 170 "WaterMen" "boatCount" "I") tw_497) (fun _ h9 => h9) rfl (by decide +kernel) rfl rfl rfl ⟨(show ¬ ((x_18 + 1) < 0) from by have e0 := b_18.1; rw [Int32.lt_iff_toInt_lt] at e0; have e1 := c_19; rw [Int32.lt_iff_toInt_lt] at e1; have z0 : (0 : Int32).toInt = 0 := (by decide +kernel); have z1 : (1 : Int32).toInt = 1 := (by decide +kernel); have z2 : (20 : Int32).toInt = 20 := (by decide +kernel); have ss := fb_addI (x := x_18) (y := 1) (by omega) (by omega); rw [Int32.lt_iff_toInt_lt]; omega), (show ¬ (20 < (x_18 + 1)) from by have e0 := b_18.1; rw [Int32.lt_iff_toInt_lt] at e0; have e1 := c_19; rw [Int32.lt_iff_toInt_lt] at e1; have z0 : (0 : Int32).toInt = 0 := (by decide +kernel); have z1 : (1 : Int32).toInt = 1 := (by decide +kernel); have z2 : (20 : Int32).toInt = 20 := (by decide +kernel); have ss := fb_addI (x := x_18) (y := 1) (by omega) (by omega); rw [Int32.lt_iff_toInt_lt]; omega)⟩ d_WM_boat_57 (fun f_4 H locs hP hD hS hO_4 hE_4 w_23 hF_4 => ?_)
          have hA_4 := hA_3.trans hE_4
          have hQ := hQ f_4 hF_4
          have hQ := hQ hO_4
          refine lv_aload_n hx hb d_WM_boat_60 rfl (lv_at hl 0 rfl) ?_
          refine tw_getI (x := (x_18 + 1)) (D := (dC, dI)) (C := R_WM) (T := F_WM) (N := 13) (ci := 0) (kd := 0) (ct := ct) hx hb htb i_WM hown hK hP (hA_4.m m0) rfl rfl 7 w_23 (by decide) (htb (.fieldLink R_WM 170 "WaterMen" "boatCount" "I") tw_497) (fun _ h9 => h9) rfl d_WM_boat_61 ?_
          refine lv_iconst (v := 1) hx hb d_WM_boat_64 (by decide +kernel) ?_
          refine lv_isub hx hb d_WM_boat_65 ?_
          refine W.widen (k := 1) (n := 6) (Nat.le_of_ble_eq_true rfl) (Nat.le_of_ble_eq_true rfl) ?_
          exact W.iret (v := ((x_18 + 1) - 1)) hx hb hr (fun t ht hW => ⟨⟨((x_18 + 1) - 1), (L_2, f_4), rfl, ⟨hO_4, hA_4.mono (by decide +kernel), trivial, hQ⟩, by rw [ht]; exact hP, va_K.moved hW.alike hK, by rw [hAe]; exact hD⟩, by rw [hAe]; exact hS.F ht⟩) (by rw [hAe]; exact hS.2.2) d_WM_boat_66
        · have hQ := hQ.2 c_19
          refine lv_bipush (v := (-3)) hx hb d_WM_boat_29 (by decide +kernel) ?_
          refine W.widen (k := 1) (n := 6) (Nat.le_of_ble_eq_true rfl) (Nat.le_of_ble_eq_true rfl) ?_
          exact W.iret (v := (-3)) hx hb hr (fun t ht hW => ⟨⟨(-3), (L, f), rfl, ⟨hO_0, hA_0.mono (by decide +kernel), trivial, hQ⟩, by rw [ht]; exact hP, va_K.moved hW.alike hK, by rw [hAe]; exact hD⟩, by rw [hAe]; exact hS.F ht⟩) (by rw [hAe]; exact hS.2.2) d_WM_boat_31
    · have hQ := hQ.2 c_13
      refine hb_ti 0 (by unfold f_WM_isOars; rw [if_neg c_2, if_neg c_13]; first | done | rfl) ?_
      refine lv_if_eq (tgt := 18) hx hb d_WM_boat_4 (by decide) (fun _ => ?_) (fun h => absurd (by decide +kernel) h)
      refine lv_iconst (v := (-1)) hx hb d_WM_boat_18 (by decide +kernel) ?_
      refine W.widen (k := 1) (n := 6) (Nat.le_of_ble_eq_true rfl) (Nat.le_of_ble_eq_true rfl) ?_
      exact W.iret (v := (-1)) hx hb hr (fun t ht hW => ⟨⟨(-1), (L, f), rfl, ⟨hO_0, hA_0.mono (by decide +kernel), trivial, hQ⟩, by rw [ht]; exact hP, va_K.moved hW.alike hK, by rw [hAe]; exact hD⟩, by rw [hAe]; exact hS.F ht⟩) (by rw [hAe]; exact hS.2.2) d_WM_boat_19
def W_Md_boat_w : List (Nat × Nat) := [(27, 21), (45, 1000), (46, 1000), (47, 1000), (48, 1000)]
def wp_Md_boat_w (L : List Nat) (f : TF) (q0 : Nat) (p_0 : Int32) (p_1 : Int32) (Q : Int32 → List Nat → TF → Prop) : Prop := ((p_0 < 1 → Q (-1) L f) ∧ (¬ (p_0 < 1) → ((2 < p_0 → Q (-1) L f) ∧ (¬ (2 < p_0) → wp_Md_isStairs_w L f q0 p_1 (fun (r_4 : Int32) => ((r_4 = 0 → Q (-1) L f) ∧ (r_4 = 1 → ∀ x_8 : Int32, ti f q0 21 = x_8 → ((x_8 = 20 → Q (-3) L f) ∧ (¬ (x_8 = 20) → ∀ q_10 : Nat, tr f q0 22 = some q_10 → ∀ f_1 : TF, f_1 = sI f q_10 (x_8 : Int32).toNatClampNeg p_0 → Ok L f_1 → ∀ q_12 : Nat, tr f_1 q0 23 = some q_12 → ∀ f_2 : TF, f_2 = sI f_1 q_12 (x_8 : Int32).toNatClampNeg p_1 → Ok L f_2 → ∀ q_14 : Nat, tr f_2 q0 24 = some q_14 → ∀ f_3 : TF, f_3 = sI f_2 q_14 (x_8 : Int32).toNatClampNeg 0 → Ok L f_3 → ∀ q_16 : Nat, tr f_3 q0 25 = some q_16 → ∀ f_4 : TF, f_4 = sI f_3 q_16 (x_8 : Int32).toNatClampNeg (-1) → Ok L f_4 → ∀ f_5 : TF, f_5 = sI f_4 q0 21 (x_8 + 1) → Ok L f_5 → Q ((x_8 + 1) - 1) L f_5)))))))))
set_option maxHeartbeats 4000000 in
set_option maxRecDepth 100000 in
theorem c_Md_boat_w (l : Launch) (dC : Nat → ClassId) (dI : Nat → Nat → Nat) (ct : Nat → ClassId) (L : List Nat) (f : TF) (hO_0 : Ok L f) (q0 : Nat) (m0 : q0 ∈ L ∧ tk f q0 = 27) (sz : Nat) (p_0 : Int32) (p_1 : Int32)   (Q : Int32 → List Nat → TF → Prop) (hQ : wp_Md_boat_w L f q0 p_0 p_1 Q) : Met l y_Md_boat (.code y_Md_boat b_Md_boat 3 (some .int) :: TB) ({ frames := 2, cells := 0, slots := 0, locals := 43 }) (va_Pc [.ref q0, .int p_0, .int p_1] (PC dC dI (TW ct L f) (TT ct) sz)) (va_Qi (fun r (u : TSt) => Ok u.1 u.2 ∧ Ext W_Md_boat_w L f u.1 u.2 ∧ (True) ∧ Q r u.1 u.2) (fun (u : TSt) t => va_P (dC, dI) vwCl (TW ct u.1 u.2) t.heap ∧ va_K (dC, dI) vwCl (TT ct) t ∧ va_D (va_A (TW ct L f) sz) (TW ct u.1 u.2)) (va_A (TW ct L f) sz)) 0 0 (va_A (TW ct L f) sz) := by
  refine Met.ofW (cc := b_Md_boat) (maxL := 3) (ret := (some .int)) (by decide) rfl ?_
  intro p e s m args below meth c s₁ B hml hv
  obtain ⟨rfl, hsz, hP, hK, hD0, hN⟩ := hv
  have hx := B.exec
  have hb := B.bytes
  have hr := B.returns
  have hts := atoms_spec (ws := (.code y_Md_boat b_Md_boat 3 (some .int) :: TB)) B.pre
  have htb := fun w (h : w ∈ TB) => hts w (List.mem_cons_of_mem _ h)
  have hown : s.vm.findClass R_Md = some m.cls := findClass_of_methodNamed B.named
  have hlocks := B.notSynchronized
  have hl := lv_entry ([.ref q0, .int p_0, .int p_1]) (n := 3) (Nat.le_of_ble_eq_true rfl)
  rw [lg_entry_eq]
  generalize (lg_sl ([.ref q0, .int p_0, .int p_1]) ++ List.replicate (3 - (lg_sl ([.ref q0, .int p_0, .int p_1])).length) Slot.unset).toArray = ls at hl ⊢
  have hl : lv_has ls 3 [(0, .ref q0), (1, .int p_0), (2, .int p_1)] := hl
  subst hsz
  have hD := hD0.self (sz := s.heap.size)
  obtain ⟨A, hAe⟩ : ∃ A, va_A (TW ct L f) s.heap.size = A := ⟨_, rfl⟩
  rw [hAe] at hD
  have hA : ∀ q : Nat, s.heap.size ≤ q → A q := fun q h => by rw [← hAe]; exact Or.inr h
  have hS : va_S A s.heap s.heap [] := va_S.rf
  have hA_0 : Ext [] L f L f := Ext.rf
  suffices hGo : ∀ (H : Heap) (locs : List Loc), va_P (dC, dI) vwCl (TW ct L f) H → va_S A s.heap H locs → W p l e (headSpec (.code y_Md_boat b_Md_boat 3 (some .int) :: TB) ({ frames := 2, cells := 0, slots := 0, locals := 43 })).room s m [.ref q0, .int p_0, .int p_1].toArray below meth c H locs 0 0 (MQ below (va_Qi (fun r (u : TSt) => Ok u.1 u.2 ∧ Ext W_Md_boat_w L f u.1 u.2 ∧ (True) ∧ Q r u.1 u.2) (fun (u : TSt) t => va_P (dC, dI) vwCl (TW ct u.1 u.2) t.heap ∧ va_K (dC, dI) vwCl (TT ct) t ∧ va_D (va_A (TW ct L f) s.heap.size) (TW ct u.1 u.2)) (va_A (TW ct L f) s.heap.size)) [.ref q0, .int p_0, .int p_1].toArray s 0 0 (va_A (TW ct L f) s.heap.size)) (F0 m 0 ls []) from hGo _ _ hP hS
  clear hP hS
  intro H locs hP hS
  unfold wp_Md_boat_w at hQ
  refine lv_iload_n hx hb d_Md_boat_0 rfl (lv_at hl 1 rfl) ?_
  refine lv_iconst (v := 1) hx hb d_Md_boat_1 (by decide +kernel) ?_
  refine lv_iconst (v := 2) hx hb d_Md_boat_2 (by decide +kernel) ?_
  refine vp_callSi (va_Run.run (va_runS (As := [.int p_0, .int 1, .int 2]) (rest := []) ⟨hx, hb, hml, hown, htb⟩ (c_Md_in l p_0 1 2) (cwS 3 htb (gd_S tw_90 tw_91 tw_89 tw_88) rfl rfl rfl (by decide +kernel) ⟨Nat.le_of_ble_eq_true rfl, Nat.le_of_ble_eq_true rfl⟩) ⟨fun _ _ _ _ h => h, fun U _ _ => ⟨rfl, trivial⟩⟩ rfl rfl hl.1 rfl (lv_room (Nat.le_of_ble_eq_true rfl)) d_Md_boat_3 ⟨Nat.le_of_ble_eq_true rfl, Nat.le_of_ble_eq_true rfl⟩)) (fun r er => ?_)
  subst er
  by_cases c_2 : p_0 < 1
  · have hQ := hQ.1 c_2
    refine hb_ti 0 (by unfold f_Md_in; rw [if_pos c_2]; first | done | rfl) ?_
    refine lv_if_eq (tgt := 17) hx hb d_Md_boat_6 (by decide) (fun _ => ?_) (fun h => absurd (by decide +kernel) h)
    refine lv_iconst (v := (-1)) hx hb d_Md_boat_17 (by decide +kernel) ?_
    refine W.widen (k := 0) (n := 0) (Nat.le_of_ble_eq_true rfl) (Nat.le_of_ble_eq_true rfl) ?_
    exact W.iret (v := (-1)) hx hb hr (fun t ht hW => ⟨⟨(-1), (L, f), rfl, ⟨hO_0, hA_0.mono (by decide +kernel), trivial, hQ⟩, by rw [ht]; exact hP, va_K.moved hW.alike hK, by rw [hAe]; exact hD⟩, by rw [hAe]; exact hS.F ht⟩) (by rw [hAe]; exact hS.2.2) d_Md_boat_18
  · have hQ := hQ.2 c_2
    by_cases c_3 : 2 < p_0
    · have hQ := hQ.1 c_3
      refine hb_ti 0 (by unfold f_Md_in; rw [if_neg c_2, if_pos c_3]; first | done | rfl) ?_
      refine lv_if_eq (tgt := 17) hx hb d_Md_boat_6 (by decide) (fun _ => ?_) (fun h => absurd (by decide +kernel) h)
      refine lv_iconst (v := (-1)) hx hb d_Md_boat_17 (by decide +kernel) ?_
      refine W.widen (k := 0) (n := 0) (Nat.le_of_ble_eq_true rfl) (Nat.le_of_ble_eq_true rfl) ?_
      exact W.iret (v := (-1)) hx hb hr (fun t ht hW => ⟨⟨(-1), (L, f), rfl, ⟨hO_0, hA_0.mono (by decide +kernel), trivial, hQ⟩, by rw [ht]; exact hP, va_K.moved hW.alike hK, by rw [hAe]; exact hD⟩, by rw [hAe]; exact hS.F ht⟩) (by rw [hAe]; exact hS.2.2) d_Md_boat_18
    · have hQ := hQ.2 c_3
      refine hb_ti 1 (by unfold f_Md_in; rw [if_neg c_2, if_neg c_3]; first | done | rfl) ?_
      refine lv_if_eq (tgt := 17) hx hb d_Md_boat_6 (by decide) (fun h => absurd h (by decide +kernel)) (fun _ => ?_)
      refine lv_aload_n hx hb d_Md_boat_9 rfl (lv_at hl 0 rfl) ?_
      refine lv_iload_n hx hb d_Md_boat_10 rfl (lv_at hl 2 rfl) ?_
      refine vp_callSi (va_Run.run (va_runV (As := [.int p_1]) (rest := []) ⟨hx, hb, hml, hown, htb⟩ (c_Md_isStairs_w l dC dI ct L f hO_0 q0 m0 p_1 _ hQ) (cwV 1 htb (gd_V tw_439 tw_440 tw_441 tw_89 tw_438) rfl rfl rfl (by decide +kernel) ⟨Nat.le_of_ble_eq_true rfl, Nat.le_of_ble_eq_true rfl⟩) ⟨pr_blind, tw_recv hK hP m0 rfl rfl, pr_pre hP hK hN⟩ rfl rfl hl.1 rfl (lv_room (Nat.le_of_ble_eq_true rfl)) d_Md_boat_11 ⟨Nat.le_of_ble_eq_true rfl, Nat.le_of_ble_eq_true rfl⟩)) (fun r_4 er_4 => ?_)
      obtain ⟨er_4, hQ⟩ := er_4
      rcases er_4 with ⟨rfl, -⟩ | ⟨rfl, po_5, po_6, po_7, -⟩
      · have hQ := hQ.1 rfl
        refine lv_if_ne (tgt := 19) hx hb d_Md_boat_14 (by decide) (fun h => absurd (by decide +kernel) h) (fun _ => ?_)
        refine lv_iconst (v := (-1)) hx hb d_Md_boat_17 (by decide +kernel) ?_
        refine W.widen (k := 0) (n := 0) (Nat.le_of_ble_eq_true rfl) (Nat.le_of_ble_eq_true rfl) ?_
        exact W.iret (v := (-1)) hx hb hr (fun t ht hW => ⟨⟨(-1), (L, f), rfl, ⟨hO_0, hA_0.mono (by decide +kernel), trivial, hQ⟩, by rw [ht]; exact hP, va_K.moved hW.alike hK, by rw [hAe]; exact hD⟩, by rw [hAe]; exact hS.F ht⟩) (by rw [hAe]; exact hS.2.2) d_Md_boat_18
      · have hQ := hQ.2 rfl
        refine lv_if_ne (tgt := 19) hx hb d_Md_boat_14 (by decide) (fun _ => ?_) (fun h => absurd h (by decide +kernel))
        refine lv_aload_n hx hb d_Md_boat_19 rfl (lv_at hl 0 rfl) ?_
        refine tw_geti (D := (dC, dI)) (C := R_Md) (T := F_Md) (N := 64) (ci := 7) (kd := 27) (ct := ct) hx hb htb i_Md hown hK hP hO_0 m0 rfl rfl 21 (by decide) (htb (.fieldLink R_Md 206 "WaterMenModel" "boats" "I") tw_227) (fun _ h9 => h9) rfl d_Md_boat_20 (fun x_8 e_8 b_8 => ?_)
        have hQ := hQ x_8 e_8
        refine lv_bipush (v := 20) hx hb d_Md_boat_23 (by decide +kernel) ?_
        refine lv_icmp_ne (tgt := 31) hx hb d_Md_boat_25 (by decide) (fun c_9 => ?_) (fun c_9 => ?_)
        · have hQ := hQ.2 c_9
          refine lv_aload_n hx hb d_Md_boat_31 rfl (lv_at hl 0 rfl) ?_
          refine tw_getr (D := (dC, dI)) (C := R_Md) (T := F_Md) (N := 64) (ci := 7) (kd := 27) (ct := ct) hx hb htb i_Md hown hK hP hO_0 m0 rfl rfl 22 (by decide) (htb (.fieldLink R_Md 94 "WaterMenModel" "boatOars" "[I") tw_510) (fun _ h9 => h9) rfl d_Md_boat_32 (fun q_10 e_10 m_10 => ?_)
          have hQ := hQ q_10 e_10
          refine lv_aload_n hx hb d_Md_boat_35 rfl (lv_at hl 0 rfl) ?_
          refine tw_getI (x := x_8) (D := (dC, dI)) (C := R_Md) (T := F_Md) (N := 64) (ci := 7) (kd := 27) (ct := ct) hx hb htb i_Md hown hK hP m0 rfl rfl 21 e_8 (by decide) (htb (.fieldLink R_Md 206 "WaterMenModel" "boats" "I") tw_227) (fun _ h9 => h9) rfl d_Md_boat_36 ?_
          refine lv_iload_n hx hb d_Md_boat_39 rfl (lv_at hl 1 rfl) ?_
          refine tw_astI (ct := ct) (x := p_0) hx hb hK hP hD hS hO_0 m_10 rfl ((fun (a_0 : Int32) (k_0 : ¬ (a_0 < 0)) (k_1 : ¬ (20 < a_0)) (k_2 : ¬ (a_0 = 20)) => (show vp_in (a_0) 20 from by have z0 : (0 : Int32).toInt = 0 := (by decide +kernel); have z1 : (20 : Int32).toInt = 20 := (by decide +kernel); have r0 := fb_rng (a_0); have e0 := k_0; rw [Int32.lt_iff_toInt_lt, z0] at e0; have e1 := k_1; rw [Int32.lt_iff_toInt_lt, z1] at e1; have e2 := k_2; rw [← Int32.toInt_inj, z1] at e2; rw [vp_in_iff]; omega)) x_8 b_8.1 b_8.2 c_9) (i32_full _) d_Md_boat_40 (fun f_1 H locs hP hD hS hO_1 hE_1 w_11 ow_11 hF_1 => ?_)
          have hA_1 := hA_0.trans hE_1
          have hQ := hQ f_1 hF_1
          have hQ := hQ hO_1
          refine lv_aload_n hx hb d_Md_boat_41 rfl (lv_at hl 0 rfl) ?_
          refine tw_getr (D := (dC, dI)) (C := R_Md) (T := F_Md) (N := 64) (ci := 7) (kd := 27) (ct := ct) hx hb htb i_Md hown hK hP hO_1 (hA_1.m m0) rfl rfl 23 (by decide) (htb (.fieldLink R_Md 97 "WaterMenModel" "boatAt" "[I") tw_511) (fun _ h9 => h9) rfl d_Md_boat_42 (fun q_12 e_12 m_12 => ?_)
          have hQ := hQ q_12 e_12
          refine lv_aload_n hx hb d_Md_boat_45 rfl (lv_at hl 0 rfl) ?_
          refine tw_getI (x := x_8) (D := (dC, dI)) (C := R_Md) (T := F_Md) (N := 64) (ci := 7) (kd := 27) (ct := ct) hx hb htb i_Md hown hK hP (hA_1.m m0) rfl rfl 21 ((hA_1.ei m0 rfl).trans e_8) (by decide) (htb (.fieldLink R_Md 206 "WaterMenModel" "boats" "I") tw_227) (fun _ h9 => h9) rfl d_Md_boat_46 ?_
          refine lv_iload_n hx hb d_Md_boat_49 rfl (lv_at hl 2 rfl) ?_
          refine tw_astI (ct := ct) (x := p_1) hx hb hK hP hD hS hO_1 m_12 rfl ((fun (a_0 : Int32) (k_0 : ¬ (a_0 < 0)) (k_1 : ¬ (20 < a_0)) (k_2 : ¬ (a_0 = 20)) => (show vp_in (a_0) 20 from by have z0 : (0 : Int32).toInt = 0 := (by decide +kernel); have z1 : (20 : Int32).toInt = 20 := (by decide +kernel); have r0 := fb_rng (a_0); have e0 := k_0; rw [Int32.lt_iff_toInt_lt, z0] at e0; have e1 := k_1; rw [Int32.lt_iff_toInt_lt, z1] at e1; have e2 := k_2; rw [← Int32.toInt_inj, z1] at e2; rw [vp_in_iff]; omega)) x_8 b_8.1 b_8.2 c_9) ⟨po_5, po_6⟩ d_Md_boat_50 (fun f_2 H locs hP hD hS hO_2 hE_2 w_13 ow_13 hF_2 => ?_)
          have hA_2 := hA_1.trans hE_2
          have hQ := hQ f_2 hF_2
          have hQ := hQ hO_2
          refine lv_aload_n hx hb d_Md_boat_51 rfl (lv_at hl 0 rfl) ?_
          refine tw_getr (D := (dC, dI)) (C := R_Md) (T := F_Md) (N := 64) (ci := 7) (kd := 27) (ct := ct) hx hb htb i_Md hown hK hP hO_2 (hA_2.m m0) rfl rfl 24 (by decide) (htb (.fieldLink R_Md 100 "WaterMenModel" "boatFrom" "[I") tw_512) (fun _ h9 => h9) rfl d_Md_boat_52 (fun q_14 e_14 m_14 => ?_)
          have hQ := hQ q_14 e_14
          refine lv_aload_n hx hb d_Md_boat_55 rfl (lv_at hl 0 rfl) ?_
          refine tw_getI (x := x_8) (D := (dC, dI)) (C := R_Md) (T := F_Md) (N := 64) (ci := 7) (kd := 27) (ct := ct) hx hb htb i_Md hown hK hP (hA_2.m m0) rfl rfl 21 ((hA_2.ei m0 rfl).trans e_8) (by decide) (htb (.fieldLink R_Md 206 "WaterMenModel" "boats" "I") tw_227) (fun _ h9 => h9) rfl d_Md_boat_56 ?_
          refine lv_iconst (v := 0) hx hb d_Md_boat_59 (by decide +kernel) ?_
          refine tw_astI (ct := ct) (x := 0) hx hb hK hP hD hS hO_2 m_14 rfl ((fun (a_0 : Int32) (k_0 : ¬ (a_0 < 0)) (k_1 : ¬ (20 < a_0)) (k_2 : ¬ (a_0 = 20)) => (show vp_in (a_0) 20 from by have z0 : (0 : Int32).toInt = 0 := (by decide +kernel); have z1 : (20 : Int32).toInt = 20 := (by decide +kernel); have r0 := fb_rng (a_0); have e0 := k_0; rw [Int32.lt_iff_toInt_lt, z0] at e0; have e1 := k_1; rw [Int32.lt_iff_toInt_lt, z1] at e1; have e2 := k_2; rw [← Int32.toInt_inj, z1] at e2; rw [vp_in_iff]; omega)) x_8 b_8.1 b_8.2 c_9) (i32_full _) d_Md_boat_60 (fun f_3 H locs hP hD hS hO_3 hE_3 w_15 ow_15 hF_3 => ?_)
          have hA_3 := hA_2.trans hE_3
          have hQ := hQ f_3 hF_3
          have hQ := hQ hO_3
          refine lv_aload_n hx hb d_Md_boat_61 rfl (lv_at hl 0 rfl) ?_
          refine tw_getr (D := (dC, dI)) (C := R_Md) (T := F_Md) (N := 64) (ci := 7) (kd := 27) (ct := ct) hx hb htb i_Md hown hK hP hO_3 (hA_3.m m0) rfl rfl 25 (by decide) (htb (.fieldLink R_Md 103 "WaterMenModel" "boatTrip" "[I") tw_228) (fun _ h9 => h9) rfl d_Md_boat_62 (fun q_16 e_16 m_16 => ?_)
          have hQ := hQ q_16 e_16
          refine lv_aload_n hx hb d_Md_boat_65 rfl (lv_at hl 0 rfl) ?_
          refine tw_getI (x := x_8) (D := (dC, dI)) (C := R_Md) (T := F_Md) (N := 64) (ci := 7) (kd := 27) (ct := ct) hx hb htb i_Md hown hK hP (hA_3.m m0) rfl rfl 21 ((hA_3.ei m0 rfl).trans e_8) (by decide) (htb (.fieldLink R_Md 206 "WaterMenModel" "boats" "I") tw_227) (fun _ h9 => h9) rfl d_Md_boat_66 ?_
          refine lv_iconst (v := (-1)) hx hb d_Md_boat_69 (by decide +kernel) ?_
          refine tw_astI (ct := ct) (x := (-1)) hx hb hK hP hD hS hO_3 m_16 rfl ((fun (a_0 : Int32) (k_0 : ¬ (a_0 < 0)) (k_1 : ¬ (20 < a_0)) (k_2 : ¬ (a_0 = 20)) => (show vp_in (a_0) 20 from by have z0 : (0 : Int32).toInt = 0 := (by decide +kernel); have z1 : (20 : Int32).toInt = 20 := (by decide +kernel); have r0 := fb_rng (a_0); have e0 := k_0; rw [Int32.lt_iff_toInt_lt, z0] at e0; have e1 := k_1; rw [Int32.lt_iff_toInt_lt, z1] at e1; have e2 := k_2; rw [← Int32.toInt_inj, z1] at e2; rw [vp_in_iff]; omega)) x_8 b_8.1 b_8.2 c_9) ⟨by decide +kernel, by decide +kernel⟩ d_Md_boat_70 (fun f_4 H locs hP hD hS hO_4 hE_4 w_17 ow_17 hF_4 => ?_)
          have hA_4 := hA_3.trans hE_4
          have hQ := hQ f_4 hF_4
          have hQ := hQ hO_4
          refine lv_aload_n hx hb d_Md_boat_71 rfl (lv_at hl 0 rfl) ?_
          refine lv_dup hx hb d_Md_boat_72 rfl ?_
          refine tw_getI (x := x_8) (D := (dC, dI)) (C := R_Md) (T := F_Md) (N := 64) (ci := 7) (kd := 27) (ct := ct) hx hb htb i_Md hown hK hP (hA_4.m m0) rfl rfl 21 ((hA_4.ei m0 rfl).trans e_8) (by decide) (htb (.fieldLink R_Md 206 "WaterMenModel" "boats" "I") tw_227) (fun _ h9 => h9) rfl d_Md_boat_73 ?_
          refine lv_iconst (v := 1) hx hb d_Md_boat_76 (by decide +kernel) ?_
          refine lv_iadd hx hb d_Md_boat_77 ?_
          refine tw_puti (v := (x_8 + 1)) (D := (dC, dI)) (C := R_Md) (T := F_Md) (N := 64) (ci := 7) (kd := 27) (ct := ct) (ty := .int) hx hb htb i_Md t_Md t_Md_ok n_Md hown hK hP hD hS hO_4 (hA_4.m m0) rfl rfl 21 (by decide) (htb (.fieldLink R_Md 206 "WaterMenModel" "boats" "I") tw_227) (fun _ h9 => h9) rfl (by decide +kernel) rfl rfl rfl ⟨(show ¬ ((x_8 + 1) < 0) from by have e0 := b_8.1; rw [Int32.lt_iff_toInt_lt] at e0; have e1 := b_8.2; rw [Int32.lt_iff_toInt_lt] at e1; have e2 := c_9; rw [← Int32.toInt_inj] at e2; have z0 : (0 : Int32).toInt = 0 := (by decide +kernel); have z1 : (1 : Int32).toInt = 1 := (by decide +kernel); have z2 : (20 : Int32).toInt = 20 := (by decide +kernel); have ss := fb_addI (x := x_8) (y := 1) (by omega) (by omega); rw [Int32.lt_iff_toInt_lt]; omega), (show ¬ (20 < (x_8 + 1)) from by have e0 := b_8.1; rw [Int32.lt_iff_toInt_lt] at e0; have e1 := b_8.2; rw [Int32.lt_iff_toInt_lt] at e1; have e2 := c_9; rw [← Int32.toInt_inj] at e2; have z0 : (0 : Int32).toInt = 0 := (by decide +kernel); have z1 : (1 : Int32).toInt = 1 := (by decide +kernel); have z2 : (20 : Int32).toInt = 20 := (by decide +kernel); have ss := fb_addI (x := x_8) (y := 1) (by omega) (by omega); rw [Int32.lt_iff_toInt_lt]; omega)⟩ d_Md_boat_78 (fun f_5 H locs hP hD hS hO_5 hE_5 w_18 hF_5 => ?_)
          have hA_5 := hA_4.trans hE_5
          have hQ := hQ f_5 hF_5
          have hQ := hQ hO_5
          refine lv_aload_n hx hb d_Md_boat_81 rfl (lv_at hl 0 rfl) ?_
          refine tw_getI (x := (x_8 + 1)) (D := (dC, dI)) (C := R_Md) (T := F_Md) (N := 64) (ci := 7) (kd := 27) (ct := ct) hx hb htb i_Md hown hK hP (hA_5.m m0) rfl rfl 21 w_18 (by decide) (htb (.fieldLink R_Md 206 "WaterMenModel" "boats" "I") tw_227) (fun _ h9 => h9) rfl d_Md_boat_82 ?_
          refine lv_iconst (v := 1) hx hb d_Md_boat_85 (by decide +kernel) ?_
          refine lv_isub hx hb d_Md_boat_86 ?_
          refine W.widen (k := 0) (n := 0) (Nat.le_of_ble_eq_true rfl) (Nat.le_of_ble_eq_true rfl) ?_
          exact W.iret (v := ((x_8 + 1) - 1)) hx hb hr (fun t ht hW => ⟨⟨((x_8 + 1) - 1), (L, f_5), rfl, ⟨hO_5, hA_5.mono (by decide +kernel), trivial, hQ⟩, by rw [ht]; exact hP, va_K.moved hW.alike hK, by rw [hAe]; exact hD⟩, by rw [hAe]; exact hS.F ht⟩) (by rw [hAe]; exact hS.2.2) d_Md_boat_87
        · have hQ := hQ.1 c_9
          refine lv_bipush (v := (-3)) hx hb d_Md_boat_28 (by decide +kernel) ?_
          refine W.widen (k := 0) (n := 0) (Nat.le_of_ble_eq_true rfl) (Nat.le_of_ble_eq_true rfl) ?_
          exact W.iret (v := (-3)) hx hb hr (fun t ht hW => ⟨⟨(-3), (L, f), rfl, ⟨hO_0, hA_0.mono (by decide +kernel), trivial, hQ⟩, by rw [ht]; exact hP, va_K.moved hW.alike hK, by rw [hAe]; exact hD⟩, by rw [hAe]; exact hS.F ht⟩) (by rw [hAe]; exact hS.2.2) d_Md_boat_30
def wp_WM_boatAt_w (L : List Nat) (f : TF) (q0 : Nat) (p_0 : Int32) (Q : Option Nat → Prop) : Prop := ((p_0 < 0 → Q none) ∧ (¬ (p_0 < 0) → ∀ x_2 : Int32, ti f q0 7 = x_2 → ((x_2 ≤ p_0 → Q none) ∧ (¬ (x_2 ≤ p_0) → ∀ q_4 : Nat, tr f q0 2 = some q_4 → ((tr f q_4 (p_0 : Int32).toNatClampNeg = none → Q none) ∧ (∀ q_5 : Nat, tr f q_4 (p_0 : Int32).toNatClampNeg = some q_5 → Q (some q_5)))))))
set_option maxHeartbeats 4000000 in
set_option maxRecDepth 100000 in
theorem c_WM_boatAt_w (l : Launch) (dC : Nat → ClassId) (dI : Nat → Nat → Nat) (ct : Nat → ClassId) (L : List Nat) (f : TF) (hO_0 : Ok L f) (q0 : Nat) (m0 : q0 ∈ L ∧ tk f q0 = 0) (p_0 : Int32)   (Q : Option Nat → Prop) (hQ : wp_WM_boatAt_w L f q0 p_0 Q) : Met l y_WM_boatAt (.code y_WM_boatAt b_WM_boatAt 2 (some (.object "WaterMen$Boat")) :: TB) ({ frames := 0, cells := 0, slots := 0, locals := 0 }) (va_Pc [.ref q0, .int p_0] (PR dC dI (TW ct L f) (TT ct))) (va_Sq (fun r => (r = none ∨ ∃ b, r = some b ∧ b ∈ L ∧ tk f b = 24) ∧ Q r)) 0 0 (fun _ => False) := by
  refine Met.ofW (cc := b_WM_boatAt) (maxL := 2) (ret := (some (.object "WaterMen$Boat"))) (by decide) rfl ?_
  intro p e s m args below meth c s₁ B hml hv
  obtain ⟨rfl, hP, hK, hN⟩ := hv
  have hx := B.exec
  have hb := B.bytes
  have hr := B.returns
  have hts := atoms_spec (ws := (.code y_WM_boatAt b_WM_boatAt 2 (some (.object "WaterMen$Boat")) :: TB)) B.pre
  have htb := fun w (h : w ∈ TB) => hts w (List.mem_cons_of_mem _ h)
  have hown : s.vm.findClass R_WM = some m.cls := findClass_of_methodNamed B.named
  have hlocks := B.notSynchronized
  have hl := lv_entry ([.ref q0, .int p_0]) (n := 2) (Nat.le_of_ble_eq_true rfl)
  rw [lg_entry_eq]
  generalize (lg_sl ([.ref q0, .int p_0]) ++ List.replicate (2 - (lg_sl ([.ref q0, .int p_0])).length) Slot.unset).toArray = ls at hl ⊢
  have hl : lv_has ls 2 [(0, .ref q0), (1, .int p_0)] := hl
  unfold wp_WM_boatAt_w at hQ
  refine lv_iload_n hx hb d_WM_boatAt_0 rfl (lv_at hl 1 rfl) ?_
  refine lv_if_lt (tgt := 21) hx hb d_WM_boatAt_1 (by decide) (fun c_1 => ?_) (fun c_1 => ?_)
  · have hQ := hQ.1 c_1
    refine lv_null hx hb d_WM_boatAt_21 ?_
    exact W.aret (v := .null) (rt := .object "WaterMen$Boat") hx hb hr (Or.inl ⟨_, rfl⟩) (Or.inl rfl) (fun t ht hW => ⟨none, rfl, ⟨Or.inl rfl, hQ⟩, ht⟩) t_nil d_WM_boatAt_22
  · have hQ := hQ.2 c_1
    refine lv_iload_n hx hb d_WM_boatAt_4 rfl (lv_at hl 1 rfl) ?_
    refine lv_aload_n hx hb d_WM_boatAt_5 rfl (lv_at hl 0 rfl) ?_
    refine tw_geti (D := (dC, dI)) (C := R_WM) (T := F_WM) (N := 13) (ci := 0) (kd := 0) (ct := ct) hx hb htb i_WM hown hK hP hO_0 m0 rfl rfl 7 (by decide) (htb (.fieldLink R_WM 170 "WaterMen" "boatCount" "I") tw_497) (fun _ h9 => h9) rfl d_WM_boatAt_6 (fun x_2 e_2 b_2 => ?_)
    have hQ := hQ x_2 e_2
    refine lv_icmp_ge (tgt := 21) hx hb d_WM_boatAt_9 (by decide) (fun c_3 => ?_) (fun c_3 => ?_)
    · have hQ := hQ.1 c_3
      refine lv_null hx hb d_WM_boatAt_21 ?_
      exact W.aret (v := .null) (rt := .object "WaterMen$Boat") hx hb hr (Or.inl ⟨_, rfl⟩) (Or.inl rfl) (fun t ht hW => ⟨none, rfl, ⟨Or.inl rfl, hQ⟩, ht⟩) t_nil d_WM_boatAt_22
    · have hQ := hQ.2 c_3
      refine lv_aload_n hx hb d_WM_boatAt_12 rfl (lv_at hl 0 rfl) ?_
      refine tw_getr (D := (dC, dI)) (C := R_WM) (T := F_WM) (N := 13) (ci := 0) (kd := 0) (ct := ct) hx hb htb i_WM hown hK hP hO_0 m0 rfl rfl 2 (by decide) (htb (.fieldLink R_WM 24 "WaterMen" "boats" "[LWaterMen$Boat;") tw_498) (fun _ h9 => h9) rfl d_WM_boatAt_13 (fun q_4 e_4 m_4 => ?_)
      have hQ := hQ q_4 e_4
      refine lv_iload_n hx hb d_WM_boatAt_16 rfl (lv_at hl 1 rfl) ?_
      refine tw_aldq (ct := ct) hx hb hK hP hO_0 m_4 rfl rfl ((fun (a_0 : Int32) (a_1 : Int32) (k_0 : ¬ (a_0 < 0)) (k_1 : ¬ (a_1 ≤ a_0)) (k_2 : ¬ (20 < a_1)) => (show vp_in (a_0) 20 from by have z0 : (0 : Int32).toInt = 0 := (by decide +kernel); have z1 : (20 : Int32).toInt = 20 := (by decide +kernel); have r0 := fb_rng (a_0); have r1 := fb_rng (a_1); have e0 := k_0; rw [Int32.lt_iff_toInt_lt, z0] at e0; have e1 := k_1; rw [Int32.le_iff_toInt_le] at e1; have e2 := k_2; rw [Int32.lt_iff_toInt_lt, z1] at e2; rw [vp_in_iff]; omega)) p_0 x_2 c_1 c_3 b_2.2) d_WM_boatAt_17 (fun e_5 => ?_) (fun q_5 e_5 m_5 => ?_)
      · have hQ := hQ.1 e_5
        refine lv_goto (tgt := 22) hx hb d_WM_boatAt_18 (by decide) ?_
        exact W.aret (v := .null) (rt := .object "WaterMen$Boat") hx hb hr (Or.inl ⟨_, rfl⟩) (Or.inl rfl) (fun t ht hW => ⟨none, rfl, ⟨Or.inl rfl, hQ⟩, ht⟩) t_nil d_WM_boatAt_22
      · have hQ := hQ.2 q_5 e_5
        refine lv_goto (tgt := 22) hx hb d_WM_boatAt_18 (by decide) ?_
        exact W.aret (v := .ref q_5) (rt := .object "WaterMen$Boat") hx hb hr (Or.inl ⟨_, rfl⟩) (Or.inr ⟨_, rfl⟩) (fun t ht hW => ⟨some q_5, rfl, ⟨Or.inr ⟨q_5, rfl, m_5⟩, hQ⟩, ht⟩) t_nil d_WM_boatAt_22
def wp_Bt_stateAt_w (L : List Nat) (f : TF) (q0 : Nat) (p_0 : Int32) (Q : Int32 → Prop) : Prop := ∀ x_1 : Int32, ti f q0 5 = x_1 → ((x_1 = 0 → ∀ x_3 : Int32, ti f q0 2 = x_3 → ((x_3 ≤ p_0 → Q 0) ∧ (¬ (x_3 ≤ p_0) → Q 1))) ∧ (¬ (x_1 = 0) → Q 2))
set_option maxHeartbeats 4000000 in
set_option maxRecDepth 100000 in
theorem c_Bt_stateAt_w (l : Launch) (dC : Nat → ClassId) (dI : Nat → Nat → Nat) (ct : Nat → ClassId) (L : List Nat) (f : TF) (hO_0 : Ok L f) (q0 : Nat) (m0 : q0 ∈ L ∧ tk f q0 = 24) (p_0 : Int32)   (Q : Int32 → Prop) (hQ : wp_Bt_stateAt_w L f q0 p_0 Q) : Met l y_Bt_stateAt (.code y_Bt_stateAt b_Bt_stateAt 2 (some .int) :: TB) ({ frames := 0, cells := 0, slots := 0, locals := 0 }) (va_Pc [.ref q0, .int p_0] (PR dC dI (TW ct L f) (TT ct))) (vp_Si (fun r => (True) ∧ Q r)) 0 0 (fun _ => False) := by
  refine Met.ofW (cc := b_Bt_stateAt) (maxL := 2) (ret := (some .int)) (by decide) rfl ?_
  intro p e s m args below meth c s₁ B hml hv
  obtain ⟨rfl, hP, hK, hN⟩ := hv
  have hx := B.exec
  have hb := B.bytes
  have hr := B.returns
  have hts := atoms_spec (ws := (.code y_Bt_stateAt b_Bt_stateAt 2 (some .int) :: TB)) B.pre
  have htb := fun w (h : w ∈ TB) => hts w (List.mem_cons_of_mem _ h)
  have hown : s.vm.findClass R_Bt = some m.cls := findClass_of_methodNamed B.named
  have hlocks := B.notSynchronized
  have hl := lv_entry ([.ref q0, .int p_0]) (n := 2) (Nat.le_of_ble_eq_true rfl)
  rw [lg_entry_eq]
  generalize (lg_sl ([.ref q0, .int p_0]) ++ List.replicate (2 - (lg_sl ([.ref q0, .int p_0])).length) Slot.unset).toArray = ls at hl ⊢
  have hl : lv_has ls 2 [(0, .ref q0), (1, .int p_0)] := hl
  unfold wp_Bt_stateAt_w at hQ
  refine lv_aload_n hx hb d_Bt_stateAt_0 rfl (lv_at hl 0 rfl) ?_
  refine tw_geti (D := (dC, dI)) (C := R_Bt) (T := F_Bt) (N := 6) (ci := 9) (kd := 24) (ct := ct) hx hb htb i_Bt hown hK hP hO_0 m0 rfl rfl 5 (by decide) (htb (.fieldLink R_Bt 24 "WaterMen$Boat" "sunk" "Z") tw_520) (fun _ h9 => h9) rfl d_Bt_stateAt_1 (fun x_1 e_1 b_1 => ?_)
  have hQ := hQ x_1 e_1
  refine lv_if_eq (tgt := 9) hx hb d_Bt_stateAt_4 (by decide) (fun c_2 => ?_) (fun c_2 => ?_)
  · have hQ := hQ.1 c_2
    refine lv_iload_n hx hb d_Bt_stateAt_9 rfl (lv_at hl 1 rfl) ?_
    refine lv_aload_n hx hb d_Bt_stateAt_10 rfl (lv_at hl 0 rfl) ?_
    refine tw_geti (D := (dC, dI)) (C := R_Bt) (T := F_Bt) (N := 6) (ci := 9) (kd := 24) (ct := ct) hx hb htb i_Bt hown hK hP hO_0 m0 rfl rfl 2 (by decide) (htb (.fieldLink R_Bt 28 "WaterMen$Boat" "thereFrom" "I") tw_521) (fun _ h9 => h9) rfl d_Bt_stateAt_11 (fun x_3 e_3 b_3 => ?_)
    have hQ := hQ x_3 e_3
    refine lv_icmp_ge (tgt := 21) hx hb d_Bt_stateAt_14 (by decide) (fun c_4 => ?_) (fun c_4 => ?_)
    · have hQ := hQ.1 c_4
      refine lv_iconst (v := 0) hx hb d_Bt_stateAt_21 (by decide +kernel) ?_
      exact W.iret (v := 0) hx hb hr (fun t ht hW => ⟨0, rfl, ⟨trivial, hQ⟩, ht⟩) t_nil d_Bt_stateAt_22
    · have hQ := hQ.2 c_4
      refine lv_iconst (v := 1) hx hb d_Bt_stateAt_17 (by decide +kernel) ?_
      refine lv_goto (tgt := 22) hx hb d_Bt_stateAt_18 (by decide) ?_
      exact W.iret (v := 1) hx hb hr (fun t ht hW => ⟨1, rfl, ⟨trivial, hQ⟩, ht⟩) t_nil d_Bt_stateAt_22
  · have hQ := hQ.2 c_2
    refine lv_iconst (v := 2) hx hb d_Bt_stateAt_7 (by decide +kernel) ?_
    exact W.iret (v := 2) hx hb hr (fun t ht hW => ⟨2, rfl, ⟨trivial, hQ⟩, ht⟩) t_nil d_Bt_stateAt_8
