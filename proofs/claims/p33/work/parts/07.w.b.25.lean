def W_Md_leave_w : List (Nat × Nat) := [(43, 1000), (44, 1000)]
def wp_Md_leave_w (L : List Nat) (f : TF) (q0 : Nat) (p_0 : Int32) (Q : Int32 → List Nat → TF → Prop) : Prop := ((p_0 < 0 → Q (-1) L f) ∧ (¬ (p_0 < 0) → ((39 < p_0 → Q (-1) L f) ∧ (¬ (39 < p_0) → wp_Md_rowOf_w L f q0 p_0 (fun (r_4 : Int32) => ((r_4 = (-1) → Q (-2) L f) ∧ (¬ (r_4 = (-1)) → wp_Md_leaves_w L f q0 p_0 (fun (L_1 : List Nat) (f_1 : TF) => Ok L_1 f_1 → Ext W_Md_leaves_w L f L_1 f_1 → Q 1 L_1 f_1))))))))
set_option maxHeartbeats 4000000 in
set_option maxRecDepth 100000 in
theorem c_Md_leave_w (l : Launch) (dC : Nat → ClassId) (dI : Nat → Nat → Nat) (ct : Nat → ClassId) (L : List Nat) (f : TF) (hO_0 : Ok L f) (q0 : Nat) (m0 : q0 ∈ L ∧ tk f q0 = 27) (hT : TInv f q0) (sz : Nat) (p_0 : Int32)   (Q : Int32 → List Nat → TF → Prop) (hQ : wp_Md_leave_w L f q0 p_0 Q) : Met l y_Md_leave (.code y_Md_leave b_Md_leave 2 (some .int) :: TB) ({ frames := 3, cells := 0, slots := 0, locals := 70 }) (va_Pc [.ref q0, .int p_0] (PC dC dI (TW ct L f) (TT ct) sz)) (va_Qi (fun r (u : TSt) => Ok u.1 u.2 ∧ Ext W_Md_leave_w L f u.1 u.2 ∧ TInv u.2 q0 ∧ (True) ∧ Q r u.1 u.2) (fun (u : TSt) t => va_P (dC, dI) vwCl (TW ct u.1 u.2) t.heap ∧ va_K (dC, dI) vwCl (TT ct) t ∧ va_D (va_A (TW ct L f) sz) (TW ct u.1 u.2)) (va_A (TW ct L f) sz)) 0 0 (va_A (TW ct L f) sz) := by
  refine Met.ofW (cc := b_Md_leave) (maxL := 2) (ret := (some .int)) (by decide) rfl ?_
  intro p e s m args below meth c s₁ B hml hv
  obtain ⟨rfl, hsz, hP, hK, hD0, hN⟩ := hv
  have hx := B.exec
  have hb := B.bytes
  have hr := B.returns
  have hts := atoms_spec (ws := (.code y_Md_leave b_Md_leave 2 (some .int) :: TB)) B.pre
  have htb := fun w (h : w ∈ TB) => hts w (List.mem_cons_of_mem _ h)
  have hown : s.vm.findClass R_Md = some m.cls := findClass_of_methodNamed B.named
  have hlocks := B.notSynchronized
  have hl := lv_entry ([.ref q0, .int p_0]) (n := 2) (Nat.le_of_ble_eq_true rfl)
  rw [lg_entry_eq]
  generalize (lg_sl ([.ref q0, .int p_0]) ++ List.replicate (2 - (lg_sl ([.ref q0, .int p_0])).length) Slot.unset).toArray = ls at hl ⊢
  have hl : lv_has ls 2 [(0, .ref q0), (1, .int p_0)] := hl
  subst hsz
  have hD := hD0.self (sz := s.heap.size)
  obtain ⟨A, hAe⟩ : ∃ A, va_A (TW ct L f) s.heap.size = A := ⟨_, rfl⟩
  rw [hAe] at hD
  have hA : ∀ q : Nat, s.heap.size ≤ q → A q := fun q h => by rw [← hAe]; exact Or.inr h
  have hS : va_S A s.heap s.heap [] := va_S.rf
  have hA_0 : Ext [] L f L f := Ext.rf
  suffices hGo : ∀ (H : Heap) (locs : List Loc), va_P (dC, dI) vwCl (TW ct L f) H → va_S A s.heap H locs → W p l e (headSpec (.code y_Md_leave b_Md_leave 2 (some .int) :: TB) ({ frames := 3, cells := 0, slots := 0, locals := 70 })).room s m [.ref q0, .int p_0].toArray below meth c H locs 0 0 (MQ below (va_Qi (fun r (u : TSt) => Ok u.1 u.2 ∧ Ext W_Md_leave_w L f u.1 u.2 ∧ TInv u.2 q0 ∧ (True) ∧ Q r u.1 u.2) (fun (u : TSt) t => va_P (dC, dI) vwCl (TW ct u.1 u.2) t.heap ∧ va_K (dC, dI) vwCl (TT ct) t ∧ va_D (va_A (TW ct L f) s.heap.size) (TW ct u.1 u.2)) (va_A (TW ct L f) s.heap.size)) [.ref q0, .int p_0].toArray s 0 0 (va_A (TW ct L f) s.heap.size)) (F0 m 0 ls []) from hGo _ _ hP hS
  clear hP hS
  intro H locs hP hS
  unfold wp_Md_leave_w at hQ
  refine lv_iload_n hx hb d_Md_leave_0 rfl (lv_at hl 1 rfl) ?_
  refine vp_callSi (va_Run.run (va_runS (As := [.int p_0]) (rest := []) ⟨hx, hb, hml, hown, htb⟩ (c_Md_isMan l p_0) (cwS 1 htb (gd_S tw_93 tw_94 tw_89 tw_92) rfl rfl rfl (by decide +kernel) ⟨Nat.le_of_ble_eq_true rfl, Nat.le_of_ble_eq_true rfl⟩) ⟨fun _ _ _ _ h => h, fun U _ _ => ⟨rfl, trivial⟩⟩ rfl rfl hl.1 rfl (lv_room (Nat.le_of_ble_eq_true rfl)) d_Md_leave_1 ⟨Nat.le_of_ble_eq_true rfl, Nat.le_of_ble_eq_true rfl⟩)) (fun r er => ?_)
  subst er
  by_cases c_2 : p_0 < 0
  · have hQ := hQ.1 c_2
    refine hb_ti 0 (by unfold f_Md_isMan; rw [if_pos c_2]; first | done | rfl) ?_
    refine lv_if_ne (tgt := 9) hx hb d_Md_leave_4 (by decide) (fun h => absurd (by decide +kernel) h) (fun _ => ?_)
    refine lv_iconst (v := (-1)) hx hb d_Md_leave_7 (by decide +kernel) ?_
    refine W.widen (k := 0) (n := 0) (Nat.le_of_ble_eq_true rfl) (Nat.le_of_ble_eq_true rfl) ?_
    exact W.iret (v := (-1)) hx hb hr (fun t ht hW => ⟨⟨(-1), (L, f), rfl, ⟨hO_0, hA_0.mono (by decide +kernel), hT, trivial, hQ⟩, by rw [ht]; exact hP, va_K.moved hW.alike hK, by rw [hAe]; exact hD⟩, by rw [hAe]; exact hS.F ht⟩) (by rw [hAe]; exact hS.2.2) d_Md_leave_8
  · have hQ := hQ.2 c_2
    by_cases c_3 : 39 < p_0
    · have hQ := hQ.1 c_3
      refine hb_ti 0 (by unfold f_Md_isMan; rw [if_neg c_2, if_pos c_3]; first | done | rfl) ?_
      refine lv_if_ne (tgt := 9) hx hb d_Md_leave_4 (by decide) (fun h => absurd (by decide +kernel) h) (fun _ => ?_)
      refine lv_iconst (v := (-1)) hx hb d_Md_leave_7 (by decide +kernel) ?_
      refine W.widen (k := 0) (n := 0) (Nat.le_of_ble_eq_true rfl) (Nat.le_of_ble_eq_true rfl) ?_
      exact W.iret (v := (-1)) hx hb hr (fun t ht hW => ⟨⟨(-1), (L, f), rfl, ⟨hO_0, hA_0.mono (by decide +kernel), hT, trivial, hQ⟩, by rw [ht]; exact hP, va_K.moved hW.alike hK, by rw [hAe]; exact hD⟩, by rw [hAe]; exact hS.F ht⟩) (by rw [hAe]; exact hS.2.2) d_Md_leave_8
    · have hQ := hQ.2 c_3
      refine hb_ti 1 (by unfold f_Md_isMan; rw [if_neg c_2, if_neg c_3]; first | done | rfl) ?_
      refine lv_if_ne (tgt := 9) hx hb d_Md_leave_4 (by decide) (fun _ => ?_) (fun h => absurd h (by decide +kernel))
      refine lv_aload_n hx hb d_Md_leave_9 rfl (lv_at hl 0 rfl) ?_
      refine lv_iload_n hx hb d_Md_leave_10 rfl (lv_at hl 1 rfl) ?_
      refine vp_callSi (va_Run.run (va_runV (As := [.int p_0]) (rest := []) ⟨hx, hb, hml, hown, htb⟩ (c_Md_rowOf_w l dC dI ct L f hO_0 q0 m0 p_0 _ hQ) (cwV 1 htb (gd_V tw_101 tw_102 tw_103 tw_89 tw_100) rfl rfl rfl (by decide +kernel) ⟨Nat.le_of_ble_eq_true rfl, Nat.le_of_ble_eq_true rfl⟩) ⟨pr_blind, tw_recv hK hP m0 rfl rfl, pr_pre hP hK hN⟩ rfl rfl hl.1 rfl (lv_room (Nat.le_of_ble_eq_true rfl)) d_Md_leave_11 ⟨Nat.le_of_ble_eq_true rfl, Nat.le_of_ble_eq_true rfl⟩)) (fun r_4 er_4 => ?_)
      obtain ⟨er_4, hQ⟩ := er_4
      rcases er_4 with ⟨rfl, ra_5, -⟩ | ⟨po_6, po_7, po_8, ra_9, -⟩
      · have hQ := hQ.1 rfl
        refine lv_if_ge (tgt := 20) hx hb d_Md_leave_14 (by decide) (fun h => absurd h (by decide +kernel)) (fun _ => ?_)
        refine lv_bipush (v := (-2)) hx hb d_Md_leave_17 (by decide +kernel) ?_
        refine W.widen (k := 0) (n := 0) (Nat.le_of_ble_eq_true rfl) (Nat.le_of_ble_eq_true rfl) ?_
        exact W.iret (v := (-2)) hx hb hr (fun t ht hW => ⟨⟨(-2), (L, f), rfl, ⟨hO_0, hA_0.mono (by decide +kernel), hT, trivial, hQ⟩, by rw [ht]; exact hP, va_K.moved hW.alike hK, by rw [hAe]; exact hD⟩, by rw [hAe]; exact hS.F ht⟩) (by rw [hAe]; exact hS.2.2) d_Md_leave_19
      · have hQ := hQ.2 (fun e9 => po_6 (by rw [e9]; decide))
        refine lv_if_ge (tgt := 20) hx hb d_Md_leave_14 (by decide) (fun _ => ?_) (fun h => absurd (show 0 ≤ r_4 from by have e0 := po_6; rw [Int32.lt_iff_toInt_lt] at e0; have e1 := po_7; rw [Int32.lt_iff_toInt_lt] at e1; have z0 : (0 : Int32).toInt = 0 := (by decide +kernel); have z1 : (11 : Int32).toInt = 11 := (by decide +kernel); rw [Int32.le_iff_toInt_le]; omega) h)
        refine lv_aload_n hx hb d_Md_leave_20 rfl (lv_at hl 0 rfl) ?_
        refine lv_iload_n hx hb d_Md_leave_21 rfl (lv_at hl 1 rfl) ?_
        have hFc := hb_free hD hS hA
        refine va_callv (va_runV (As := [.int p_0]) (rest := []) ⟨hx, hb, hml, hown, htb⟩ (c_Md_leaves_w l dC dI ct L f hO_0 q0 m0 hT _ p_0 _ hQ) (cwV 1 htb (gd_V tw_534 tw_535 tw_536 tw_89 tw_533) rfl rfl rfl (by decide +kernel) ⟨Nat.le_of_ble_eq_true rfl, Nat.le_of_ble_eq_true rfl⟩) ⟨pc_blind, tw_recv hK hP m0 rfl rfl, pc_pre hP hK hD hN⟩ rfl rfl hl.1 rfl (lv_room (Nat.le_of_ble_eq_true rfl)) d_Md_leave_22 ⟨Nat.le_of_ble_eq_true rfl, Nat.le_of_ble_eq_true rfl⟩) hS (fun q _ h => hFc q h) hFc (fun u t H locs ht hvm er hB hz1 hk1 hS => ?_)
        obtain ⟨L_1, f_1⟩ := u
        obtain ⟨hO_1, hE_1, hT_1, er, hQ⟩ := er
        obtain ⟨hP, hK1, hD1⟩ := hB
        rw [ht] at hP
        have hP : va_P (dC, dI) vwCl (TW ct L_1 f_1) H := hP
        have hD : va_D A (TW ct L_1 f_1) := hD1.weaken (fun _ q _ h => hFc q.1 h)
        have hO_1 : Ok L_1 f_1 := hO_1
        have hE_1 : Ext W_Md_leaves_w L f L_1 f_1 := hE_1
        clear hK1 hD1 ht hvm hz1 hk1
        have hA_1 := hA_0.trans hE_1
        have hQ := hQ hO_1 hE_1
        clear er
        refine lv_iconst (v := 1) hx hb d_Md_leave_25 (by decide +kernel) ?_
        refine W.widen (k := 0) (n := 0) (Nat.le_of_ble_eq_true rfl) (Nat.le_of_ble_eq_true rfl) ?_
        exact W.iret (v := 1) hx hb hr (fun t ht hW => ⟨⟨1, (L_1, f_1), rfl, ⟨hO_1, hA_1.mono (by decide +kernel), hT_1, trivial, hQ⟩, by rw [ht]; exact hP, va_K.moved hW.alike hK, by rw [hAe]; exact hD⟩, by rw [hAe]; exact hS.F ht⟩) (by rw [hAe]; exact hS.2.2) d_Md_leave_26
def wp_WM_mayGoTo_w (L : List Nat) (f : TF) (q0 : Nat) (pq_0 : Nat) (p_1 : Int32) (Q : Int32 → Prop) : Prop := ∀ x_1 : Int32, ti f pq_0 5 = x_1 → ((x_1 = 0 → ∀ q_3 : Nat, tr f q0 0 = some q_3 → wp_Rv_hasStairs_w L f q_3 p_1 (fun (r_4 : Int32) => ((r_4 = 0 → Q 0) ∧ (r_4 = 1 → ∀ x_7 : Int32, ti f pq_0 1 = x_7 → ((p_1 = x_7 → Q 0) ∧ (¬ (p_1 = x_7) → Q 1)))))) ∧ (¬ (x_1 = 0) → Q 0))
set_option maxHeartbeats 4000000 in
set_option maxRecDepth 100000 in
theorem c_WM_mayGoTo_w (l : Launch) (dC : Nat → ClassId) (dI : Nat → Nat → Nat) (ct : Nat → ClassId) (L : List Nat) (f : TF) (hO_0 : Ok L f) (q0 : Nat) (m0 : q0 ∈ L ∧ tk f q0 = 0) (pq_0 : Nat) (pm_0 : pq_0 ∈ L ∧ tk f pq_0 = 24) (p_1 : Int32)   (Q : Int32 → Prop) (hQ : wp_WM_mayGoTo_w L f q0 pq_0 p_1 Q) : Met l y_WM_mayGoTo (.code y_WM_mayGoTo b_WM_mayGoTo 3 (some .boolean) :: TB) ({ frames := 1, cells := 0, slots := 0, locals := 21 }) (va_Pc [.ref q0, .ref pq_0, .int p_1] (PR dC dI (TW ct L f) (TT ct))) (vp_Si (fun r => ((r = 0 ∧ True) ∨ (r = 1 ∧ ¬ (p_1 < 0) ∧ ¬ (11 < p_1) ∧ True)) ∧ Q r)) 0 0 (fun _ => False) := by
  refine Met.ofW (cc := b_WM_mayGoTo) (maxL := 3) (ret := (some .boolean)) (by decide) rfl ?_
  intro p e s m args below meth c s₁ B hml hv
  obtain ⟨rfl, hP, hK, hN⟩ := hv
  have hx := B.exec
  have hb := B.bytes
  have hr := B.returns
  have hts := atoms_spec (ws := (.code y_WM_mayGoTo b_WM_mayGoTo 3 (some .boolean) :: TB)) B.pre
  have htb := fun w (h : w ∈ TB) => hts w (List.mem_cons_of_mem _ h)
  have hown : s.vm.findClass R_WM = some m.cls := findClass_of_methodNamed B.named
  have hlocks := B.notSynchronized
  have hl := lv_entry ([.ref q0, .ref pq_0, .int p_1]) (n := 3) (Nat.le_of_ble_eq_true rfl)
  rw [lg_entry_eq]
  generalize (lg_sl ([.ref q0, .ref pq_0, .int p_1]) ++ List.replicate (3 - (lg_sl ([.ref q0, .ref pq_0, .int p_1])).length) Slot.unset).toArray = ls at hl ⊢
  have hl : lv_has ls 3 [(0, .ref q0), (1, .ref pq_0), (2, .int p_1)] := hl
  unfold wp_WM_mayGoTo_w at hQ
  refine lv_aload_n hx hb d_WM_mayGoTo_0 rfl (lv_at hl 1 rfl) ?_
  refine tw_geti (D := (dC, dI)) (C := R_Bt) (T := F_Bt) (N := 6) (ci := 9) (kd := 24) (ct := ct) hx hb htb i_Bt hown hK hP hO_0 pm_0 rfl rfl 5 (by decide) (htb (.fieldLink R_WM 283 "WaterMen$Boat" "sunk" "Z") tw_537) (fun _ h9 => h9) rfl d_WM_mayGoTo_1 (fun x_1 e_1 b_1 => ?_)
  have hQ := hQ x_1 e_1
  refine lv_if_ne (tgt := 30) hx hb d_WM_mayGoTo_4 (by decide) (fun c_2 => ?_) (fun c_2 => ?_)
  · have hQ := hQ.2 c_2
    refine lv_iconst (v := 0) hx hb d_WM_mayGoTo_30 (by decide +kernel) ?_
    exact W.zret (v := 0) hx hb hr (by decide +kernel) (fun t ht hW => ⟨0, rfl, ⟨(Or.inl ⟨rfl, trivial⟩), hQ⟩, ht⟩) t_nil d_WM_mayGoTo_31
  · have hQ := hQ.1 c_2
    refine lv_aload_n hx hb d_WM_mayGoTo_7 rfl (lv_at hl 0 rfl) ?_
    refine tw_getr (D := (dC, dI)) (C := R_WM) (T := F_WM) (N := 13) (ci := 0) (kd := 0) (ct := ct) hx hb htb i_WM hown hK hP hO_0 m0 rfl rfl 0 (by decide) (htb (.fieldLink R_WM 12 "WaterMen" "river" "LWaterMen$River;") tw_135) (fun _ h9 => h9) rfl d_WM_mayGoTo_8 (fun q_3 e_3 m_3 => ?_)
    have hQ := hQ q_3 e_3
    refine lv_iload_n hx hb d_WM_mayGoTo_11 rfl (lv_at hl 2 rfl) ?_
    refine vp_callSi (va_Run.run (va_runV (As := [.int p_1]) (rest := []) ⟨hx, hb, hml, hown, htb⟩ (c_Rv_hasStairs_w l dC dI ct L f hO_0 q_3 m_3 p_1 _ hQ) (cwV 1 htb (gd_V tw_398 tw_399 tw_400 tw_140 tw_397) rfl rfl rfl (by decide +kernel) ⟨Nat.le_of_ble_eq_true rfl, Nat.le_of_ble_eq_true rfl⟩) ⟨pr_blind, tw_recv hK hP m_3 rfl rfl, pr_pre hP hK hN⟩ rfl rfl hl.1 rfl (lv_room (Nat.le_of_ble_eq_true rfl)) d_WM_mayGoTo_12 ⟨Nat.le_of_ble_eq_true rfl, Nat.le_of_ble_eq_true rfl⟩)) (fun r_4 er_4 => ?_)
    obtain ⟨er_4, hQ⟩ := er_4
    rcases er_4 with ⟨rfl, -⟩ | ⟨rfl, po_5, po_6, -⟩
    · have hQ := hQ.1 rfl
      refine lv_if_eq (tgt := 30) hx hb d_WM_mayGoTo_15 (by decide) (fun _ => ?_) (fun h => absurd (by decide +kernel) h)
      refine lv_iconst (v := 0) hx hb d_WM_mayGoTo_30 (by decide +kernel) ?_
      exact W.zret (v := 0) hx hb hr (by decide +kernel) (fun t ht hW => ⟨0, rfl, ⟨(Or.inl ⟨rfl, trivial⟩), hQ⟩, ht⟩) t_nil d_WM_mayGoTo_31
    · have hQ := hQ.2 rfl
      refine lv_if_eq (tgt := 30) hx hb d_WM_mayGoTo_15 (by decide) (fun h => absurd h (by decide +kernel)) (fun _ => ?_)
      refine lv_iload_n hx hb d_WM_mayGoTo_18 rfl (lv_at hl 2 rfl) ?_
      refine lv_aload_n hx hb d_WM_mayGoTo_19 rfl (lv_at hl 1 rfl) ?_
      refine tw_geti (D := (dC, dI)) (C := R_Bt) (T := F_Bt) (N := 6) (ci := 9) (kd := 24) (ct := ct) hx hb htb i_Bt hown hK hP hO_0 pm_0 rfl rfl 1 (by decide) (htb (.fieldLink R_WM 178 "WaterMen$Boat" "stairs" "I") tw_517) (fun _ h9 => h9) rfl d_WM_mayGoTo_20 (fun x_7 e_7 b_7 => ?_)
      have hQ := hQ x_7 e_7
      refine lv_icmp_eq (tgt := 30) hx hb d_WM_mayGoTo_23 (by decide) (fun c_8 => ?_) (fun c_8 => ?_)
      · have hQ := hQ.1 c_8
        refine lv_iconst (v := 0) hx hb d_WM_mayGoTo_30 (by decide +kernel) ?_
        exact W.zret (v := 0) hx hb hr (by decide +kernel) (fun t ht hW => ⟨0, rfl, ⟨(Or.inl ⟨rfl, trivial⟩), hQ⟩, ht⟩) t_nil d_WM_mayGoTo_31
      · have hQ := hQ.2 c_8
        refine lv_iconst (v := 1) hx hb d_WM_mayGoTo_26 (by decide +kernel) ?_
        refine lv_goto (tgt := 31) hx hb d_WM_mayGoTo_27 (by decide) ?_
        exact W.zret (v := 1) hx hb hr (by decide +kernel) (fun t ht hW => ⟨1, rfl, ⟨(Or.inr ⟨rfl, po_5, po_6, trivial⟩), hQ⟩, ht⟩) t_nil d_WM_mayGoTo_31
def wpB_WM_hasTurns_w_2_1 (L : List Nat) (f : TF) (q0 : Nat) (p_0 : Int32) (Q : Int32 → Prop) (rec_1 : Int32 → Prop) (v2_1 : Int32) : Prop := ((40 ≤ v2_1 → Q 0) ∧ (¬ (40 ≤ v2_1) → ∀ q_3 : Nat, tr f q0 1 = some q_3 → ((tr f q_3 (v2_1 : Int32).toNatClampNeg = none → rec_1 (v2_1 + 1)) ∧ (∀ q_4 : Nat, tr f q_3 (v2_1 : Int32).toNatClampNeg = some q_4 → ∀ x_5 : Int32, ti f q_4 2 = x_5 → ((x_5 = p_0 → Q 1) ∧ (¬ (x_5 = p_0) → rec_1 (v2_1 + 1)))))))
def wpL_WM_hasTurns_w_2_1 (L : List Nat) (f : TF) (q0 : Nat) (p_0 : Int32) (Q : Int32 → Prop) : Nat → Int32 → Prop
  | 0 => fun v2_1 => wpB_WM_hasTurns_w_2_1 L f q0 p_0 Q (fun _ => True) v2_1
  | n + 1 => fun v2_1 => wpB_WM_hasTurns_w_2_1 L f q0 p_0 Q (wpL_WM_hasTurns_w_2_1 L f q0 p_0 Q n) v2_1
def wpR_WM_hasTurns_w_2_1 (L : List Nat) (f : TF) (q0 : Nat) (p_0 : Int32) (Q : Int32 → Prop) : Nat → Int32 → Prop
  | 0 => fun _ => True
  | n + 1 => wpL_WM_hasTurns_w_2_1 L f q0 p_0 Q n
theorem wpL_WM_hasTurns_w_2_1_eq {L : List Nat} {f : TF} {q0 : Nat} {p_0 : Int32} {Q : Int32 → Prop} {n : Nat} : wpL_WM_hasTurns_w_2_1 L f q0 p_0 Q n = wpB_WM_hasTurns_w_2_1 L f q0 p_0 Q (wpR_WM_hasTurns_w_2_1 L f q0 p_0 Q n) := by cases n <;> rfl
theorem wpR_WM_hasTurns_w_2_1_pos {L : List Nat} {f : TF} {q0 : Nat} {p_0 : Int32} {Q : Int32 → Prop} {n : Nat} (h : 0 < n) : wpR_WM_hasTurns_w_2_1 L f q0 p_0 Q n = wpL_WM_hasTurns_w_2_1 L f q0 p_0 Q (n - 1) := by
  cases n with
  | zero => omega
  | succ n => rfl
def wp_WM_hasTurns_w (L : List Nat) (f : TF) (q0 : Nat) (p_0 : Int32) (Q : Int32 → Prop) : Prop := wpL_WM_hasTurns_w_2_1 L f q0 p_0 Q (((40 : Int32).toInt - (0 : Int32).toInt).toNat) (0 : Int32)
set_option maxHeartbeats 4000000 in
set_option maxRecDepth 100000 in
theorem c_WM_hasTurns_w (l : Launch) (dC : Nat → ClassId) (dI : Nat → Nat → Nat) (ct : Nat → ClassId) (L : List Nat) (f : TF) (hO_0 : Ok L f) (q0 : Nat) (m0 : q0 ∈ L ∧ tk f q0 = 0) (p_0 : Int32)   (Q : Int32 → Prop) (hQ : wp_WM_hasTurns_w L f q0 p_0 Q) : Met l y_WM_hasTurns (.code y_WM_hasTurns b_WM_hasTurns 4 (some .boolean) :: TB) ({ frames := 0, cells := 0, slots := 0, locals := 0 }) (va_Pc [.ref q0, .int p_0] (PR dC dI (TW ct L f) (TT ct))) (vp_Si (fun r => ((r = 0 ∧ True) ∨ (r = 1 ∧ True)) ∧ Q r)) 0 0 (fun _ => False) := by
  refine Met.ofW (cc := b_WM_hasTurns) (maxL := 4) (ret := (some .boolean)) (by decide) rfl ?_
  intro p e s m args below meth c s₁ B hml hv
  obtain ⟨rfl, hP, hK, hN⟩ := hv
  have hx := B.exec
  have hb := B.bytes
  have hr := B.returns
  have hts := atoms_spec (ws := (.code y_WM_hasTurns b_WM_hasTurns 4 (some .boolean) :: TB)) B.pre
  have htb := fun w (h : w ∈ TB) => hts w (List.mem_cons_of_mem _ h)
  have hown : s.vm.findClass R_WM = some m.cls := findClass_of_methodNamed B.named
  have hlocks := B.notSynchronized
  have hl := lv_entry ([.ref q0, .int p_0]) (n := 4) (Nat.le_of_ble_eq_true rfl)
  rw [lg_entry_eq]
  generalize (lg_sl ([.ref q0, .int p_0]) ++ List.replicate (4 - (lg_sl ([.ref q0, .int p_0])).length) Slot.unset).toArray = ls at hl ⊢
  have hl : lv_has ls 4 [(0, .ref q0), (1, .int p_0)] := hl
  unfold wp_WM_hasTurns_w at hQ
  refine lv_iconst (v := 0) hx hb d_WM_hasTurns_0 (by decide +kernel) ?_
  refine lv_istore_n (lv' := [(2, .int 0), (0, .ref q0), (1, .int p_0)]) hx hb d_WM_hasTurns_1 rfl hl (by decide) rfl (fun ls hl => ?_)
  have cut_1 : ∀ (n_1 : Nat) (v2_1 : Int32) (ls : Array Slot), ¬ (v2_1 < 0) → ¬ (40 < v2_1) → (40 : Int32).toInt - (v2_1 : Int32).toInt ≤ (n_1 : Int) → wpL_WM_hasTurns_w_2_1 L f q0 p_0 Q n_1 v2_1 → lv_has ls 4 [(0, .ref q0), (1, .int p_0), (2, .int v2_1)] → W p l e (headSpec (.code y_WM_hasTurns b_WM_hasTurns 4 (some .boolean) :: TB) ({ frames := 0, cells := 0, slots := 0, locals := 0 })).room s m [.ref q0, .int p_0].toArray below meth c s.heap [] 0 0 (MQ below (vp_Si (fun r => ((r = 0 ∧ True) ∨ (r = 1 ∧ True)) ∧ Q r)) [.ref q0, .int p_0].toArray s 0 0 (fun _ => False)) (F0 m 2 ls []) := by
    intro n_1
    induction n_1 using Nat.strongRecOn with
    | _ n_1 ih_1 =>
      intro v2_1 ls iv0_1 iv1_1 hm_1 hQ hl
      rw [wpL_WM_hasTurns_w_2_1_eq] at hQ
      obtain ⟨rec_1, hrec_1⟩ : ∃ g, wpR_WM_hasTurns_w_2_1 L f q0 p_0 Q n_1 = g := ⟨_, rfl⟩
      rw [hrec_1] at hQ
      unfold wpB_WM_hasTurns_w_2_1 at hQ
      refine lv_iload_n hx hb d_WM_hasTurns_2 rfl (lv_at hl 2 rfl) ?_
      refine lv_bipush (v := 40) hx hb d_WM_hasTurns_3 (by decide +kernel) ?_
      refine lv_icmp_ge (tgt := 35) hx hb d_WM_hasTurns_5 (by decide) (fun c_2 => ?_) (fun c_2 => ?_)
      · have hQ := hQ.1 c_2
        refine lv_iconst (v := 0) hx hb d_WM_hasTurns_35 (by decide +kernel) ?_
        exact W.zret (v := 0) hx hb hr (by decide +kernel) (fun t ht hW => ⟨0, rfl, ⟨(Or.inl ⟨rfl, trivial⟩), hQ⟩, ht⟩) t_nil d_WM_hasTurns_36
      · have hQ := hQ.2 c_2
        refine lv_aload_n hx hb d_WM_hasTurns_8 rfl (lv_at hl 0 rfl) ?_
        refine tw_getr (D := (dC, dI)) (C := R_WM) (T := F_WM) (N := 13) (ci := 0) (kd := 0) (ct := ct) hx hb htb i_WM hown hK hP hO_0 m0 rfl rfl 1 (by decide) (htb (.fieldLink R_WM 18 "WaterMen" "men" "[LWaterMen$Man;") tw_24) (fun _ h9 => h9) rfl d_WM_hasTurns_9 (fun q_3 e_3 m_3 => ?_)
        have hQ := hQ q_3 e_3
        refine lv_iload_n hx hb d_WM_hasTurns_12 rfl (lv_at hl 2 rfl) ?_
        refine tw_aldq (ct := ct) hx hb hK hP hO_0 m_3 rfl rfl (hb_in iv0_1 c_2 (by decide +kernel)) d_WM_hasTurns_13 (fun e_4 => ?_) (fun q_4 e_4 m_4 => ?_)
        · have hQ := hQ.1 e_4
          refine lv_astore_nN (lv' := [(3, .null), (0, .ref q0), (1, .int p_0), (2, .int v2_1)]) hx hb d_WM_hasTurns_14 rfl hl (by decide) rfl (fun ls hl => ?_)
          refine lv_aload_nN hx hb d_WM_hasTurns_15 rfl (lv_at hl 0 rfl) ?_
          refine lv_ifnullN (tgt := 29) hx hb d_WM_hasTurns_16 (by decide) ?_
          refine lv_iinc (v := (v2_1 + 1)) (lv' := [(2, .int (v2_1 + 1)), (3, .null), (0, .ref q0), (1, .int p_0)]) hx hb d_WM_hasTurns_29 hl (k := 3) rfl rfl (by decide) rfl (fun ls hl => ?_)
          refine lv_goto (tgt := 2) hx hb d_WM_hasTurns_32 (by decide) ?_
          exact ih_1 (n_1 - 1) (ms_1 ((fun (a_0 : Int32) (k_0 : ¬ (40 ≤ a_0)) => (show 1 ≤ (40 : Int32).toInt - (a_0).toInt ∧ (40 : Int32).toInt - ((a_0) + (1 : Int32)).toInt + 1 ≤ (40 : Int32).toInt - (a_0).toInt from by have z0 : (1 : Int32).toInt = 1 := (by decide +kernel); have z1 : (40 : Int32).toInt = 40 := (by decide +kernel); have r0 := fb_rng (a_0); have e0 := k_0; rw [Int32.le_iff_toInt_le, z1] at e0; obtain ⟨n_0, hn_0, s0⟩ := nd_add (x := (a_0)) (y := (1 : Int32)) (by (try rw [z0]); omega) (by (try rw [z0]); omega); rw [z0] at s0; rw [hn_0]; (try rw [z1]); omega)) v2_1 c_2) hm_1) (v2_1 + 1) _ (show ¬ ((v2_1 + 1) < 0) from by have e0 := iv0_1; rw [Int32.lt_iff_toInt_lt] at e0; have e1 := c_2; rw [Int32.le_iff_toInt_le] at e1; have z0 : (0 : Int32).toInt = 0 := (by decide +kernel); have z1 : (1 : Int32).toInt = 1 := (by decide +kernel); have z2 : (40 : Int32).toInt = 40 := (by decide +kernel); have ss := fb_addI (x := v2_1) (y := 1) (by omega) (by omega); rw [Int32.lt_iff_toInt_lt]; omega) (show ¬ (40 < (v2_1 + 1)) from by have e0 := iv0_1; rw [Int32.lt_iff_toInt_lt] at e0; have e1 := c_2; rw [Int32.le_iff_toInt_le] at e1; have z0 : (0 : Int32).toInt = 0 := (by decide +kernel); have z1 : (1 : Int32).toInt = 1 := (by decide +kernel); have z2 : (40 : Int32).toInt = 40 := (by decide +kernel); have ss := fb_addI (x := v2_1) (y := 1) (by omega) (by omega); rw [Int32.lt_iff_toInt_lt]; omega) (by exact ms_2 ((fun (a_0 : Int32) (k_0 : ¬ (40 ≤ a_0)) => (show 1 ≤ (40 : Int32).toInt - (a_0).toInt ∧ (40 : Int32).toInt - ((a_0) + (1 : Int32)).toInt + 1 ≤ (40 : Int32).toInt - (a_0).toInt from by have z0 : (1 : Int32).toInt = 1 := (by decide +kernel); have z1 : (40 : Int32).toInt = 40 := (by decide +kernel); have r0 := fb_rng (a_0); have e0 := k_0; rw [Int32.le_iff_toInt_le, z1] at e0; obtain ⟨n_0, hn_0, s0⟩ := nd_add (x := (a_0)) (y := (1 : Int32)) (by (try rw [z0]); omega) (by (try rw [z0]); omega); rw [z0] at s0; rw [hn_0]; (try rw [z1]); omega)) v2_1 c_2) hm_1) (by rw [← hrec_1, wpR_WM_hasTurns_w_2_1_pos (ms_3 ((fun (a_0 : Int32) (k_0 : ¬ (40 ≤ a_0)) => (show 1 ≤ (40 : Int32).toInt - (a_0).toInt ∧ (40 : Int32).toInt - ((a_0) + (1 : Int32)).toInt + 1 ≤ (40 : Int32).toInt - (a_0).toInt from by have z0 : (1 : Int32).toInt = 1 := (by decide +kernel); have z1 : (40 : Int32).toInt = 40 := (by decide +kernel); have r0 := fb_rng (a_0); have e0 := k_0; rw [Int32.le_iff_toInt_le, z1] at e0; obtain ⟨n_0, hn_0, s0⟩ := nd_add (x := (a_0)) (y := (1 : Int32)) (by (try rw [z0]); omega) (by (try rw [z0]); omega); rw [z0] at s0; rw [hn_0]; (try rw [z1]); omega)) v2_1 c_2) hm_1)] at hQ; exact hQ) (lv_sub hl [2, 3, 0] rfl)
        · have hQ := hQ.2 q_4 e_4
          refine lv_astore_n (lv' := [(3, .ref q_4), (0, .ref q0), (1, .int p_0), (2, .int v2_1)]) hx hb d_WM_hasTurns_14 rfl hl (by decide) rfl (fun ls hl => ?_)
          refine lv_aload_n hx hb d_WM_hasTurns_15 rfl (lv_at hl 0 rfl) ?_
          refine lv_ifnull hx hb d_WM_hasTurns_16 ?_
          refine lv_aload_n hx hb d_WM_hasTurns_19 rfl (lv_at hl 0 rfl) ?_
          refine tw_geti (D := (dC, dI)) (C := R_Mn) (T := F_Mn) (N := 8) (ci := 2) (kd := 20) (ct := ct) hx hb htb i_Mn hown hK hP hO_0 m_4 rfl rfl 2 (by decide) (htb (.fieldLink R_WM 145 "WaterMen$Man" "turnStairs" "I") tw_33) (fun _ h9 => h9) rfl d_WM_hasTurns_20 (fun x_5 e_5 b_5 => ?_)
          have hQ := hQ x_5 e_5
          refine lv_iload_n hx hb d_WM_hasTurns_23 rfl (lv_at hl 2 rfl) ?_
          refine lv_icmp_ne (tgt := 29) hx hb d_WM_hasTurns_24 (by decide) (fun c_6 => ?_) (fun c_6 => ?_)
          · have hQ := hQ.2 c_6
            refine lv_iinc (v := (v2_1 + 1)) (lv' := [(2, .int (v2_1 + 1)), (3, .ref q_4), (0, .ref q0), (1, .int p_0)]) hx hb d_WM_hasTurns_29 hl (k := 3) rfl rfl (by decide) rfl (fun ls hl => ?_)
            refine lv_goto (tgt := 2) hx hb d_WM_hasTurns_32 (by decide) ?_
            exact ih_1 (n_1 - 1) (ms_1 ((fun (a_0 : Int32) (k_0 : ¬ (40 ≤ a_0)) => (show 1 ≤ (40 : Int32).toInt - (a_0).toInt ∧ (40 : Int32).toInt - ((a_0) + (1 : Int32)).toInt + 1 ≤ (40 : Int32).toInt - (a_0).toInt from by have z0 : (1 : Int32).toInt = 1 := (by decide +kernel); have z1 : (40 : Int32).toInt = 40 := (by decide +kernel); have r0 := fb_rng (a_0); have e0 := k_0; rw [Int32.le_iff_toInt_le, z1] at e0; obtain ⟨n_0, hn_0, s0⟩ := nd_add (x := (a_0)) (y := (1 : Int32)) (by (try rw [z0]); omega) (by (try rw [z0]); omega); rw [z0] at s0; rw [hn_0]; (try rw [z1]); omega)) v2_1 c_2) hm_1) (v2_1 + 1) _ (show ¬ ((v2_1 + 1) < 0) from by have e0 := iv0_1; rw [Int32.lt_iff_toInt_lt] at e0; have e1 := c_2; rw [Int32.le_iff_toInt_le] at e1; have z0 : (0 : Int32).toInt = 0 := (by decide +kernel); have z1 : (1 : Int32).toInt = 1 := (by decide +kernel); have z2 : (40 : Int32).toInt = 40 := (by decide +kernel); have ss := fb_addI (x := v2_1) (y := 1) (by omega) (by omega); rw [Int32.lt_iff_toInt_lt]; omega) (show ¬ (40 < (v2_1 + 1)) from by have e0 := iv0_1; rw [Int32.lt_iff_toInt_lt] at e0; have e1 := c_2; rw [Int32.le_iff_toInt_le] at e1; have z0 : (0 : Int32).toInt = 0 := (by decide +kernel); have z1 : (1 : Int32).toInt = 1 := (by decide +kernel); have z2 : (40 : Int32).toInt = 40 := (by decide +kernel); have ss := fb_addI (x := v2_1) (y := 1) (by omega) (by omega); rw [Int32.lt_iff_toInt_lt]; omega) (by exact ms_2 ((fun (a_0 : Int32) (k_0 : ¬ (40 ≤ a_0)) => (show 1 ≤ (40 : Int32).toInt - (a_0).toInt ∧ (40 : Int32).toInt - ((a_0) + (1 : Int32)).toInt + 1 ≤ (40 : Int32).toInt - (a_0).toInt from by have z0 : (1 : Int32).toInt = 1 := (by decide +kernel); have z1 : (40 : Int32).toInt = 40 := (by decide +kernel); have r0 := fb_rng (a_0); have e0 := k_0; rw [Int32.le_iff_toInt_le, z1] at e0; obtain ⟨n_0, hn_0, s0⟩ := nd_add (x := (a_0)) (y := (1 : Int32)) (by (try rw [z0]); omega) (by (try rw [z0]); omega); rw [z0] at s0; rw [hn_0]; (try rw [z1]); omega)) v2_1 c_2) hm_1) (by rw [← hrec_1, wpR_WM_hasTurns_w_2_1_pos (ms_3 ((fun (a_0 : Int32) (k_0 : ¬ (40 ≤ a_0)) => (show 1 ≤ (40 : Int32).toInt - (a_0).toInt ∧ (40 : Int32).toInt - ((a_0) + (1 : Int32)).toInt + 1 ≤ (40 : Int32).toInt - (a_0).toInt from by have z0 : (1 : Int32).toInt = 1 := (by decide +kernel); have z1 : (40 : Int32).toInt = 40 := (by decide +kernel); have r0 := fb_rng (a_0); have e0 := k_0; rw [Int32.le_iff_toInt_le, z1] at e0; obtain ⟨n_0, hn_0, s0⟩ := nd_add (x := (a_0)) (y := (1 : Int32)) (by (try rw [z0]); omega) (by (try rw [z0]); omega); rw [z0] at s0; rw [hn_0]; (try rw [z1]); omega)) v2_1 c_2) hm_1)] at hQ; exact hQ) (lv_sub hl [2, 3, 0] rfl)
          · have hQ := hQ.1 c_6
            refine lv_iconst (v := 1) hx hb d_WM_hasTurns_27 (by decide +kernel) ?_
            exact W.zret (v := 1) hx hb hr (by decide +kernel) (fun t ht hW => ⟨1, rfl, ⟨(Or.inr ⟨rfl, trivial⟩), hQ⟩, ht⟩) t_nil d_WM_hasTurns_28
  exact cut_1 ((40 : Int32).toInt - (0 : Int32).toInt).toNat (0 : Int32) _ (by decide +kernel) (by decide +kernel) (by exact ms_e _ _) hQ (lv_sub hl [1, 2, 0] rfl)
def wp_WM_mustWait_w (L : List Nat) (f : TF) (q0 : Nat) (pq_0 : Nat) (p_1 : Int32) (Q : Int32 → Prop) : Prop := ∀ x_1 : Int32, ti f pq_0 2 = x_1 → ((x_1 = p_1 → wp_WM_placeInTurns_w L f q0 pq_0 (fun (r_4 : Int32) => ((r_4 = 0 → Q 0) ∧ (¬ (r_4 = 0) → Q 1)))) ∧ (¬ (x_1 = p_1) → wp_WM_hasTurns_w L f q0 p_1 (fun (r_3 : Int32) => ((r_3 = 0 → Q 0) ∧ (r_3 = 1 → Q 1)))))
set_option maxHeartbeats 4000000 in
set_option maxRecDepth 100000 in
theorem c_WM_mustWait_w (l : Launch) (dC : Nat → ClassId) (dI : Nat → Nat → Nat) (ct : Nat → ClassId) (L : List Nat) (f : TF) (hO_0 : Ok L f) (q0 : Nat) (m0 : q0 ∈ L ∧ tk f q0 = 0) (pq_0 : Nat) (pm_0 : pq_0 ∈ L ∧ tk f pq_0 = 20) (p_1 : Int32)   (Q : Int32 → Prop) (hQ : wp_WM_mustWait_w L f q0 pq_0 p_1 Q) : Met l y_WM_mustWait (.code y_WM_mustWait b_WM_mustWait 3 (some .boolean) :: TB) ({ frames := 1, cells := 0, slots := 0, locals := 24 }) (va_Pc [.ref q0, .ref pq_0, .int p_1] (PR dC dI (TW ct L f) (TT ct))) (vp_Si (fun r => ((r = 0 ∧ True) ∨ (r = 1 ∧ True)) ∧ Q r)) 0 0 (fun _ => False) := by
  refine Met.ofW (cc := b_WM_mustWait) (maxL := 3) (ret := (some .boolean)) (by decide) rfl ?_
  intro p e s m args below meth c s₁ B hml hv
  obtain ⟨rfl, hP, hK, hN⟩ := hv
  have hx := B.exec
  have hb := B.bytes
  have hr := B.returns
  have hts := atoms_spec (ws := (.code y_WM_mustWait b_WM_mustWait 3 (some .boolean) :: TB)) B.pre
  have htb := fun w (h : w ∈ TB) => hts w (List.mem_cons_of_mem _ h)
  have hown : s.vm.findClass R_WM = some m.cls := findClass_of_methodNamed B.named
  have hlocks := B.notSynchronized
  have hl := lv_entry ([.ref q0, .ref pq_0, .int p_1]) (n := 3) (Nat.le_of_ble_eq_true rfl)
  rw [lg_entry_eq]
  generalize (lg_sl ([.ref q0, .ref pq_0, .int p_1]) ++ List.replicate (3 - (lg_sl ([.ref q0, .ref pq_0, .int p_1])).length) Slot.unset).toArray = ls at hl ⊢
  have hl : lv_has ls 3 [(0, .ref q0), (1, .ref pq_0), (2, .int p_1)] := hl
  unfold wp_WM_mustWait_w at hQ
  refine lv_aload_n hx hb d_WM_mustWait_0 rfl (lv_at hl 1 rfl) ?_
  refine tw_geti (D := (dC, dI)) (C := R_Mn) (T := F_Mn) (N := 8) (ci := 2) (kd := 20) (ct := ct) hx hb htb i_Mn hown hK hP hO_0 pm_0 rfl rfl 2 (by decide) (htb (.fieldLink R_WM 145 "WaterMen$Man" "turnStairs" "I") tw_33) (fun _ h9 => h9) rfl d_WM_mustWait_1 (fun x_1 e_1 b_1 => ?_)
  have hQ := hQ x_1 e_1
  refine lv_iload_n hx hb d_WM_mustWait_4 rfl (lv_at hl 2 rfl) ?_
  refine lv_icmp_ne (tgt := 22) hx hb d_WM_mustWait_5 (by decide) (fun c_2 => ?_) (fun c_2 => ?_)
  · have hQ := hQ.2 c_2
    refine lv_aload_n hx hb d_WM_mustWait_22 rfl (lv_at hl 0 rfl) ?_
    refine lv_iload_n hx hb d_WM_mustWait_23 rfl (lv_at hl 2 rfl) ?_
    refine vp_callSi (va_Run.run (va_runV (As := [.int p_1]) (rest := []) ⟨hx, hb, hml, hown, htb⟩ (c_WM_hasTurns_w l dC dI ct L f hO_0 q0 m0 p_1 _ hQ) (cwV 1 htb (gd_V tw_543 tw_544 tw_545 tw_26 tw_542) rfl rfl rfl (by decide +kernel) ⟨Nat.le_of_ble_eq_true rfl, Nat.le_of_ble_eq_true rfl⟩) ⟨pr_blind, tw_recv hK hP m0 rfl rfl, pr_pre hP hK hN⟩ rfl rfl hl.1 rfl (lv_room (Nat.le_of_ble_eq_true rfl)) d_WM_mustWait_24 ⟨Nat.le_of_ble_eq_true rfl, Nat.le_of_ble_eq_true rfl⟩)) (fun r_3 er_3 => ?_)
    obtain ⟨er_3, hQ⟩ := er_3
    rcases er_3 with ⟨rfl, -⟩ | ⟨rfl, -⟩
    · have hQ := hQ.1 rfl
      exact W.zret (v := 0) hx hb hr (by decide +kernel) (fun t ht hW => ⟨0, rfl, ⟨(Or.inl ⟨rfl, trivial⟩), hQ⟩, ht⟩) t_nil d_WM_mustWait_27
    · have hQ := hQ.2 rfl
      exact W.zret (v := 1) hx hb hr (by decide +kernel) (fun t ht hW => ⟨1, rfl, ⟨(Or.inr ⟨rfl, trivial⟩), hQ⟩, ht⟩) t_nil d_WM_mustWait_27
  · have hQ := hQ.1 c_2
    refine lv_aload_n hx hb d_WM_mustWait_8 rfl (lv_at hl 0 rfl) ?_
    refine lv_aload_n hx hb d_WM_mustWait_9 rfl (lv_at hl 1 rfl) ?_
    refine vp_callSi (va_Run.run (va_runV (As := [.ref pq_0]) (rest := []) ⟨hx, hb, hml, hown, htb⟩ (c_WM_placeInTurns_w l dC dI ct L f hO_0 q0 m0 pq_0 pm_0 _ hQ) (cwV 1 htb (gd_V tw_36 tw_37 tw_38 tw_26 tw_35) rfl rfl rfl (by decide +kernel) ⟨Nat.le_of_ble_eq_true rfl, Nat.le_of_ble_eq_true rfl⟩) ⟨pr_blind, tw_recv hK hP m0 rfl rfl, pr_pre hP hK hN⟩ rfl rfl hl.1 rfl (lv_room (Nat.le_of_ble_eq_true rfl)) d_WM_mustWait_10 ⟨Nat.le_of_ble_eq_true rfl, Nat.le_of_ble_eq_true rfl⟩)) (fun r_4 er_4 => ?_)
    obtain ⟨er_4, hQ⟩ := er_4
    clear er_4
    refine lv_if_eq (tgt := 20) hx hb d_WM_mustWait_13 (by decide) (fun c_5 => ?_) (fun c_5 => ?_)
    · have hQ := hQ.1 c_5
      refine lv_iconst (v := 0) hx hb d_WM_mustWait_20 (by decide +kernel) ?_
      exact W.zret (v := 0) hx hb hr (by decide +kernel) (fun t ht hW => ⟨0, rfl, ⟨(Or.inl ⟨rfl, trivial⟩), hQ⟩, ht⟩) t_nil d_WM_mustWait_21
    · have hQ := hQ.2 c_5
      refine lv_iconst (v := 1) hx hb d_WM_mustWait_16 (by decide +kernel) ?_
      refine lv_goto (tgt := 21) hx hb d_WM_mustWait_17 (by decide) ?_
      exact W.zret (v := 1) hx hb hr (by decide +kernel) (fun t ht hW => ⟨1, rfl, ⟨(Or.inr ⟨rfl, trivial⟩), hQ⟩, ht⟩) t_nil d_WM_mustWait_21
def wp_Rv_passesBridge_w (L : List Nat) (f : TF) (q0 : Nat) (p_0 : Int32) (p_1 : Int32) (Q : Int32 → Prop) : Prop := ∀ x_1 : Int32, ti f q0 5 = x_1 → ((x_1 = (-1) → Q 0) ∧ (¬ (x_1 = (-1)) → ∀ y_3 : Int32, y_3 = (if p_1 < p_0 then p_1 else p_0) → ((x_1 < y_3 → Q 0) ∧ (¬ (x_1 < y_3) → ∀ y_5 : Int32, y_5 = (if p_0 < p_1 then p_1 else p_0) → ((y_5 ≤ x_1 → Q 0) ∧ (¬ (y_5 ≤ x_1) → Q 1))))))
set_option maxHeartbeats 4000000 in
set_option maxRecDepth 100000 in
theorem c_Rv_passesBridge_w (l : Launch) (dC : Nat → ClassId) (dI : Nat → Nat → Nat) (ct : Nat → ClassId) (L : List Nat) (f : TF) (hO_0 : Ok L f) (q0 : Nat) (m0 : q0 ∈ L ∧ tk f q0 = 1) (p_0 : Int32) (p_1 : Int32)   (Q : Int32 → Prop) (hQ : wp_Rv_passesBridge_w L f q0 p_0 p_1 Q) : Met l y_Rv_passesBridge (.code y_Rv_passesBridge b_Rv_passesBridge 3 (some .boolean) :: TB) ({ frames := 1, cells := 0, slots := 0, locals := 21 }) (va_Pc [.ref q0, .int p_0, .int p_1] (PR dC dI (TW ct L f) (TT ct))) (vp_Si (fun r => ((r = 0 ∧ True) ∨ (r = 1 ∧ True)) ∧ Q r)) 0 0 (fun _ => False) := by
  refine Met.ofW (cc := b_Rv_passesBridge) (maxL := 3) (ret := (some .boolean)) (by decide) rfl ?_
  intro p e s m args below meth c s₁ B hml hv
  obtain ⟨rfl, hP, hK, hN⟩ := hv
  have hx := B.exec
  have hb := B.bytes
  have hr := B.returns
  have hts := atoms_spec (ws := (.code y_Rv_passesBridge b_Rv_passesBridge 3 (some .boolean) :: TB)) B.pre
  have htb := fun w (h : w ∈ TB) => hts w (List.mem_cons_of_mem _ h)
  have hown : s.vm.findClass R_Rv = some m.cls := findClass_of_methodNamed B.named
  have hlocks := B.notSynchronized
  have hl := lv_entry ([.ref q0, .int p_0, .int p_1]) (n := 3) (Nat.le_of_ble_eq_true rfl)
  rw [lg_entry_eq]
  generalize (lg_sl ([.ref q0, .int p_0, .int p_1]) ++ List.replicate (3 - (lg_sl ([.ref q0, .int p_0, .int p_1])).length) Slot.unset).toArray = ls at hl ⊢
  have hl : lv_has ls 3 [(0, .ref q0), (1, .int p_0), (2, .int p_1)] := hl
  unfold wp_Rv_passesBridge_w at hQ
  refine lv_aload_n hx hb d_Rv_passesBridge_0 rfl (lv_at hl 0 rfl) ?_
  refine tw_geti (D := (dC, dI)) (C := R_Rv) (T := F_Rv) (N := 6) (ci := 1) (kd := 1) (ct := ct) hx hb htb i_Rv hown hK hP hO_0 m0 rfl rfl 5 (by decide) (htb (.fieldLink R_Rv 27 "WaterMen$River" "bridgeAbove" "I") tw_550) (fun _ h9 => h9) rfl d_Rv_passesBridge_1 (fun x_1 e_1 b_1 => ?_)
  have hQ := hQ x_1 e_1
  refine lv_iconst (v := (-1)) hx hb d_Rv_passesBridge_4 (by decide +kernel) ?_
  refine lv_icmp_eq (tgt := 36) hx hb d_Rv_passesBridge_5 (by decide) (fun c_2 => ?_) (fun c_2 => ?_)
  · have hQ := hQ.1 c_2
    refine lv_iconst (v := 0) hx hb d_Rv_passesBridge_36 (by decide +kernel) ?_
    exact W.zret (v := 0) hx hb hr (by decide +kernel) (fun t ht hW => ⟨0, rfl, ⟨(Or.inl ⟨rfl, trivial⟩), hQ⟩, ht⟩) t_nil d_Rv_passesBridge_37
  · have hQ := hQ.2 c_2
    refine lv_iload_n hx hb d_Rv_passesBridge_8 rfl (lv_at hl 1 rfl) ?_
    refine lv_iload_n hx hb d_Rv_passesBridge_9 rfl (lv_at hl 2 rfl) ?_
    refine va_mmin hx hb (hml.trans hl.1.symm) hown (htb (.methodLink R_Rv 44 Lib.Math.min.name) tw_551) (htb (.static Lib.Math.min.name) tw_483) (htb (.initialized "java/lang/Math") tw_55) (htb (.code Lib.Math.min.name Lib.Math.min.code 2 (some .int)) tw_484) (Nat.le_of_ble_eq_true rfl) (Nat.le_of_ble_eq_true rfl) (Nat.le_of_ble_eq_true rfl) (Nat.le_of_ble_eq_true rfl) d_Rv_passesBridge_10 ?_
    refine hb_eqi (fun y_3 hy_3 => ?_)
    have hQ := hQ y_3 hy_3
    refine lv_aload_n hx hb d_Rv_passesBridge_13 rfl (lv_at hl 0 rfl) ?_
    refine tw_getI (x := x_1) (D := (dC, dI)) (C := R_Rv) (T := F_Rv) (N := 6) (ci := 1) (kd := 1) (ct := ct) hx hb htb i_Rv hown hK hP m0 rfl rfl 5 e_1 (by decide) (htb (.fieldLink R_Rv 27 "WaterMen$River" "bridgeAbove" "I") tw_550) (fun _ h9 => h9) rfl d_Rv_passesBridge_14 ?_
    refine lv_icmp_gt (tgt := 36) hx hb d_Rv_passesBridge_17 (by decide) (fun c_4 => ?_) (fun c_4 => ?_)
    · have hQ := hQ.1 c_4
      refine lv_iconst (v := 0) hx hb d_Rv_passesBridge_36 (by decide +kernel) ?_
      exact W.zret (v := 0) hx hb hr (by decide +kernel) (fun t ht hW => ⟨0, rfl, ⟨(Or.inl ⟨rfl, trivial⟩), hQ⟩, ht⟩) t_nil d_Rv_passesBridge_37
    · have hQ := hQ.2 c_4
      refine lv_iload_n hx hb d_Rv_passesBridge_20 rfl (lv_at hl 1 rfl) ?_
      refine lv_iload_n hx hb d_Rv_passesBridge_21 rfl (lv_at hl 2 rfl) ?_
      refine va_mmax hx hb (hml.trans hl.1.symm) hown (htb (.methodLink R_Rv 48 Lib.Math.max.name) tw_552) (htb (.static Lib.Math.max.name) tw_54) (htb (.initialized "java/lang/Math") tw_55) (htb (.code Lib.Math.max.name Lib.Math.max.code 2 (some .int)) tw_56) (Nat.le_of_ble_eq_true rfl) (Nat.le_of_ble_eq_true rfl) (Nat.le_of_ble_eq_true rfl) (Nat.le_of_ble_eq_true rfl) d_Rv_passesBridge_22 ?_
      refine hb_eqi (fun y_5 hy_5 => ?_)
      have hQ := hQ y_5 hy_5
      refine lv_aload_n hx hb d_Rv_passesBridge_25 rfl (lv_at hl 0 rfl) ?_
      refine tw_getI (x := x_1) (D := (dC, dI)) (C := R_Rv) (T := F_Rv) (N := 6) (ci := 1) (kd := 1) (ct := ct) hx hb htb i_Rv hown hK hP m0 rfl rfl 5 e_1 (by decide) (htb (.fieldLink R_Rv 27 "WaterMen$River" "bridgeAbove" "I") tw_550) (fun _ h9 => h9) rfl d_Rv_passesBridge_26 ?_
      refine lv_icmp_le (tgt := 36) hx hb d_Rv_passesBridge_29 (by decide) (fun c_6 => ?_) (fun c_6 => ?_)
      · have hQ := hQ.1 c_6
        refine lv_iconst (v := 0) hx hb d_Rv_passesBridge_36 (by decide +kernel) ?_
        exact W.zret (v := 0) hx hb hr (by decide +kernel) (fun t ht hW => ⟨0, rfl, ⟨(Or.inl ⟨rfl, trivial⟩), hQ⟩, ht⟩) t_nil d_Rv_passesBridge_37
      · have hQ := hQ.2 c_6
        refine lv_iconst (v := 1) hx hb d_Rv_passesBridge_32 (by decide +kernel) ?_
        refine lv_goto (tgt := 37) hx hb d_Rv_passesBridge_33 (by decide) ?_
        exact W.zret (v := 1) hx hb hr (by decide +kernel) (fun t ht hW => ⟨1, rfl, ⟨(Or.inr ⟨rfl, trivial⟩), hQ⟩, ht⟩) t_nil d_Rv_passesBridge_37
def wp_WM_hourNow_w (L : List Nat) (f : TF) (q0 : Nat) (Q : Int32 → Prop) : Prop := ∀ x_1 : Int32, ti f q0 10 = x_1 → ∀ y_2 : Int32, y_2 = x_1 / 60 → ∀ y_3 : Int32, y_3 = y_2 - y_2 / 12 * 12 → Q y_3
set_option maxHeartbeats 4000000 in
set_option maxRecDepth 100000 in
theorem c_WM_hourNow_w (l : Launch) (dC : Nat → ClassId) (dI : Nat → Nat → Nat) (ct : Nat → ClassId) (L : List Nat) (f : TF) (hO_0 : Ok L f) (q0 : Nat) (m0 : q0 ∈ L ∧ tk f q0 = 0)    (Q : Int32 → Prop) (hQ : wp_WM_hourNow_w L f q0 Q) : Met l y_WM_hourNow (.code y_WM_hourNow b_WM_hourNow 1 (some .int) :: TB) ({ frames := 0, cells := 0, slots := 0, locals := 0 }) (va_Pc [.ref q0] (PR dC dI (TW ct L f) (TT ct))) (vp_Si (fun r => ((¬ (r < 0) ∧ ¬ (11 < r) ∧ True)) ∧ Q r)) 0 0 (fun _ => False) := by
  refine Met.ofW (cc := b_WM_hourNow) (maxL := 1) (ret := (some .int)) (by decide) rfl ?_
  intro p e s m args below meth c s₁ B hml hv
  obtain ⟨rfl, hP, hK, hN⟩ := hv
  have hx := B.exec
  have hb := B.bytes
  have hr := B.returns
  have hts := atoms_spec (ws := (.code y_WM_hourNow b_WM_hourNow 1 (some .int) :: TB)) B.pre
  have htb := fun w (h : w ∈ TB) => hts w (List.mem_cons_of_mem _ h)
  have hown : s.vm.findClass R_WM = some m.cls := findClass_of_methodNamed B.named
  have hlocks := B.notSynchronized
  have hl := lv_entry ([.ref q0]) (n := 1) (Nat.le_of_ble_eq_true rfl)
  rw [lg_entry_eq]
  generalize (lg_sl ([.ref q0]) ++ List.replicate (1 - (lg_sl ([.ref q0])).length) Slot.unset).toArray = ls at hl ⊢
  have hl : lv_has ls 1 [(0, .ref q0)] := hl
  unfold wp_WM_hourNow_w at hQ
  refine lv_aload_n hx hb d_WM_hourNow_0 rfl (lv_at hl 0 rfl) ?_
  refine tw_geti (D := (dC, dI)) (C := R_WM) (T := F_WM) (N := 13) (ci := 0) (kd := 0) (ct := ct) hx hb htb i_WM hown hK hP hO_0 m0 rfl rfl 10 (by decide) (htb (.fieldLink R_WM 155 "WaterMen" "now" "I") tw_40) (fun _ h9 => h9) rfl d_WM_hourNow_1 (fun x_1 e_1 b_1 => ?_)
  have hQ := hQ x_1 e_1
  refine lv_bipush (v := 60) hx hb d_WM_hourNow_4 (by decide +kernel) ?_
  refine lv_idiv hx hb d_WM_hourNow_6 (by decide) ?_
  refine hb_divn (U := 359999) (Qm := 5999) (c := 60) (C1 := 59) (K := 2147483587) (by decide +kernel) (by decide +kernel) (by decide +kernel) b_1.1 (show ¬ (2147483587 < x_1) from by have e0 := b_1.1; rw [Int32.lt_iff_toInt_lt] at e0; have e1 := b_1.2; rw [Int32.lt_iff_toInt_lt] at e1; have z0 : (0 : Int32).toInt = 0 := (by decide +kernel); have z1 : (359999 : Int32).toInt = 359999 := (by decide +kernel); have z2 : (2147483587 : Int32).toInt = 2147483587 := (by decide +kernel); rw [Int32.lt_iff_toInt_lt]; omega) b_1.2 (by decide +kernel) (fun y_2 g1_2 g2_2 g3_2 g4_2 g5_2 g9_2 => ?_)
  have hQ := hQ y_2 g9_2
  refine lv_bipush (v := 12) hx hb d_WM_hourNow_7 (by decide +kernel) ?_
  refine lv_irem hx hb d_WM_hourNow_9 (by decide) ?_
  refine hb_remn (c := 12) (C1 := 11) (K := 2147483635) (by decide +kernel) (by decide +kernel) (by decide +kernel) g1_2 (show ¬ (2147483635 < y_2) from by have e0 := g1_2; rw [Int32.lt_iff_toInt_lt] at e0; have e1 := g5_2; rw [Int32.lt_iff_toInt_lt] at e1; have z0 : (0 : Int32).toInt = 0 := (by decide +kernel); have z1 : (5999 : Int32).toInt = 5999 := (by decide +kernel); have z2 : (2147483635 : Int32).toInt = 2147483635 := (by decide +kernel); rw [Int32.lt_iff_toInt_lt]; omega) (fun y_3 qu_3 g1_3 g2_3 g3_3 g4_3 g5_3 g9_3 => ?_)
  have hQ := hQ y_3 g9_3
  exact W.iret (v := y_3) hx hb hr (fun t ht hW => ⟨y_3, rfl, ⟨⟨g1_3, g2_3, trivial⟩, hQ⟩, ht⟩) t_nil d_WM_hourNow_10
def wp_WM_minutesOfWay_w (L : List Nat) (f : TF) (q0 : Nat) (pq_0 : Nat) (p_1 : Int32) (Q : Int32 → Prop) : Prop := ∀ q_1 : Nat, tr f q0 0 = some q_1 → ∀ x_2 : Int32, ti f pq_0 1 = x_2 → wp_WM_today_w L f q0 (fun (r_3 : Int32) => (wp_WM_hourNow_w L f q0 (fun (r_6 : Int32) => (wp_Rv_drift_w L f q_1 x_2 p_1 r_3 r_6 (fun (r_9 : Int32) => ((r_9 ≤ 0 → ((0 ≤ r_9 → wp_Rv_distance_w L f q_1 x_2 p_1 (fun (r_12 : Int32) => ∀ x_13 : Int32, ti f pq_0 0 = x_13 → ((x_13 = 2 → ∀ y_16 : Int32, y_16 = (if 1 < (((r_12 * 10) * 2) / 3) then (((r_12 * 10) * 2) / 3) else 1) → Q y_16) ∧ (¬ (x_13 = 2) → ∀ y_15 : Int32, y_15 = (if 1 < (r_12 * 10) then (r_12 * 10) else 1) → Q y_15)))) ∧ (¬ (0 ≤ r_9) → wp_Rv_distance_w L f q_1 x_2 p_1 (fun (r_17 : Int32) => ∀ x_18 : Int32, ti f pq_0 0 = x_18 → ((x_18 = 2 → ∀ y_21 : Int32, y_21 = (if 1 < (((r_17 * 14) * 2) / 3) then (((r_17 * 14) * 2) / 3) else 1) → Q y_21) ∧ (¬ (x_18 = 2) → ∀ y_20 : Int32, y_20 = (if 1 < (r_17 * 14) then (r_17 * 14) else 1) → Q y_20)))))) ∧ (¬ (r_9 ≤ 0) → wp_Rv_distance_w L f q_1 x_2 p_1 (fun (r_22 : Int32) => ∀ x_23 : Int32, ti f pq_0 0 = x_23 → ((x_23 = 2 → ∀ y_26 : Int32, y_26 = (if 1 < (((r_22 * 7) * 2) / 3) then (((r_22 * 7) * 2) / 3) else 1) → Q y_26) ∧ (¬ (x_23 = 2) → ∀ y_25 : Int32, y_25 = (if 1 < (r_22 * 7) then (r_22 * 7) else 1) → Q y_25))))))))))
set_option maxHeartbeats 4000000 in
set_option maxRecDepth 100000 in
theorem c_WM_minutesOfWay_w (l : Launch) (dC : Nat → ClassId) (dI : Nat → Nat → Nat) (ct : Nat → ClassId) (L : List Nat) (f : TF) (hO_0 : Ok L f) (q0 : Nat) (m0 : q0 ∈ L ∧ tk f q0 = 0) (pq_0 : Nat) (pm_0 : pq_0 ∈ L ∧ tk f pq_0 = 24) (p_1 : Int32)  (as_0 : ¬ (p_1 < 0)) (as_1 : ¬ (11 < p_1)) (Q : Int32 → Prop) (hQ : wp_WM_minutesOfWay_w L f q0 pq_0 p_1 Q) : Met l y_WM_minutesOfWay (.code y_WM_minutesOfWay b_WM_minutesOfWay 6 (some .int) :: TB) ({ frames := 3, cells := 0, slots := 0, locals := 71 }) (va_Pc [.ref q0, .ref pq_0, .int p_1] (PR dC dI (TW ct L f) (TT ct))) (vp_Si (fun r => (True) ∧ Q r)) 0 0 (fun _ => False) := by
  refine Met.ofW (cc := b_WM_minutesOfWay) (maxL := 6) (ret := (some .int)) (by decide) rfl ?_
  intro p e s m args below meth c s₁ B hml hv
  obtain ⟨rfl, hP, hK, hN⟩ := hv
  have hx := B.exec
  have hb := B.bytes
  have hr := B.returns
  have hts := atoms_spec (ws := (.code y_WM_minutesOfWay b_WM_minutesOfWay 6 (some .int) :: TB)) B.pre
  have htb := fun w (h : w ∈ TB) => hts w (List.mem_cons_of_mem _ h)
  have hown : s.vm.findClass R_WM = some m.cls := findClass_of_methodNamed B.named
  have hlocks := B.notSynchronized
  have hl := lv_entry ([.ref q0, .ref pq_0, .int p_1]) (n := 6) (Nat.le_of_ble_eq_true rfl)
  rw [lg_entry_eq]
  generalize (lg_sl ([.ref q0, .ref pq_0, .int p_1]) ++ List.replicate (6 - (lg_sl ([.ref q0, .ref pq_0, .int p_1])).length) Slot.unset).toArray = ls at hl ⊢
  have hl : lv_has ls 6 [(0, .ref q0), (1, .ref pq_0), (2, .int p_1)] := hl
  unfold wp_WM_minutesOfWay_w at hQ
  refine lv_aload_n hx hb d_WM_minutesOfWay_0 rfl (lv_at hl 0 rfl) ?_
  refine tw_getr (D := (dC, dI)) (C := R_WM) (T := F_WM) (N := 13) (ci := 0) (kd := 0) (ct := ct) hx hb htb i_WM hown hK hP hO_0 m0 rfl rfl 0 (by decide) (htb (.fieldLink R_WM 12 "WaterMen" "river" "LWaterMen$River;") tw_135) (fun _ h9 => h9) rfl d_WM_minutesOfWay_1 (fun q_1 e_1 m_1 => ?_)
  have hQ := hQ q_1 e_1
  refine lv_aload_n hx hb d_WM_minutesOfWay_4 rfl (lv_at hl 1 rfl) ?_
  refine tw_geti (D := (dC, dI)) (C := R_Bt) (T := F_Bt) (N := 6) (ci := 9) (kd := 24) (ct := ct) hx hb htb i_Bt hown hK hP hO_0 pm_0 rfl rfl 1 (by decide) (htb (.fieldLink R_WM 178 "WaterMen$Boat" "stairs" "I") tw_517) (fun _ h9 => h9) rfl d_WM_minutesOfWay_5 (fun x_2 e_2 b_2 => ?_)
  have hQ := hQ x_2 e_2
  refine lv_iload_n hx hb d_WM_minutesOfWay_8 rfl (lv_at hl 2 rfl) ?_
  refine lv_aload_n hx hb d_WM_minutesOfWay_9 rfl (lv_at hl 0 rfl) ?_
  refine vp_callSi (va_Run.run (va_runV (As := []) (rest := [.int p_1, .int x_2, .ref q_1]) ⟨hx, hb, hml, hown, htb⟩ (c_WM_today_w l dC dI ct L f hO_0 q0 m0 _ hQ) (cwV 0 htb (gd_V tw_50 tw_51 tw_52 tw_26 tw_49) rfl rfl rfl (by decide +kernel) ⟨Nat.le_of_ble_eq_true rfl, Nat.le_of_ble_eq_true rfl⟩) ⟨pr_blind, tw_recv hK hP m0 rfl rfl, pr_pre hP hK hN⟩ rfl rfl hl.1 rfl (lv_room (Nat.le_of_ble_eq_true rfl)) d_WM_minutesOfWay_10 ⟨Nat.le_of_ble_eq_true rfl, Nat.le_of_ble_eq_true rfl⟩)) (fun r_3 er_3 => ?_)
  obtain ⟨er_3, hQ⟩ := er_3
  obtain ⟨po_4, po_5, -⟩ := er_3
  refine lv_aload_n hx hb d_WM_minutesOfWay_13 rfl (lv_at hl 0 rfl) ?_
  refine vp_callSi (va_Run.run (va_runV (As := []) (rest := [.int r_3, .int p_1, .int x_2, .ref q_1]) ⟨hx, hb, hml, hown, htb⟩ (c_WM_hourNow_w l dC dI ct L f hO_0 q0 m0 _ hQ) (cwV 0 htb (gd_V tw_558 tw_559 tw_560 tw_26 tw_557) rfl rfl rfl (by decide +kernel) ⟨Nat.le_of_ble_eq_true rfl, Nat.le_of_ble_eq_true rfl⟩) ⟨pr_blind, tw_recv hK hP m0 rfl rfl, pr_pre hP hK hN⟩ rfl rfl hl.1 rfl (lv_room (Nat.le_of_ble_eq_true rfl)) d_WM_minutesOfWay_14 ⟨Nat.le_of_ble_eq_true rfl, Nat.le_of_ble_eq_true rfl⟩)) (fun r_6 er_6 => ?_)
  obtain ⟨er_6, hQ⟩ := er_6
  obtain ⟨po_7, po_8, -⟩ := er_6
  refine vp_callSi (va_Run.run (va_runV (As := [.int x_2, .int p_1, .int r_3, .int r_6]) (rest := []) ⟨hx, hb, hml, hown, htb⟩ (c_Rv_drift_w l dC dI ct L f hO_0 q_1 m_1 x_2 p_1 r_3 r_6 po_4 po_5 po_7 po_8 _ hQ) (cwV 4 htb (gd_V tw_406 tw_407 tw_408 tw_140 tw_405) rfl rfl rfl (by decide +kernel) ⟨Nat.le_of_ble_eq_true rfl, Nat.le_of_ble_eq_true rfl⟩) ⟨pr_blind, tw_recv hK hP m_1 rfl rfl, pr_pre hP hK hN⟩ rfl rfl hl.1 rfl (lv_room (Nat.le_of_ble_eq_true rfl)) d_WM_minutesOfWay_17 ⟨Nat.le_of_ble_eq_true rfl, Nat.le_of_ble_eq_true rfl⟩)) (fun r_9 er_9 => ?_)
  obtain ⟨er_9, hQ⟩ := er_9
  clear er_9
  refine lv_istore_n (lv' := [(3, .int r_9), (0, .ref q0), (1, .ref pq_0), (2, .int p_1)]) hx hb d_WM_minutesOfWay_20 rfl hl (by decide) rfl (fun ls hl => ?_)
  refine lv_iload_n hx hb d_WM_minutesOfWay_21 rfl (lv_at hl 0 rfl) ?_
  refine lv_if_le (tgt := 30) hx hb d_WM_minutesOfWay_22 (by decide) (fun c_10 => ?_) (fun c_10 => ?_)
  · have hQ := hQ.1 c_10
    refine lv_iload_n hx hb d_WM_minutesOfWay_30 rfl (lv_at hl 0 rfl) ?_
    refine lv_if_ge (tgt := 39) hx hb d_WM_minutesOfWay_31 (by decide) (fun c_11 => ?_) (fun c_11 => ?_)
    · have hQ := hQ.1 c_11
      refine lv_bipush (v := 10) hx hb d_WM_minutesOfWay_39 (by decide +kernel) ?_
      refine lv_istore (lv' := [(4, .int 10), (3, .int r_9), (0, .ref q0), (1, .ref pq_0), (2, .int p_1)]) hx hb d_WM_minutesOfWay_41 hl (by decide) rfl (fun ls hl => ?_)
      refine lv_aload_n hx hb d_WM_minutesOfWay_43 rfl (lv_at hl 2 rfl) ?_
      refine tw_getR (D := (dC, dI)) (C := R_WM) (T := F_WM) (N := 13) (ci := 0) (kd := 0) (ct := ct) hx hb htb i_WM hown hK hP m0 rfl rfl 0 e_1 (by decide) (htb (.fieldLink R_WM 12 "WaterMen" "river" "LWaterMen$River;") tw_135) (fun _ h9 => h9) rfl d_WM_minutesOfWay_44 ?_
      refine hb_tv (.ref q_1) rfl ?_
      refine lv_aload_n hx hb d_WM_minutesOfWay_47 rfl (lv_at hl 3 rfl) ?_
      refine tw_getI (x := x_2) (D := (dC, dI)) (C := R_Bt) (T := F_Bt) (N := 6) (ci := 9) (kd := 24) (ct := ct) hx hb htb i_Bt hown hK hP pm_0 rfl rfl 1 e_2 (by decide) (htb (.fieldLink R_WM 178 "WaterMen$Boat" "stairs" "I") tw_517) (fun _ h9 => h9) rfl d_WM_minutesOfWay_48 ?_
      refine lv_iload_n hx hb d_WM_minutesOfWay_51 rfl (lv_at hl 4 rfl) ?_
      refine vp_callSi (va_Run.run (va_runV (As := [.int x_2, .int p_1]) (rest := []) ⟨hx, hb, hml, hown, htb⟩ (c_Rv_distance_w l dC dI ct L f hO_0 q_1 m_1 x_2 p_1 b_2.1 b_2.2 as_0 as_1 _ hQ) (cwV 2 htb (gd_V tw_413 tw_414 tw_415 tw_140 tw_412) rfl rfl rfl (by decide +kernel) ⟨Nat.le_of_ble_eq_true rfl, Nat.le_of_ble_eq_true rfl⟩) ⟨pr_blind, tw_recv hK hP m_1 rfl rfl, pr_pre hP hK hN⟩ rfl rfl hl.1 rfl (lv_room (Nat.le_of_ble_eq_true rfl)) d_WM_minutesOfWay_52 ⟨Nat.le_of_ble_eq_true rfl, Nat.le_of_ble_eq_true rfl⟩)) (fun r_12 er_12 => ?_)
      obtain ⟨er_12, hQ⟩ := er_12
      clear er_12
      refine lv_iload hx hb d_WM_minutesOfWay_55 (lv_at hl 0 rfl) ?_
      refine lv_imul hx hb d_WM_minutesOfWay_57 ?_
      refine lv_istore (lv' := [(5, .int (r_12 * 10)), (4, .int 10), (3, .int r_9), (0, .ref q0), (1, .ref pq_0), (2, .int p_1)]) hx hb d_WM_minutesOfWay_58 hl (by decide) rfl (fun ls hl => ?_)
      refine lv_iconst (v := 1) hx hb d_WM_minutesOfWay_60 (by decide +kernel) ?_
      refine lv_aload_n hx hb d_WM_minutesOfWay_61 rfl (lv_at hl 4 rfl) ?_
      refine tw_geti (D := (dC, dI)) (C := R_Bt) (T := F_Bt) (N := 6) (ci := 9) (kd := 24) (ct := ct) hx hb htb i_Bt hown hK hP hO_0 pm_0 rfl rfl 0 (by decide) (htb (.fieldLink R_WM 181 "WaterMen$Boat" "oars" "I") tw_518) (fun _ h9 => h9) rfl d_WM_minutesOfWay_62 (fun x_13 e_13 b_13 => ?_)
      have hQ := hQ x_13 e_13
      refine lv_iconst (v := 2) hx hb d_WM_minutesOfWay_65 (by decide +kernel) ?_
      refine lv_icmp_ne (tgt := 78) hx hb d_WM_minutesOfWay_66 (by decide) (fun c_14 => ?_) (fun c_14 => ?_)
      · have hQ := hQ.2 c_14
        refine lv_iload hx hb d_WM_minutesOfWay_78 (lv_at hl 0 rfl) ?_
        refine va_mmax hx hb (hml.trans hl.1.symm) hown (htb (.methodLink R_WM 370 Lib.Math.max.name) tw_561) (htb (.static Lib.Math.max.name) tw_54) (htb (.initialized "java/lang/Math") tw_55) (htb (.code Lib.Math.max.name Lib.Math.max.code 2 (some .int)) tw_56) (Nat.le_of_ble_eq_true rfl) (Nat.le_of_ble_eq_true rfl) (Nat.le_of_ble_eq_true rfl) (Nat.le_of_ble_eq_true rfl) d_WM_minutesOfWay_80 ?_
        refine hb_eqi (fun y_15 hy_15 => ?_)
        have hQ := hQ y_15 hy_15
        exact W.iret (v := y_15) hx hb hr (fun t ht hW => ⟨y_15, rfl, ⟨trivial, hQ⟩, ht⟩) t_nil d_WM_minutesOfWay_83
      · have hQ := hQ.1 c_14
        refine lv_iload hx hb d_WM_minutesOfWay_69 (lv_at hl 0 rfl) ?_
        refine lv_iconst (v := 2) hx hb d_WM_minutesOfWay_71 (by decide +kernel) ?_
        refine lv_imul hx hb d_WM_minutesOfWay_72 ?_
        refine lv_iconst (v := 3) hx hb d_WM_minutesOfWay_73 (by decide +kernel) ?_
        refine lv_idiv hx hb d_WM_minutesOfWay_74 (by decide) ?_
        refine lv_goto (tgt := 80) hx hb d_WM_minutesOfWay_75 (by decide) ?_
        refine va_mmax hx hb (hml.trans hl.1.symm) hown (htb (.methodLink R_WM 370 Lib.Math.max.name) tw_561) (htb (.static Lib.Math.max.name) tw_54) (htb (.initialized "java/lang/Math") tw_55) (htb (.code Lib.Math.max.name Lib.Math.max.code 2 (some .int)) tw_56) (Nat.le_of_ble_eq_true rfl) (Nat.le_of_ble_eq_true rfl) (Nat.le_of_ble_eq_true rfl) (Nat.le_of_ble_eq_true rfl) d_WM_minutesOfWay_80 ?_
        refine hb_eqi (fun y_16 hy_16 => ?_)
        have hQ := hQ y_16 hy_16
        exact W.iret (v := y_16) hx hb hr (fun t ht hW => ⟨y_16, rfl, ⟨trivial, hQ⟩, ht⟩) t_nil d_WM_minutesOfWay_83
    · have hQ := hQ.2 c_11
      refine lv_bipush (v := 14) hx hb d_WM_minutesOfWay_34 (by decide +kernel) ?_
      refine lv_goto (tgt := 41) hx hb d_WM_minutesOfWay_36 (by decide) ?_
      refine lv_istore (lv' := [(4, .int 14), (3, .int r_9), (0, .ref q0), (1, .ref pq_0), (2, .int p_1)]) hx hb d_WM_minutesOfWay_41 hl (by decide) rfl (fun ls hl => ?_)
      refine lv_aload_n hx hb d_WM_minutesOfWay_43 rfl (lv_at hl 2 rfl) ?_
      refine tw_getR (D := (dC, dI)) (C := R_WM) (T := F_WM) (N := 13) (ci := 0) (kd := 0) (ct := ct) hx hb htb i_WM hown hK hP m0 rfl rfl 0 e_1 (by decide) (htb (.fieldLink R_WM 12 "WaterMen" "river" "LWaterMen$River;") tw_135) (fun _ h9 => h9) rfl d_WM_minutesOfWay_44 ?_
      refine hb_tv (.ref q_1) rfl ?_
      refine lv_aload_n hx hb d_WM_minutesOfWay_47 rfl (lv_at hl 3 rfl) ?_
      refine tw_getI (x := x_2) (D := (dC, dI)) (C := R_Bt) (T := F_Bt) (N := 6) (ci := 9) (kd := 24) (ct := ct) hx hb htb i_Bt hown hK hP pm_0 rfl rfl 1 e_2 (by decide) (htb (.fieldLink R_WM 178 "WaterMen$Boat" "stairs" "I") tw_517) (fun _ h9 => h9) rfl d_WM_minutesOfWay_48 ?_
      refine lv_iload_n hx hb d_WM_minutesOfWay_51 rfl (lv_at hl 4 rfl) ?_
      refine vp_callSi (va_Run.run (va_runV (As := [.int x_2, .int p_1]) (rest := []) ⟨hx, hb, hml, hown, htb⟩ (c_Rv_distance_w l dC dI ct L f hO_0 q_1 m_1 x_2 p_1 b_2.1 b_2.2 as_0 as_1 _ hQ) (cwV 2 htb (gd_V tw_413 tw_414 tw_415 tw_140 tw_412) rfl rfl rfl (by decide +kernel) ⟨Nat.le_of_ble_eq_true rfl, Nat.le_of_ble_eq_true rfl⟩) ⟨pr_blind, tw_recv hK hP m_1 rfl rfl, pr_pre hP hK hN⟩ rfl rfl hl.1 rfl (lv_room (Nat.le_of_ble_eq_true rfl)) d_WM_minutesOfWay_52 ⟨Nat.le_of_ble_eq_true rfl, Nat.le_of_ble_eq_true rfl⟩)) (fun r_17 er_17 => ?_)
      obtain ⟨er_17, hQ⟩ := er_17
      clear er_17
      refine lv_iload hx hb d_WM_minutesOfWay_55 (lv_at hl 0 rfl) ?_
      refine lv_imul hx hb d_WM_minutesOfWay_57 ?_
      refine lv_istore (lv' := [(5, .int (r_17 * 14)), (4, .int 14), (3, .int r_9), (0, .ref q0), (1, .ref pq_0), (2, .int p_1)]) hx hb d_WM_minutesOfWay_58 hl (by decide) rfl (fun ls hl => ?_)
      refine lv_iconst (v := 1) hx hb d_WM_minutesOfWay_60 (by decide +kernel) ?_
      refine lv_aload_n hx hb d_WM_minutesOfWay_61 rfl (lv_at hl 4 rfl) ?_
      refine tw_geti (D := (dC, dI)) (C := R_Bt) (T := F_Bt) (N := 6) (ci := 9) (kd := 24) (ct := ct) hx hb htb i_Bt hown hK hP hO_0 pm_0 rfl rfl 0 (by decide) (htb (.fieldLink R_WM 181 "WaterMen$Boat" "oars" "I") tw_518) (fun _ h9 => h9) rfl d_WM_minutesOfWay_62 (fun x_18 e_18 b_18 => ?_)
      have hQ := hQ x_18 e_18
      refine lv_iconst (v := 2) hx hb d_WM_minutesOfWay_65 (by decide +kernel) ?_
      refine lv_icmp_ne (tgt := 78) hx hb d_WM_minutesOfWay_66 (by decide) (fun c_19 => ?_) (fun c_19 => ?_)
      · have hQ := hQ.2 c_19
        refine lv_iload hx hb d_WM_minutesOfWay_78 (lv_at hl 0 rfl) ?_
        refine va_mmax hx hb (hml.trans hl.1.symm) hown (htb (.methodLink R_WM 370 Lib.Math.max.name) tw_561) (htb (.static Lib.Math.max.name) tw_54) (htb (.initialized "java/lang/Math") tw_55) (htb (.code Lib.Math.max.name Lib.Math.max.code 2 (some .int)) tw_56) (Nat.le_of_ble_eq_true rfl) (Nat.le_of_ble_eq_true rfl) (Nat.le_of_ble_eq_true rfl) (Nat.le_of_ble_eq_true rfl) d_WM_minutesOfWay_80 ?_
        refine hb_eqi (fun y_20 hy_20 => ?_)
        have hQ := hQ y_20 hy_20
        exact W.iret (v := y_20) hx hb hr (fun t ht hW => ⟨y_20, rfl, ⟨trivial, hQ⟩, ht⟩) t_nil d_WM_minutesOfWay_83
      · have hQ := hQ.1 c_19
        refine lv_iload hx hb d_WM_minutesOfWay_69 (lv_at hl 0 rfl) ?_
        refine lv_iconst (v := 2) hx hb d_WM_minutesOfWay_71 (by decide +kernel) ?_
        refine lv_imul hx hb d_WM_minutesOfWay_72 ?_
        refine lv_iconst (v := 3) hx hb d_WM_minutesOfWay_73 (by decide +kernel) ?_
        refine lv_idiv hx hb d_WM_minutesOfWay_74 (by decide) ?_
        refine lv_goto (tgt := 80) hx hb d_WM_minutesOfWay_75 (by decide) ?_
        refine va_mmax hx hb (hml.trans hl.1.symm) hown (htb (.methodLink R_WM 370 Lib.Math.max.name) tw_561) (htb (.static Lib.Math.max.name) tw_54) (htb (.initialized "java/lang/Math") tw_55) (htb (.code Lib.Math.max.name Lib.Math.max.code 2 (some .int)) tw_56) (Nat.le_of_ble_eq_true rfl) (Nat.le_of_ble_eq_true rfl) (Nat.le_of_ble_eq_true rfl) (Nat.le_of_ble_eq_true rfl) d_WM_minutesOfWay_80 ?_
        refine hb_eqi (fun y_21 hy_21 => ?_)
        have hQ := hQ y_21 hy_21
        exact W.iret (v := y_21) hx hb hr (fun t ht hW => ⟨y_21, rfl, ⟨trivial, hQ⟩, ht⟩) t_nil d_WM_minutesOfWay_83
  · have hQ := hQ.2 c_10
    refine lv_bipush (v := 7) hx hb d_WM_minutesOfWay_25 (by decide +kernel) ?_
    refine lv_goto (tgt := 41) hx hb d_WM_minutesOfWay_27 (by decide) ?_
    refine lv_istore (lv' := [(4, .int 7), (3, .int r_9), (0, .ref q0), (1, .ref pq_0), (2, .int p_1)]) hx hb d_WM_minutesOfWay_41 hl (by decide) rfl (fun ls hl => ?_)
    refine lv_aload_n hx hb d_WM_minutesOfWay_43 rfl (lv_at hl 2 rfl) ?_
    refine tw_getR (D := (dC, dI)) (C := R_WM) (T := F_WM) (N := 13) (ci := 0) (kd := 0) (ct := ct) hx hb htb i_WM hown hK hP m0 rfl rfl 0 e_1 (by decide) (htb (.fieldLink R_WM 12 "WaterMen" "river" "LWaterMen$River;") tw_135) (fun _ h9 => h9) rfl d_WM_minutesOfWay_44 ?_
    refine hb_tv (.ref q_1) rfl ?_
    refine lv_aload_n hx hb d_WM_minutesOfWay_47 rfl (lv_at hl 3 rfl) ?_
    refine tw_getI (x := x_2) (D := (dC, dI)) (C := R_Bt) (T := F_Bt) (N := 6) (ci := 9) (kd := 24) (ct := ct) hx hb htb i_Bt hown hK hP pm_0 rfl rfl 1 e_2 (by decide) (htb (.fieldLink R_WM 178 "WaterMen$Boat" "stairs" "I") tw_517) (fun _ h9 => h9) rfl d_WM_minutesOfWay_48 ?_
    refine lv_iload_n hx hb d_WM_minutesOfWay_51 rfl (lv_at hl 4 rfl) ?_
    refine vp_callSi (va_Run.run (va_runV (As := [.int x_2, .int p_1]) (rest := []) ⟨hx, hb, hml, hown, htb⟩ (c_Rv_distance_w l dC dI ct L f hO_0 q_1 m_1 x_2 p_1 b_2.1 b_2.2 as_0 as_1 _ hQ) (cwV 2 htb (gd_V tw_413 tw_414 tw_415 tw_140 tw_412) rfl rfl rfl (by decide +kernel) ⟨Nat.le_of_ble_eq_true rfl, Nat.le_of_ble_eq_true rfl⟩) ⟨pr_blind, tw_recv hK hP m_1 rfl rfl, pr_pre hP hK hN⟩ rfl rfl hl.1 rfl (lv_room (Nat.le_of_ble_eq_true rfl)) d_WM_minutesOfWay_52 ⟨Nat.le_of_ble_eq_true rfl, Nat.le_of_ble_eq_true rfl⟩)) (fun r_22 er_22 => ?_)
    obtain ⟨er_22, hQ⟩ := er_22
    clear er_22
    refine lv_iload hx hb d_WM_minutesOfWay_55 (lv_at hl 0 rfl) ?_
    refine lv_imul hx hb d_WM_minutesOfWay_57 ?_
    refine lv_istore (lv' := [(5, .int (r_22 * 7)), (4, .int 7), (3, .int r_9), (0, .ref q0), (1, .ref pq_0), (2, .int p_1)]) hx hb d_WM_minutesOfWay_58 hl (by decide) rfl (fun ls hl => ?_)
    refine lv_iconst (v := 1) hx hb d_WM_minutesOfWay_60 (by decide +kernel) ?_
    refine lv_aload_n hx hb d_WM_minutesOfWay_61 rfl (lv_at hl 4 rfl) ?_
    refine tw_geti (D := (dC, dI)) (C := R_Bt) (T := F_Bt) (N := 6) (ci := 9) (kd := 24) (ct := ct) hx hb htb i_Bt hown hK hP hO_0 pm_0 rfl rfl 0 (by decide) (htb (.fieldLink R_WM 181 "WaterMen$Boat" "oars" "I") tw_518) (fun _ h9 => h9) rfl d_WM_minutesOfWay_62 (fun x_23 e_23 b_23 => ?_)
    have hQ := hQ x_23 e_23
    refine lv_iconst (v := 2) hx hb d_WM_minutesOfWay_65 (by decide +kernel) ?_
    refine lv_icmp_ne (tgt := 78) hx hb d_WM_minutesOfWay_66 (by decide) (fun c_24 => ?_) (fun c_24 => ?_)
    · have hQ := hQ.2 c_24
      refine lv_iload hx hb d_WM_minutesOfWay_78 (lv_at hl 0 rfl) ?_
      refine va_mmax hx hb (hml.trans hl.1.symm) hown (htb (.methodLink R_WM 370 Lib.Math.max.name) tw_561) (htb (.static Lib.Math.max.name) tw_54) (htb (.initialized "java/lang/Math") tw_55) (htb (.code Lib.Math.max.name Lib.Math.max.code 2 (some .int)) tw_56) (Nat.le_of_ble_eq_true rfl) (Nat.le_of_ble_eq_true rfl) (Nat.le_of_ble_eq_true rfl) (Nat.le_of_ble_eq_true rfl) d_WM_minutesOfWay_80 ?_
      refine hb_eqi (fun y_25 hy_25 => ?_)
      have hQ := hQ y_25 hy_25
      exact W.iret (v := y_25) hx hb hr (fun t ht hW => ⟨y_25, rfl, ⟨trivial, hQ⟩, ht⟩) t_nil d_WM_minutesOfWay_83
    · have hQ := hQ.1 c_24
      refine lv_iload hx hb d_WM_minutesOfWay_69 (lv_at hl 0 rfl) ?_
      refine lv_iconst (v := 2) hx hb d_WM_minutesOfWay_71 (by decide +kernel) ?_
      refine lv_imul hx hb d_WM_minutesOfWay_72 ?_
      refine lv_iconst (v := 3) hx hb d_WM_minutesOfWay_73 (by decide +kernel) ?_
      refine lv_idiv hx hb d_WM_minutesOfWay_74 (by decide) ?_
      refine lv_goto (tgt := 80) hx hb d_WM_minutesOfWay_75 (by decide) ?_
      refine va_mmax hx hb (hml.trans hl.1.symm) hown (htb (.methodLink R_WM 370 Lib.Math.max.name) tw_561) (htb (.static Lib.Math.max.name) tw_54) (htb (.initialized "java/lang/Math") tw_55) (htb (.code Lib.Math.max.name Lib.Math.max.code 2 (some .int)) tw_56) (Nat.le_of_ble_eq_true rfl) (Nat.le_of_ble_eq_true rfl) (Nat.le_of_ble_eq_true rfl) (Nat.le_of_ble_eq_true rfl) d_WM_minutesOfWay_80 ?_
      refine hb_eqi (fun y_26 hy_26 => ?_)
      have hQ := hQ y_26 hy_26
      exact W.iret (v := y_26) hx hb hr (fun t ht hW => ⟨y_26, rfl, ⟨trivial, hQ⟩, ht⟩) t_nil d_WM_minutesOfWay_83
