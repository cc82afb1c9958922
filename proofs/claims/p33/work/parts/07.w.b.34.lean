def W_WM_pension_w : List (Nat × Nat) := [(12, 6), (14, 1000), (26, 0), (26, 1)]
def wp_WM_pension_w (L : List Nat) (f : TF) (q0 : Nat) (p_0 : Int32) (p_1 : Int32) (Q : Int32 → List Nat → TF → Prop) : Prop := ((p_0 < 1 → Q (-1) L f) ∧ (¬ (p_0 < 1) → ((10000 < p_0 → Q (-1) L f) ∧ (¬ (10000 < p_0) → ((p_1 < 0 → Q (-1) L f) ∧ (¬ (p_1 < 0) → ((9999 < p_1 → Q (-1) L f) ∧ (¬ (9999 < p_1) → ∀ q_6 : Nat, tr f q0 6 = some q_6 → ∀ x_7 : Int32, ti f q_6 6 = x_7 → ((x_7 < 30 → wp_Bx_take_w L f q_6 p_0 p_1 (fun (r_9 : Int32) (L_1 : List Nat) (f_1 : TF) => Ok L_1 f_1 → Ext W_Bx_take_w L f L_1 f_1 → Q r_9 L_1 f_1)) ∧ (¬ (x_7 < 30) → Q (-3) L f))))))))))
set_option maxHeartbeats 4000000 in
set_option maxRecDepth 100000 in
theorem c_WM_pension_w (l : Launch) (dC : Nat → ClassId) (dI : Nat → Nat → Nat) (ct : Nat → ClassId) (L : List Nat) (f : TF) (hO_0 : Ok L f) (q0 : Nat) (m0 : q0 ∈ L ∧ tk f q0 = 0) (sz : Nat) (p_0 : Int32) (p_1 : Int32)   (Q : Int32 → List Nat → TF → Prop) (hQ : wp_WM_pension_w L f q0 p_0 p_1 Q) : Met l y_WM_pension (.code y_WM_pension b_WM_pension 3 (some .int) :: TB) ({ frames := 3, cells := 1, slots := 3, locals := 56 }) (va_Pc [.ref q0, .int p_0, .int p_1] (PC dC dI (TW ct L f) (TT ct) sz)) (va_Qi (fun r (u : TSt) => Ok u.1 u.2 ∧ Ext W_WM_pension_w L f u.1 u.2 ∧ (True) ∧ Q r u.1 u.2) (fun (u : TSt) t => va_P (dC, dI) vwCl (TW ct u.1 u.2) t.heap ∧ va_K (dC, dI) vwCl (TT ct) t ∧ va_D (va_A (TW ct L f) sz) (TW ct u.1 u.2)) (va_A (TW ct L f) sz)) 1 3 (va_A (TW ct L f) sz) := by
  refine Met.ofW (cc := b_WM_pension) (maxL := 3) (ret := (some .int)) (by decide) rfl ?_
  intro p e s m args below meth c s₁ B hml hv
  obtain ⟨rfl, hsz, hP, hK, hD0, hN⟩ := hv
  have hx := B.exec
  have hb := B.bytes
  have hr := B.returns
  have hts := atoms_spec (ws := (.code y_WM_pension b_WM_pension 3 (some .int) :: TB)) B.pre
  have htb := fun w (h : w ∈ TB) => hts w (List.mem_cons_of_mem _ h)
  have hown : s.vm.findClass R_WM = some m.cls := findClass_of_methodNamed B.named
  have hlocks := B.notSynchronized
  have hl := lv_entry ([.ref q0, .int p_0, .int p_1]) (n := 3) (Nat.le_of_ble_eq_true rfl)
  rw [lg_entry_eq]
  generalize (lg_sl ([.ref q0, .int p_0, .int p_1]) ++ List.replicate (3 - (lg_sl ([.ref q0, .int p_0, .int p_1])).length) Slot.unset).toArray = ls at hl ⊢
  have hl : lv_has ls 3 [(0, .ref q0), (1, .int p_0), (2, .int p_1)] := hl
  subst hsz
  have hD := hD0.self (sz := s.heap.size)
  obtain ⟨A, hAe⟩ : ∃ A, va_A (TW ct L f) s.heap.size = A := ⟨_, rfl⟩
  rw [hAe] at hD
  have hA : ∀ q : Nat, s.heap.size ≤ q → A q := fun q h => by rw [← hAe]; exact Or.inr h
  have hS : va_S A s.heap s.heap [] := va_S.rf
  have hA_0 : Ext [] L f L f := Ext.rf
  suffices hGo : ∀ (H : Heap) (locs : List Loc), va_P (dC, dI) vwCl (TW ct L f) H → va_S A s.heap H locs → W p l e (headSpec (.code y_WM_pension b_WM_pension 3 (some .int) :: TB) ({ frames := 3, cells := 1, slots := 3, locals := 56 })).room s m [.ref q0, .int p_0, .int p_1].toArray below meth c H locs 0 0 (MQ below (va_Qi (fun r (u : TSt) => Ok u.1 u.2 ∧ Ext W_WM_pension_w L f u.1 u.2 ∧ (True) ∧ Q r u.1 u.2) (fun (u : TSt) t => va_P (dC, dI) vwCl (TW ct u.1 u.2) t.heap ∧ va_K (dC, dI) vwCl (TT ct) t ∧ va_D (va_A (TW ct L f) s.heap.size) (TW ct u.1 u.2)) (va_A (TW ct L f) s.heap.size)) [.ref q0, .int p_0, .int p_1].toArray s 1 3 (va_A (TW ct L f) s.heap.size)) (F0 m 0 ls []) from hGo _ _ hP hS
  clear hP hS
  intro H locs hP hS
  unfold wp_WM_pension_w at hQ
  refine lv_iload_n hx hb d_WM_pension_0 rfl (lv_at hl 1 rfl) ?_
  refine lv_iload_n hx hb d_WM_pension_1 rfl (lv_at hl 2 rfl) ?_
  refine vp_callSi (va_Run.run (va_runS (As := [.int p_0, .int p_1]) (rest := []) ⟨hx, hb, hml, hown, htb⟩ (c_WM_isPension l p_0 p_1) (cwS 2 htb (gd_S tw_631 tw_632 tw_26 tw_630) rfl rfl rfl (by decide +kernel) ⟨Nat.le_of_ble_eq_true rfl, Nat.le_of_ble_eq_true rfl⟩) ⟨fun _ _ _ _ h => h, fun U _ _ => ⟨rfl, trivial⟩⟩ rfl rfl hl.1 rfl (lv_room (Nat.le_of_ble_eq_true rfl)) d_WM_pension_2 ⟨Nat.le_of_ble_eq_true rfl, Nat.le_of_ble_eq_true rfl⟩)) (fun r er => ?_)
  subst er
  by_cases c_2 : p_0 < 1
  · have hQ := hQ.1 c_2
    refine hb_ti 0 (by unfold f_WM_isPension; rw [if_pos c_2]; first | done | rfl) ?_
    refine lv_if_ne (tgt := 10) hx hb d_WM_pension_5 (by decide) (fun h => absurd (by decide +kernel) h) (fun _ => ?_)
    refine lv_iconst (v := (-1)) hx hb d_WM_pension_8 (by decide +kernel) ?_
    refine W.widen (k := 1) (n := 3) (Nat.le_of_ble_eq_true rfl) (Nat.le_of_ble_eq_true rfl) ?_
    exact W.iret (v := (-1)) hx hb hr (fun t ht hW => ⟨⟨(-1), (L, f), rfl, ⟨hO_0, hA_0.mono (by decide +kernel), trivial, hQ⟩, by rw [ht]; exact hP, va_K.moved hW.alike hK, by rw [hAe]; exact hD⟩, by rw [hAe]; exact hS.F ht⟩) (by rw [hAe]; exact hS.2.2) d_WM_pension_9
  · have hQ := hQ.2 c_2
    by_cases c_3 : 10000 < p_0
    · have hQ := hQ.1 c_3
      refine hb_ti 0 (by unfold f_WM_isPension; rw [if_neg c_2, if_pos c_3]; first | done | rfl) ?_
      refine lv_if_ne (tgt := 10) hx hb d_WM_pension_5 (by decide) (fun h => absurd (by decide +kernel) h) (fun _ => ?_)
      refine lv_iconst (v := (-1)) hx hb d_WM_pension_8 (by decide +kernel) ?_
      refine W.widen (k := 1) (n := 3) (Nat.le_of_ble_eq_true rfl) (Nat.le_of_ble_eq_true rfl) ?_
      exact W.iret (v := (-1)) hx hb hr (fun t ht hW => ⟨⟨(-1), (L, f), rfl, ⟨hO_0, hA_0.mono (by decide +kernel), trivial, hQ⟩, by rw [ht]; exact hP, va_K.moved hW.alike hK, by rw [hAe]; exact hD⟩, by rw [hAe]; exact hS.F ht⟩) (by rw [hAe]; exact hS.2.2) d_WM_pension_9
    · have hQ := hQ.2 c_3
      by_cases c_4 : p_1 < 0
      · have hQ := hQ.1 c_4
        refine hb_ti 0 (by unfold f_WM_isPension; rw [if_neg c_2, if_neg c_3, if_pos c_4]; first | done | rfl) ?_
        refine lv_if_ne (tgt := 10) hx hb d_WM_pension_5 (by decide) (fun h => absurd (by decide +kernel) h) (fun _ => ?_)
        refine lv_iconst (v := (-1)) hx hb d_WM_pension_8 (by decide +kernel) ?_
        refine W.widen (k := 1) (n := 3) (Nat.le_of_ble_eq_true rfl) (Nat.le_of_ble_eq_true rfl) ?_
        exact W.iret (v := (-1)) hx hb hr (fun t ht hW => ⟨⟨(-1), (L, f), rfl, ⟨hO_0, hA_0.mono (by decide +kernel), trivial, hQ⟩, by rw [ht]; exact hP, va_K.moved hW.alike hK, by rw [hAe]; exact hD⟩, by rw [hAe]; exact hS.F ht⟩) (by rw [hAe]; exact hS.2.2) d_WM_pension_9
      · have hQ := hQ.2 c_4
        by_cases c_5 : 9999 < p_1
        · have hQ := hQ.1 c_5
          refine hb_ti 0 (by unfold f_WM_isPension; rw [if_neg c_2, if_neg c_3, if_neg c_4, if_pos c_5]; first | done | rfl) ?_
          refine lv_if_ne (tgt := 10) hx hb d_WM_pension_5 (by decide) (fun h => absurd (by decide +kernel) h) (fun _ => ?_)
          refine lv_iconst (v := (-1)) hx hb d_WM_pension_8 (by decide +kernel) ?_
          refine W.widen (k := 1) (n := 3) (Nat.le_of_ble_eq_true rfl) (Nat.le_of_ble_eq_true rfl) ?_
          exact W.iret (v := (-1)) hx hb hr (fun t ht hW => ⟨⟨(-1), (L, f), rfl, ⟨hO_0, hA_0.mono (by decide +kernel), trivial, hQ⟩, by rw [ht]; exact hP, va_K.moved hW.alike hK, by rw [hAe]; exact hD⟩, by rw [hAe]; exact hS.F ht⟩) (by rw [hAe]; exact hS.2.2) d_WM_pension_9
        · have hQ := hQ.2 c_5
          refine hb_ti 1 (by unfold f_WM_isPension; rw [if_neg c_2, if_neg c_3, if_neg c_4, if_neg c_5]; first | done | rfl) ?_
          refine lv_if_ne (tgt := 10) hx hb d_WM_pension_5 (by decide) (fun _ => ?_) (fun h => absurd h (by decide +kernel))
          refine lv_aload_n hx hb d_WM_pension_10 rfl (lv_at hl 0 rfl) ?_
          refine tw_getr (D := (dC, dI)) (C := R_WM) (T := F_WM) (N := 13) (ci := 0) (kd := 0) (ct := ct) hx hb htb i_WM hown hK hP hO_0 m0 rfl rfl 6 (by decide) (htb (.fieldLink R_WM 50 "WaterMen" "box" "LWaterMen$Box;") tw_48) (fun _ h9 => h9) rfl d_WM_pension_11 (fun q_6 e_6 m_6 => ?_)
          have hQ := hQ q_6 e_6
          refine tw_geti (D := (dC, dI)) (C := R_Bx) (T := F_Bx) (N := 7) (ci := 5) (kd := 12) (ct := ct) hx hb htb i_Bx hown hK hP hO_0 m_6 rfl rfl 6 (by decide) (htb (.fieldLink R_WM 280 "WaterMen$Box" "pensionerCount" "I") tw_633) (fun _ h9 => h9) rfl d_WM_pension_14 (fun x_7 e_7 b_7 => ?_)
          have hQ := hQ x_7 e_7
          refine lv_bipush (v := 30) hx hb d_WM_pension_17 (by decide +kernel) ?_
          refine lv_icmp_lt (tgt := 27) hx hb d_WM_pension_19 (by decide) (fun c_8 => ?_) (fun c_8 => ?_)
          · have hQ := hQ.1 c_8
            refine lv_aload_n hx hb d_WM_pension_27 rfl (lv_at hl 0 rfl) ?_
            refine tw_getR (D := (dC, dI)) (C := R_WM) (T := F_WM) (N := 13) (ci := 0) (kd := 0) (ct := ct) hx hb htb i_WM hown hK hP m0 rfl rfl 6 e_6 (by decide) (htb (.fieldLink R_WM 50 "WaterMen" "box" "LWaterMen$Box;") tw_48) (fun _ h9 => h9) rfl d_WM_pension_28 ?_
            refine hb_tv (.ref q_6) rfl ?_
            refine lv_iload_n hx hb d_WM_pension_31 rfl (lv_at hl 1 rfl) ?_
            refine lv_iload_n hx hb d_WM_pension_32 rfl (lv_at hl 2 rfl) ?_
            have hFc := hb_free hD hS hA
            refine va_calli (va_runV (As := [.int p_0, .int p_1]) (rest := []) ⟨hx, hb, hml, hown, htb⟩ (c_Bx_take_w l dC dI ct L f hO_0 q_6 m_6 _ p_0 p_1 (by rw [show ti f q_6 6 = x_7 from e_7]; first | done | exact (show ¬ (29 < x_7) from by have e0 := b_7.1; rw [Int32.lt_iff_toInt_lt] at e0; have e1 := c_8; rw [Int32.lt_iff_toInt_lt] at e1; have z0 : (0 : Int32).toInt = 0 := (by decide +kernel); have z1 : (29 : Int32).toInt = 29 := (by decide +kernel); have z2 : (30 : Int32).toInt = 30 := (by decide +kernel); rw [Int32.lt_iff_toInt_lt]; omega)) _ hQ) (cwV 2 htb (gd_V tw_650 tw_651 tw_652 tw_61 tw_649) rfl rfl rfl (by decide +kernel) ⟨Nat.le_of_ble_eq_true rfl, Nat.le_of_ble_eq_true rfl⟩) ⟨pc_blind, tw_recv hK hP m_6 rfl rfl, pc_pre hP hK hD hN⟩ rfl rfl hl.1 rfl (lv_room (Nat.le_of_ble_eq_true rfl)) d_WM_pension_33 ⟨Nat.le_of_ble_eq_true rfl, Nat.le_of_ble_eq_true rfl⟩) hS (fun q _ h => hFc q h) hFc (fun r_9 u t H locs ht hvm er hB hz1 hk1 hS => ?_)
            obtain ⟨L_1, f_1⟩ := u
            obtain ⟨hO_1, hE_1, er, hQ⟩ := er
            obtain ⟨hP, hK1, hD1⟩ := hB
            rw [ht] at hP
            have hP : va_P (dC, dI) vwCl (TW ct L_1 f_1) H := hP
            have hD : va_D A (TW ct L_1 f_1) := hD1.weaken (fun _ q _ h => hFc q.1 h)
            have hO_1 : Ok L_1 f_1 := hO_1
            have hE_1 : Ext W_Bx_take_w L f L_1 f_1 := hE_1
            clear hK1 hD1 ht hvm hz1 hk1
            have hA_1 := hA_0.trans hE_1
            have hQ := hQ hO_1 hE_1
            clear er
            refine W.widen (k := 1) (n := 3) (Nat.le_of_ble_eq_true rfl) (Nat.le_of_ble_eq_true rfl) ?_
            exact W.iret (v := r_9) hx hb hr (fun t ht hW => ⟨⟨r_9, (L_1, f_1), rfl, ⟨hO_1, hA_1.mono (by decide +kernel), trivial, hQ⟩, by rw [ht]; exact hP, va_K.moved hW.alike hK, by rw [hAe]; exact hD⟩, by rw [hAe]; exact hS.F ht⟩) (by rw [hAe]; exact hS.2.2) d_WM_pension_36
          · have hQ := hQ.2 c_8
            refine lv_bipush (v := (-3)) hx hb d_WM_pension_22 (by decide +kernel) ?_
            refine lv_goto (tgt := 36) hx hb d_WM_pension_24 (by decide) ?_
            refine W.widen (k := 1) (n := 3) (Nat.le_of_ble_eq_true rfl) (Nat.le_of_ble_eq_true rfl) ?_
            exact W.iret (v := (-3)) hx hb hr (fun t ht hW => ⟨⟨(-3), (L, f), rfl, ⟨hO_0, hA_0.mono (by decide +kernel), trivial, hQ⟩, by rw [ht]; exact hP, va_K.moved hW.alike hK, by rw [hAe]; exact hD⟩, by rw [hAe]; exact hS.F ht⟩) (by rw [hAe]; exact hS.2.2) d_WM_pension_36
def W_Md_pension_w : List (Nat × Nat) := [(27, 60), (72, 1000), (73, 1000)]
def wp_Md_pension_w (L : List Nat) (f : TF) (q0 : Nat) (p_0 : Int32) (p_1 : Int32) (Q : Int32 → List Nat → TF → Prop) : Prop := ((p_0 < 1 → Q (-1) L f) ∧ (¬ (p_0 < 1) → ((10000 < p_0 → Q (-1) L f) ∧ (¬ (10000 < p_0) → ((p_1 < 0 → Q (-1) L f) ∧ (¬ (p_1 < 0) → ((9999 < p_1 → Q (-1) L f) ∧ (¬ (9999 < p_1) → ∀ x_6 : Int32, ti f q0 60 = x_6 → ((x_6 = 30 → Q (-3) L f) ∧ (¬ (x_6 = 30) → wp_Md_newPensioner_w L f q0 p_0 p_1 (fun (r_8 : Int32) (L_1 : List Nat) (f_1 : TF) => Ok L_1 f_1 → Ext W_Md_newPensioner_w L f L_1 f_1 → Q r_8 L_1 f_1)))))))))))
set_option maxHeartbeats 4000000 in
set_option maxRecDepth 100000 in
theorem c_Md_pension_w (l : Launch) (dC : Nat → ClassId) (dI : Nat → Nat → Nat) (ct : Nat → ClassId) (L : List Nat) (f : TF) (hO_0 : Ok L f) (q0 : Nat) (m0 : q0 ∈ L ∧ tk f q0 = 27) (sz : Nat) (p_0 : Int32) (p_1 : Int32)   (Q : Int32 → List Nat → TF → Prop) (hQ : wp_Md_pension_w L f q0 p_0 p_1 Q) : Met l y_Md_pension (.code y_Md_pension b_Md_pension 3 (some .int) :: TB) ({ frames := 2, cells := 0, slots := 0, locals := 43 }) (va_Pc [.ref q0, .int p_0, .int p_1] (PC dC dI (TW ct L f) (TT ct) sz)) (va_Qi (fun r (u : TSt) => Ok u.1 u.2 ∧ Ext W_Md_pension_w L f u.1 u.2 ∧ (True) ∧ Q r u.1 u.2) (fun (u : TSt) t => va_P (dC, dI) vwCl (TW ct u.1 u.2) t.heap ∧ va_K (dC, dI) vwCl (TT ct) t ∧ va_D (va_A (TW ct L f) sz) (TW ct u.1 u.2)) (va_A (TW ct L f) sz)) 0 0 (va_A (TW ct L f) sz) := by
  refine Met.ofW (cc := b_Md_pension) (maxL := 3) (ret := (some .int)) (by decide) rfl ?_
  intro p e s m args below meth c s₁ B hml hv
  obtain ⟨rfl, hsz, hP, hK, hD0, hN⟩ := hv
  have hx := B.exec
  have hb := B.bytes
  have hr := B.returns
  have hts := atoms_spec (ws := (.code y_Md_pension b_Md_pension 3 (some .int) :: TB)) B.pre
  have htb := fun w (h : w ∈ TB) => hts w (List.mem_cons_of_mem _ h)
  have hown : s.vm.findClass R_Md = some m.cls := findClass_of_methodNamed B.named
  have hlocks := B.notSynchronized
  have hl := lv_entry ([.ref q0, .int p_0, .int p_1]) (n := 3) (Nat.le_of_ble_eq_true rfl)
  rw [lg_entry_eq]
  generalize (lg_sl ([.ref q0, .int p_0, .int p_1]) ++ List.replicate (3 - (lg_sl ([.ref q0, .int p_0, .int p_1])).length) Slot.unset).toArray = ls at hl ⊢
  have hl : lv_has ls 3 [(0, .ref q0), (1, .int p_0), (2, .int p_1)] := hl
  subst hsz
  have hD := hD0.self (sz := s.heap.size)
  obtain ⟨A, hAe⟩ : ∃ A, va_A (TW ct L f) s.heap.size = A := ⟨_, rfl⟩
  rw [hAe] at hD
  have hA : ∀ q : Nat, s.heap.size ≤ q → A q := fun q h => by rw [← hAe]; exact Or.inr h
  have hS : va_S A s.heap s.heap [] := va_S.rf
  have hA_0 : Ext [] L f L f := Ext.rf
  suffices hGo : ∀ (H : Heap) (locs : List Loc), va_P (dC, dI) vwCl (TW ct L f) H → va_S A s.heap H locs → W p l e (headSpec (.code y_Md_pension b_Md_pension 3 (some .int) :: TB) ({ frames := 2, cells := 0, slots := 0, locals := 43 })).room s m [.ref q0, .int p_0, .int p_1].toArray below meth c H locs 0 0 (MQ below (va_Qi (fun r (u : TSt) => Ok u.1 u.2 ∧ Ext W_Md_pension_w L f u.1 u.2 ∧ (True) ∧ Q r u.1 u.2) (fun (u : TSt) t => va_P (dC, dI) vwCl (TW ct u.1 u.2) t.heap ∧ va_K (dC, dI) vwCl (TT ct) t ∧ va_D (va_A (TW ct L f) s.heap.size) (TW ct u.1 u.2)) (va_A (TW ct L f) s.heap.size)) [.ref q0, .int p_0, .int p_1].toArray s 0 0 (va_A (TW ct L f) s.heap.size)) (F0 m 0 ls []) from hGo _ _ hP hS
  clear hP hS
  intro H locs hP hS
  unfold wp_Md_pension_w at hQ
  refine lv_iload_n hx hb d_Md_pension_0 rfl (lv_at hl 1 rfl) ?_
  refine lv_iload_n hx hb d_Md_pension_1 rfl (lv_at hl 2 rfl) ?_
  refine vp_callSi (va_Run.run (va_runS (As := [.int p_0, .int p_1]) (rest := []) ⟨hx, hb, hml, hown, htb⟩ (c_Md_isPension l p_0 p_1) (cwS 2 htb (gd_S tw_655 tw_656 tw_89 tw_654) rfl rfl rfl (by decide +kernel) ⟨Nat.le_of_ble_eq_true rfl, Nat.le_of_ble_eq_true rfl⟩) ⟨fun _ _ _ _ h => h, fun U _ _ => ⟨rfl, trivial⟩⟩ rfl rfl hl.1 rfl (lv_room (Nat.le_of_ble_eq_true rfl)) d_Md_pension_2 ⟨Nat.le_of_ble_eq_true rfl, Nat.le_of_ble_eq_true rfl⟩)) (fun r er => ?_)
  subst er
  by_cases c_2 : p_0 < 1
  · have hQ := hQ.1 c_2
    refine hb_ti 0 (by unfold f_Md_isPension; rw [if_pos c_2]; first | done | rfl) ?_
    refine lv_if_ne (tgt := 10) hx hb d_Md_pension_5 (by decide) (fun h => absurd (by decide +kernel) h) (fun _ => ?_)
    refine lv_iconst (v := (-1)) hx hb d_Md_pension_8 (by decide +kernel) ?_
    refine W.widen (k := 0) (n := 0) (Nat.le_of_ble_eq_true rfl) (Nat.le_of_ble_eq_true rfl) ?_
    exact W.iret (v := (-1)) hx hb hr (fun t ht hW => ⟨⟨(-1), (L, f), rfl, ⟨hO_0, hA_0.mono (by decide +kernel), trivial, hQ⟩, by rw [ht]; exact hP, va_K.moved hW.alike hK, by rw [hAe]; exact hD⟩, by rw [hAe]; exact hS.F ht⟩) (by rw [hAe]; exact hS.2.2) d_Md_pension_9
  · have hQ := hQ.2 c_2
    by_cases c_3 : 10000 < p_0
    · have hQ := hQ.1 c_3
      refine hb_ti 0 (by unfold f_Md_isPension; rw [if_neg c_2, if_pos c_3]; first | done | rfl) ?_
      refine lv_if_ne (tgt := 10) hx hb d_Md_pension_5 (by decide) (fun h => absurd (by decide +kernel) h) (fun _ => ?_)
      refine lv_iconst (v := (-1)) hx hb d_Md_pension_8 (by decide +kernel) ?_
      refine W.widen (k := 0) (n := 0) (Nat.le_of_ble_eq_true rfl) (Nat.le_of_ble_eq_true rfl) ?_
      exact W.iret (v := (-1)) hx hb hr (fun t ht hW => ⟨⟨(-1), (L, f), rfl, ⟨hO_0, hA_0.mono (by decide +kernel), trivial, hQ⟩, by rw [ht]; exact hP, va_K.moved hW.alike hK, by rw [hAe]; exact hD⟩, by rw [hAe]; exact hS.F ht⟩) (by rw [hAe]; exact hS.2.2) d_Md_pension_9
    · have hQ := hQ.2 c_3
      by_cases c_4 : p_1 < 0
      · have hQ := hQ.1 c_4
        refine hb_ti 0 (by unfold f_Md_isPension; rw [if_neg c_2, if_neg c_3, if_pos c_4]; first | done | rfl) ?_
        refine lv_if_ne (tgt := 10) hx hb d_Md_pension_5 (by decide) (fun h => absurd (by decide +kernel) h) (fun _ => ?_)
        refine lv_iconst (v := (-1)) hx hb d_Md_pension_8 (by decide +kernel) ?_
        refine W.widen (k := 0) (n := 0) (Nat.le_of_ble_eq_true rfl) (Nat.le_of_ble_eq_true rfl) ?_
        exact W.iret (v := (-1)) hx hb hr (fun t ht hW => ⟨⟨(-1), (L, f), rfl, ⟨hO_0, hA_0.mono (by decide +kernel), trivial, hQ⟩, by rw [ht]; exact hP, va_K.moved hW.alike hK, by rw [hAe]; exact hD⟩, by rw [hAe]; exact hS.F ht⟩) (by rw [hAe]; exact hS.2.2) d_Md_pension_9
      · have hQ := hQ.2 c_4
        by_cases c_5 : 9999 < p_1
        · have hQ := hQ.1 c_5
          refine hb_ti 0 (by unfold f_Md_isPension; rw [if_neg c_2, if_neg c_3, if_neg c_4, if_pos c_5]; first | done | rfl) ?_
          refine lv_if_ne (tgt := 10) hx hb d_Md_pension_5 (by decide) (fun h => absurd (by decide +kernel) h) (fun _ => ?_)
          refine lv_iconst (v := (-1)) hx hb d_Md_pension_8 (by decide +kernel) ?_
          refine W.widen (k := 0) (n := 0) (Nat.le_of_ble_eq_true rfl) (Nat.le_of_ble_eq_true rfl) ?_
          exact W.iret (v := (-1)) hx hb hr (fun t ht hW => ⟨⟨(-1), (L, f), rfl, ⟨hO_0, hA_0.mono (by decide +kernel), trivial, hQ⟩, by rw [ht]; exact hP, va_K.moved hW.alike hK, by rw [hAe]; exact hD⟩, by rw [hAe]; exact hS.F ht⟩) (by rw [hAe]; exact hS.2.2) d_Md_pension_9
        · have hQ := hQ.2 c_5
          refine hb_ti 1 (by unfold f_Md_isPension; rw [if_neg c_2, if_neg c_3, if_neg c_4, if_neg c_5]; first | done | rfl) ?_
          refine lv_if_ne (tgt := 10) hx hb d_Md_pension_5 (by decide) (fun _ => ?_) (fun h => absurd h (by decide +kernel))
          refine lv_aload_n hx hb d_Md_pension_10 rfl (lv_at hl 0 rfl) ?_
          refine tw_geti (D := (dC, dI)) (C := R_Md) (T := F_Md) (N := 64) (ci := 7) (kd := 27) (ct := ct) hx hb htb i_Md hown hK hP hO_0 m0 rfl rfl 60 (by decide) (htb (.fieldLink R_Md 323 "WaterMenModel" "pensioners" "I") tw_117) (fun _ h9 => h9) rfl d_Md_pension_11 (fun x_6 e_6 b_6 => ?_)
          have hQ := hQ x_6 e_6
          refine lv_bipush (v := 30) hx hb d_Md_pension_14 (by decide +kernel) ?_
          refine lv_icmp_ne (tgt := 24) hx hb d_Md_pension_16 (by decide) (fun c_7 => ?_) (fun c_7 => ?_)
          · have hQ := hQ.2 c_7
            refine lv_aload_n hx hb d_Md_pension_24 rfl (lv_at hl 0 rfl) ?_
            refine lv_iload_n hx hb d_Md_pension_25 rfl (lv_at hl 1 rfl) ?_
            refine lv_iload_n hx hb d_Md_pension_26 rfl (lv_at hl 2 rfl) ?_
            have hFc := hb_free hD hS hA
            refine va_calli (va_runV (As := [.int p_0, .int p_1]) (rest := []) ⟨hx, hb, hml, hown, htb⟩ (c_Md_newPensioner_w l dC dI ct L f hO_0 q0 m0 _ p_0 p_1 (by rw [show ti f q0 60 = x_6 from e_6]; first | done | exact (show ¬ (29 < x_6) from ((fun (a_0 : Int32) (k_0 : ¬ (30 < a_0)) (k_1 : ¬ (a_0 = 30)) => (show ¬ (29 < a_0) from by have z0 : (29 : Int32).toInt = 29 := (by decide +kernel); have z1 : (30 : Int32).toInt = 30 := (by decide +kernel); have r0 := fb_rng (a_0); have e0 := k_0; rw [Int32.lt_iff_toInt_lt, z1] at e0; have e1 := k_1; rw [← Int32.toInt_inj, z1] at e1; rw [Int32.lt_iff_toInt_lt, z0]; omega)) x_6 b_6.2 c_7))) _ hQ) (cwV 2 htb (gd_V tw_658 tw_659 tw_660 tw_89 tw_657) rfl rfl rfl (by decide +kernel) ⟨Nat.le_of_ble_eq_true rfl, Nat.le_of_ble_eq_true rfl⟩) ⟨pc_blind, tw_recv hK hP m0 rfl rfl, pc_pre hP hK hD hN⟩ rfl rfl hl.1 rfl (lv_room (Nat.le_of_ble_eq_true rfl)) d_Md_pension_27 ⟨Nat.le_of_ble_eq_true rfl, Nat.le_of_ble_eq_true rfl⟩) hS (fun q _ h => hFc q h) hFc (fun r_8 u t H locs ht hvm er hB hz1 hk1 hS => ?_)
            obtain ⟨L_1, f_1⟩ := u
            obtain ⟨hO_1, hE_1, er, hQ⟩ := er
            obtain ⟨hP, hK1, hD1⟩ := hB
            rw [ht] at hP
            have hP : va_P (dC, dI) vwCl (TW ct L_1 f_1) H := hP
            have hD : va_D A (TW ct L_1 f_1) := hD1.weaken (fun _ q _ h => hFc q.1 h)
            have hO_1 : Ok L_1 f_1 := hO_1
            have hE_1 : Ext W_Md_newPensioner_w L f L_1 f_1 := hE_1
            clear hK1 hD1 ht hvm hz1 hk1
            have hA_1 := hA_0.trans hE_1
            have hQ := hQ hO_1 hE_1
            clear er
            refine W.widen (k := 0) (n := 0) (Nat.le_of_ble_eq_true rfl) (Nat.le_of_ble_eq_true rfl) ?_
            exact W.iret (v := r_8) hx hb hr (fun t ht hW => ⟨⟨r_8, (L_1, f_1), rfl, ⟨hO_1, hA_1.mono (by decide +kernel), trivial, hQ⟩, by rw [ht]; exact hP, va_K.moved hW.alike hK, by rw [hAe]; exact hD⟩, by rw [hAe]; exact hS.F ht⟩) (by rw [hAe]; exact hS.2.2) d_Md_pension_30
          · have hQ := hQ.1 c_7
            refine lv_bipush (v := (-3)) hx hb d_Md_pension_19 (by decide +kernel) ?_
            refine lv_goto (tgt := 30) hx hb d_Md_pension_21 (by decide) ?_
            refine W.widen (k := 0) (n := 0) (Nat.le_of_ble_eq_true rfl) (Nat.le_of_ble_eq_true rfl) ?_
            exact W.iret (v := (-3)) hx hb hr (fun t ht hW => ⟨⟨(-3), (L, f), rfl, ⟨hO_0, hA_0.mono (by decide +kernel), trivial, hQ⟩, by rw [ht]; exact hP, va_K.moved hW.alike hK, by rw [hAe]; exact hD⟩, by rw [hAe]; exact hS.F ht⟩) (by rw [hAe]; exact hS.2.2) d_Md_pension_30
def wpB_WM_menThatAre_w_4_1 (L : List Nat) (f : TF) (q0 : Nat) (p_0 : Int32) (Q : Int32 → Prop) (rec_1 : Int32 → Int32 → Prop) (v2_1 : Int32) (v3_1 : Int32) : Prop := ((40 ≤ v3_1 → Q v2_1) ∧ (¬ (40 ≤ v3_1) → ∀ q_3 : Nat, tr f q0 1 = some q_3 → ((tr f q_3 (v3_1 : Int32).toNatClampNeg = none → rec_1 v2_1 (v3_1 + 1)) ∧ (∀ q_4 : Nat, tr f q_3 (v3_1 : Int32).toNatClampNeg = some q_4 → ∀ x_5 : Int32, ti f q_4 0 = x_5 → ((x_5 = p_0 → rec_1 (v2_1 + 1) (v3_1 + 1)) ∧ (¬ (x_5 = p_0) → rec_1 v2_1 (v3_1 + 1)))))))
def wpL_WM_menThatAre_w_4_1 (L : List Nat) (f : TF) (q0 : Nat) (p_0 : Int32) (Q : Int32 → Prop) : Nat → Int32 → Int32 → Prop
  | 0 => fun v2_1 v3_1 => wpB_WM_menThatAre_w_4_1 L f q0 p_0 Q (fun _ _ => True) v2_1 v3_1
  | n + 1 => fun v2_1 v3_1 => wpB_WM_menThatAre_w_4_1 L f q0 p_0 Q (wpL_WM_menThatAre_w_4_1 L f q0 p_0 Q n) v2_1 v3_1
def wpR_WM_menThatAre_w_4_1 (L : List Nat) (f : TF) (q0 : Nat) (p_0 : Int32) (Q : Int32 → Prop) : Nat → Int32 → Int32 → Prop
  | 0 => fun _ _ => True
  | n + 1 => wpL_WM_menThatAre_w_4_1 L f q0 p_0 Q n
theorem wpL_WM_menThatAre_w_4_1_eq {L : List Nat} {f : TF} {q0 : Nat} {p_0 : Int32} {Q : Int32 → Prop} {n : Nat} : wpL_WM_menThatAre_w_4_1 L f q0 p_0 Q n = wpB_WM_menThatAre_w_4_1 L f q0 p_0 Q (wpR_WM_menThatAre_w_4_1 L f q0 p_0 Q n) := by cases n <;> rfl
theorem wpR_WM_menThatAre_w_4_1_pos {L : List Nat} {f : TF} {q0 : Nat} {p_0 : Int32} {Q : Int32 → Prop} {n : Nat} (h : 0 < n) : wpR_WM_menThatAre_w_4_1 L f q0 p_0 Q n = wpL_WM_menThatAre_w_4_1 L f q0 p_0 Q (n - 1) := by
  cases n with
  | zero => omega
  | succ n => rfl
def wp_WM_menThatAre_w (L : List Nat) (f : TF) (q0 : Nat) (p_0 : Int32) (Q : Int32 → Prop) : Prop := wpL_WM_menThatAre_w_4_1 L f q0 p_0 Q (((40 : Int32).toInt - (0 : Int32).toInt).toNat) (0 : Int32) (0 : Int32)
set_option maxHeartbeats 4000000 in
set_option maxRecDepth 100000 in
theorem c_WM_menThatAre_w (l : Launch) (dC : Nat → ClassId) (dI : Nat → Nat → Nat) (ct : Nat → ClassId) (L : List Nat) (f : TF) (hO_0 : Ok L f) (q0 : Nat) (m0 : q0 ∈ L ∧ tk f q0 = 0) (p_0 : Int32)   (Q : Int32 → Prop) (hQ : wp_WM_menThatAre_w L f q0 p_0 Q) : Met l y_WM_menThatAre (.code y_WM_menThatAre b_WM_menThatAre 5 (some .int) :: TB) ({ frames := 0, cells := 0, slots := 0, locals := 0 }) (va_Pc [.ref q0, .int p_0] (PR dC dI (TW ct L f) (TT ct))) (vp_Si (fun r => (True) ∧ Q r)) 0 0 (fun _ => False) := by
  refine Met.ofW (cc := b_WM_menThatAre) (maxL := 5) (ret := (some .int)) (by decide) rfl ?_
  intro p e s m args below meth c s₁ B hml hv
  obtain ⟨rfl, hP, hK, hN⟩ := hv
  have hx := B.exec
  have hb := B.bytes
  have hr := B.returns
  have hts := atoms_spec (ws := (.code y_WM_menThatAre b_WM_menThatAre 5 (some .int) :: TB)) B.pre
  have htb := fun w (h : w ∈ TB) => hts w (List.mem_cons_of_mem _ h)
  have hown : s.vm.findClass R_WM = some m.cls := findClass_of_methodNamed B.named
  have hlocks := B.notSynchronized
  have hl := lv_entry ([.ref q0, .int p_0]) (n := 5) (Nat.le_of_ble_eq_true rfl)
  rw [lg_entry_eq]
  generalize (lg_sl ([.ref q0, .int p_0]) ++ List.replicate (5 - (lg_sl ([.ref q0, .int p_0])).length) Slot.unset).toArray = ls at hl ⊢
  have hl : lv_has ls 5 [(0, .ref q0), (1, .int p_0)] := hl
  unfold wp_WM_menThatAre_w at hQ
  refine lv_iconst (v := 0) hx hb d_WM_menThatAre_0 (by decide +kernel) ?_
  refine lv_istore_n (lv' := [(2, .int 0), (0, .ref q0), (1, .int p_0)]) hx hb d_WM_menThatAre_1 rfl hl (by decide) rfl (fun ls hl => ?_)
  refine lv_iconst (v := 0) hx hb d_WM_menThatAre_2 (by decide +kernel) ?_
  refine lv_istore_n (lv' := [(3, .int 0), (2, .int 0), (0, .ref q0), (1, .int p_0)]) hx hb d_WM_menThatAre_3 rfl hl (by decide) rfl (fun ls hl => ?_)
  have cut_1 : ∀ (n_1 : Nat) (v2_1 v3_1 : Int32) (ls : Array Slot), ¬ (v3_1 < 0) → ¬ (40 < v3_1) → (40 : Int32).toInt - (v3_1 : Int32).toInt ≤ (n_1 : Int) → wpL_WM_menThatAre_w_4_1 L f q0 p_0 Q n_1 v2_1 v3_1 → lv_has ls 5 [(0, .ref q0), (1, .int p_0), (2, .int v2_1), (3, .int v3_1)] → W p l e (headSpec (.code y_WM_menThatAre b_WM_menThatAre 5 (some .int) :: TB) ({ frames := 0, cells := 0, slots := 0, locals := 0 })).room s m [.ref q0, .int p_0].toArray below meth c s.heap [] 0 0 (MQ below (vp_Si (fun r => (True) ∧ Q r)) [.ref q0, .int p_0].toArray s 0 0 (fun _ => False)) (F0 m 4 ls []) := by
    intro n_1
    induction n_1 using Nat.strongRecOn with
    | _ n_1 ih_1 =>
      intro v2_1 v3_1 ls iv0_1 iv1_1 hm_1 hQ hl
      rw [wpL_WM_menThatAre_w_4_1_eq] at hQ
      obtain ⟨rec_1, hrec_1⟩ : ∃ g, wpR_WM_menThatAre_w_4_1 L f q0 p_0 Q n_1 = g := ⟨_, rfl⟩
      rw [hrec_1] at hQ
      unfold wpB_WM_menThatAre_w_4_1 at hQ
      refine lv_iload_n hx hb d_WM_menThatAre_4 rfl (lv_at hl 3 rfl) ?_
      refine lv_bipush (v := 40) hx hb d_WM_menThatAre_5 (by decide +kernel) ?_
      refine lv_icmp_ge (tgt := 41) hx hb d_WM_menThatAre_7 (by decide) (fun c_2 => ?_) (fun c_2 => ?_)
      · have hQ := hQ.1 c_2
        refine lv_iload_n hx hb d_WM_menThatAre_41 rfl (lv_at hl 2 rfl) ?_
        exact W.iret (v := v2_1) hx hb hr (fun t ht hW => ⟨v2_1, rfl, ⟨trivial, hQ⟩, ht⟩) t_nil d_WM_menThatAre_42
      · have hQ := hQ.2 c_2
        refine lv_aload_n hx hb d_WM_menThatAre_10 rfl (lv_at hl 0 rfl) ?_
        refine tw_getr (D := (dC, dI)) (C := R_WM) (T := F_WM) (N := 13) (ci := 0) (kd := 0) (ct := ct) hx hb htb i_WM hown hK hP hO_0 m0 rfl rfl 1 (by decide) (htb (.fieldLink R_WM 18 "WaterMen" "men" "[LWaterMen$Man;") tw_24) (fun _ h9 => h9) rfl d_WM_menThatAre_11 (fun q_3 e_3 m_3 => ?_)
        have hQ := hQ q_3 e_3
        refine lv_iload_n hx hb d_WM_menThatAre_14 rfl (lv_at hl 3 rfl) ?_
        refine tw_aldq (ct := ct) hx hb hK hP hO_0 m_3 rfl rfl (hb_in iv0_1 c_2 (by decide +kernel)) d_WM_menThatAre_15 (fun e_4 => ?_) (fun q_4 e_4 m_4 => ?_)
        · have hQ := hQ.1 e_4
          refine lv_astoreN (lv' := [(4, .null), (0, .ref q0), (1, .int p_0), (2, .int v2_1), (3, .int v3_1)]) hx hb d_WM_menThatAre_16 hl (by decide) rfl (fun ls hl => ?_)
          refine lv_aloadN hx hb d_WM_menThatAre_18 (lv_at hl 0 rfl) ?_
          refine lv_ifnullN (tgt := 35) hx hb d_WM_menThatAre_20 (by decide) ?_
          refine lv_iinc (v := (v3_1 + 1)) (lv' := [(3, .int (v3_1 + 1)), (4, .null), (0, .ref q0), (1, .int p_0), (2, .int v2_1)]) hx hb d_WM_menThatAre_35 hl (k := 4) rfl rfl (by decide) rfl (fun ls hl => ?_)
          refine lv_goto (tgt := 4) hx hb d_WM_menThatAre_38 (by decide) ?_
          exact ih_1 (n_1 - 1) (ms_1 ((fun (a_0 : Int32) (k_0 : ¬ (40 ≤ a_0)) => (show 1 ≤ (40 : Int32).toInt - (a_0).toInt ∧ (40 : Int32).toInt - ((a_0) + (1 : Int32)).toInt + 1 ≤ (40 : Int32).toInt - (a_0).toInt from by have z0 : (1 : Int32).toInt = 1 := (by decide +kernel); have z1 : (40 : Int32).toInt = 40 := (by decide +kernel); have r0 := fb_rng (a_0); have e0 := k_0; rw [Int32.le_iff_toInt_le, z1] at e0; obtain ⟨n_0, hn_0, s0⟩ := nd_add (x := (a_0)) (y := (1 : Int32)) (by (try rw [z0]); omega) (by (try rw [z0]); omega); rw [z0] at s0; rw [hn_0]; (try rw [z1]); omega)) v3_1 c_2) hm_1) v2_1 (v3_1 + 1) _ (show ¬ ((v3_1 + 1) < 0) from by have e0 := iv0_1; rw [Int32.lt_iff_toInt_lt] at e0; have e1 := c_2; rw [Int32.le_iff_toInt_le] at e1; have z0 : (0 : Int32).toInt = 0 := (by decide +kernel); have z1 : (1 : Int32).toInt = 1 := (by decide +kernel); have z2 : (40 : Int32).toInt = 40 := (by decide +kernel); have ss := fb_addI (x := v3_1) (y := 1) (by omega) (by omega); rw [Int32.lt_iff_toInt_lt]; omega) (show ¬ (40 < (v3_1 + 1)) from by have e0 := iv0_1; rw [Int32.lt_iff_toInt_lt] at e0; have e1 := c_2; rw [Int32.le_iff_toInt_le] at e1; have z0 : (0 : Int32).toInt = 0 := (by decide +kernel); have z1 : (1 : Int32).toInt = 1 := (by decide +kernel); have z2 : (40 : Int32).toInt = 40 := (by decide +kernel); have ss := fb_addI (x := v3_1) (y := 1) (by omega) (by omega); rw [Int32.lt_iff_toInt_lt]; omega) (by exact ms_2 ((fun (a_0 : Int32) (k_0 : ¬ (40 ≤ a_0)) => (show 1 ≤ (40 : Int32).toInt - (a_0).toInt ∧ (40 : Int32).toInt - ((a_0) + (1 : Int32)).toInt + 1 ≤ (40 : Int32).toInt - (a_0).toInt from by have z0 : (1 : Int32).toInt = 1 := (by decide +kernel); have z1 : (40 : Int32).toInt = 40 := (by decide +kernel); have r0 := fb_rng (a_0); have e0 := k_0; rw [Int32.le_iff_toInt_le, z1] at e0; obtain ⟨n_0, hn_0, s0⟩ := nd_add (x := (a_0)) (y := (1 : Int32)) (by (try rw [z0]); omega) (by (try rw [z0]); omega); rw [z0] at s0; rw [hn_0]; (try rw [z1]); omega)) v3_1 c_2) hm_1) (by rw [← hrec_1, wpR_WM_menThatAre_w_4_1_pos (ms_3 ((fun (a_0 : Int32) (k_0 : ¬ (40 ≤ a_0)) => (show 1 ≤ (40 : Int32).toInt - (a_0).toInt ∧ (40 : Int32).toInt - ((a_0) + (1 : Int32)).toInt + 1 ≤ (40 : Int32).toInt - (a_0).toInt from by have z0 : (1 : Int32).toInt = 1 := (by decide +kernel); have z1 : (40 : Int32).toInt = 40 := (by decide +kernel); have r0 := fb_rng (a_0); have e0 := k_0; rw [Int32.le_iff_toInt_le, z1] at e0; obtain ⟨n_0, hn_0, s0⟩ := nd_add (x := (a_0)) (y := (1 : Int32)) (by (try rw [z0]); omega) (by (try rw [z0]); omega); rw [z0] at s0; rw [hn_0]; (try rw [z1]); omega)) v3_1 c_2) hm_1)] at hQ; exact hQ) (lv_sub hl [2, 3, 4, 0] rfl)
        · have hQ := hQ.2 q_4 e_4
          refine lv_astore (lv' := [(4, .ref q_4), (0, .ref q0), (1, .int p_0), (2, .int v2_1), (3, .int v3_1)]) hx hb d_WM_menThatAre_16 hl (by decide) rfl (fun ls hl => ?_)
          refine lv_aload hx hb d_WM_menThatAre_18 (lv_at hl 0 rfl) ?_
          refine lv_ifnull hx hb d_WM_menThatAre_20 ?_
          refine lv_aload hx hb d_WM_menThatAre_23 (lv_at hl 0 rfl) ?_
          refine tw_geti (D := (dC, dI)) (C := R_Mn) (T := F_Mn) (N := 8) (ci := 2) (kd := 20) (ct := ct) hx hb htb i_Mn hown hK hP hO_0 m_4 rfl rfl 0 (by decide) (htb (.fieldLink R_WM 111 "WaterMen$Man" "state" "I") tw_30) (fun _ h9 => h9) rfl d_WM_menThatAre_25 (fun x_5 e_5 b_5 => ?_)
          have hQ := hQ x_5 e_5
          refine lv_iload_n hx hb d_WM_menThatAre_28 rfl (lv_at hl 2 rfl) ?_
          refine lv_icmp_ne (tgt := 35) hx hb d_WM_menThatAre_29 (by decide) (fun c_6 => ?_) (fun c_6 => ?_)
          · have hQ := hQ.2 c_6
            refine lv_iinc (v := (v3_1 + 1)) (lv' := [(3, .int (v3_1 + 1)), (4, .ref q_4), (0, .ref q0), (1, .int p_0), (2, .int v2_1)]) hx hb d_WM_menThatAre_35 hl (k := 4) rfl rfl (by decide) rfl (fun ls hl => ?_)
            refine lv_goto (tgt := 4) hx hb d_WM_menThatAre_38 (by decide) ?_
            exact ih_1 (n_1 - 1) (ms_1 ((fun (a_0 : Int32) (k_0 : ¬ (40 ≤ a_0)) => (show 1 ≤ (40 : Int32).toInt - (a_0).toInt ∧ (40 : Int32).toInt - ((a_0) + (1 : Int32)).toInt + 1 ≤ (40 : Int32).toInt - (a_0).toInt from by have z0 : (1 : Int32).toInt = 1 := (by decide +kernel); have z1 : (40 : Int32).toInt = 40 := (by decide +kernel); have r0 := fb_rng (a_0); have e0 := k_0; rw [Int32.le_iff_toInt_le, z1] at e0; obtain ⟨n_0, hn_0, s0⟩ := nd_add (x := (a_0)) (y := (1 : Int32)) (by (try rw [z0]); omega) (by (try rw [z0]); omega); rw [z0] at s0; rw [hn_0]; (try rw [z1]); omega)) v3_1 c_2) hm_1) v2_1 (v3_1 + 1) _ (show ¬ ((v3_1 + 1) < 0) from by have e0 := iv0_1; rw [Int32.lt_iff_toInt_lt] at e0; have e1 := c_2; rw [Int32.le_iff_toInt_le] at e1; have z0 : (0 : Int32).toInt = 0 := (by decide +kernel); have z1 : (1 : Int32).toInt = 1 := (by decide +kernel); have z2 : (40 : Int32).toInt = 40 := (by decide +kernel); have ss := fb_addI (x := v3_1) (y := 1) (by omega) (by omega); rw [Int32.lt_iff_toInt_lt]; omega) (show ¬ (40 < (v3_1 + 1)) from by have e0 := iv0_1; rw [Int32.lt_iff_toInt_lt] at e0; have e1 := c_2; rw [Int32.le_iff_toInt_le] at e1; have z0 : (0 : Int32).toInt = 0 := (by decide +kernel); have z1 : (1 : Int32).toInt = 1 := (by decide +kernel); have z2 : (40 : Int32).toInt = 40 := (by decide +kernel); have ss := fb_addI (x := v3_1) (y := 1) (by omega) (by omega); rw [Int32.lt_iff_toInt_lt]; omega) (by exact ms_2 ((fun (a_0 : Int32) (k_0 : ¬ (40 ≤ a_0)) => (show 1 ≤ (40 : Int32).toInt - (a_0).toInt ∧ (40 : Int32).toInt - ((a_0) + (1 : Int32)).toInt + 1 ≤ (40 : Int32).toInt - (a_0).toInt from by have z0 : (1 : Int32).toInt = 1 := (by decide +kernel); have z1 : (40 : Int32).toInt = 40 := (by decide +kernel); have r0 := fb_rng (a_0); have e0 := k_0; rw [Int32.le_iff_toInt_le, z1] at e0; obtain ⟨n_0, hn_0, s0⟩ := nd_add (x := (a_0)) (y := (1 : Int32)) (by (try rw [z0]); omega) (by (try rw [z0]); omega); rw [z0] at s0; rw [hn_0]; (try rw [z1]); omega)) v3_1 c_2) hm_1) (by rw [← hrec_1, wpR_WM_menThatAre_w_4_1_pos (ms_3 ((fun (a_0 : Int32) (k_0 : ¬ (40 ≤ a_0)) => (show 1 ≤ (40 : Int32).toInt - (a_0).toInt ∧ (40 : Int32).toInt - ((a_0) + (1 : Int32)).toInt + 1 ≤ (40 : Int32).toInt - (a_0).toInt from by have z0 : (1 : Int32).toInt = 1 := (by decide +kernel); have z1 : (40 : Int32).toInt = 40 := (by decide +kernel); have r0 := fb_rng (a_0); have e0 := k_0; rw [Int32.le_iff_toInt_le, z1] at e0; obtain ⟨n_0, hn_0, s0⟩ := nd_add (x := (a_0)) (y := (1 : Int32)) (by (try rw [z0]); omega) (by (try rw [z0]); omega); rw [z0] at s0; rw [hn_0]; (try rw [z1]); omega)) v3_1 c_2) hm_1)] at hQ; exact hQ) (lv_sub hl [2, 3, 4, 0] rfl)
          · have hQ := hQ.1 c_6
            refine lv_iinc (v := (v2_1 + 1)) (lv' := [(2, .int (v2_1 + 1)), (4, .ref q_4), (0, .ref q0), (1, .int p_0), (3, .int v3_1)]) hx hb d_WM_menThatAre_32 hl (k := 3) rfl rfl (by decide) rfl (fun ls hl => ?_)
            refine lv_iinc (v := (v3_1 + 1)) (lv' := [(3, .int (v3_1 + 1)), (2, .int (v2_1 + 1)), (4, .ref q_4), (0, .ref q0), (1, .int p_0)]) hx hb d_WM_menThatAre_35 hl (k := 4) rfl rfl (by decide) rfl (fun ls hl => ?_)
            refine lv_goto (tgt := 4) hx hb d_WM_menThatAre_38 (by decide) ?_
            exact ih_1 (n_1 - 1) (ms_1 ((fun (a_0 : Int32) (k_0 : ¬ (40 ≤ a_0)) => (show 1 ≤ (40 : Int32).toInt - (a_0).toInt ∧ (40 : Int32).toInt - ((a_0) + (1 : Int32)).toInt + 1 ≤ (40 : Int32).toInt - (a_0).toInt from by have z0 : (1 : Int32).toInt = 1 := (by decide +kernel); have z1 : (40 : Int32).toInt = 40 := (by decide +kernel); have r0 := fb_rng (a_0); have e0 := k_0; rw [Int32.le_iff_toInt_le, z1] at e0; obtain ⟨n_0, hn_0, s0⟩ := nd_add (x := (a_0)) (y := (1 : Int32)) (by (try rw [z0]); omega) (by (try rw [z0]); omega); rw [z0] at s0; rw [hn_0]; (try rw [z1]); omega)) v3_1 c_2) hm_1) (v2_1 + 1) (v3_1 + 1) _ (show ¬ ((v3_1 + 1) < 0) from by have e0 := iv0_1; rw [Int32.lt_iff_toInt_lt] at e0; have e1 := c_2; rw [Int32.le_iff_toInt_le] at e1; have z0 : (0 : Int32).toInt = 0 := (by decide +kernel); have z1 : (1 : Int32).toInt = 1 := (by decide +kernel); have z2 : (40 : Int32).toInt = 40 := (by decide +kernel); have ss := fb_addI (x := v3_1) (y := 1) (by omega) (by omega); rw [Int32.lt_iff_toInt_lt]; omega) (show ¬ (40 < (v3_1 + 1)) from by have e0 := iv0_1; rw [Int32.lt_iff_toInt_lt] at e0; have e1 := c_2; rw [Int32.le_iff_toInt_le] at e1; have z0 : (0 : Int32).toInt = 0 := (by decide +kernel); have z1 : (1 : Int32).toInt = 1 := (by decide +kernel); have z2 : (40 : Int32).toInt = 40 := (by decide +kernel); have ss := fb_addI (x := v3_1) (y := 1) (by omega) (by omega); rw [Int32.lt_iff_toInt_lt]; omega) (by exact ms_2 ((fun (a_0 : Int32) (k_0 : ¬ (40 ≤ a_0)) => (show 1 ≤ (40 : Int32).toInt - (a_0).toInt ∧ (40 : Int32).toInt - ((a_0) + (1 : Int32)).toInt + 1 ≤ (40 : Int32).toInt - (a_0).toInt from by have z0 : (1 : Int32).toInt = 1 := (by decide +kernel); have z1 : (40 : Int32).toInt = 40 := (by decide +kernel); have r0 := fb_rng (a_0); have e0 := k_0; rw [Int32.le_iff_toInt_le, z1] at e0; obtain ⟨n_0, hn_0, s0⟩ := nd_add (x := (a_0)) (y := (1 : Int32)) (by (try rw [z0]); omega) (by (try rw [z0]); omega); rw [z0] at s0; rw [hn_0]; (try rw [z1]); omega)) v3_1 c_2) hm_1) (by rw [← hrec_1, wpR_WM_menThatAre_w_4_1_pos (ms_3 ((fun (a_0 : Int32) (k_0 : ¬ (40 ≤ a_0)) => (show 1 ≤ (40 : Int32).toInt - (a_0).toInt ∧ (40 : Int32).toInt - ((a_0) + (1 : Int32)).toInt + 1 ≤ (40 : Int32).toInt - (a_0).toInt from by have z0 : (1 : Int32).toInt = 1 := (by decide +kernel); have z1 : (40 : Int32).toInt = 40 := (by decide +kernel); have r0 := fb_rng (a_0); have e0 := k_0; rw [Int32.le_iff_toInt_le, z1] at e0; obtain ⟨n_0, hn_0, s0⟩ := nd_add (x := (a_0)) (y := (1 : Int32)) (by (try rw [z0]); omega) (by (try rw [z0]); omega); rw [z0] at s0; rw [hn_0]; (try rw [z1]); omega)) v3_1 c_2) hm_1)] at hQ; exact hQ) (lv_sub hl [3, 4, 1, 0] rfl)
  exact cut_1 ((40 : Int32).toInt - (0 : Int32).toInt).toNat (0 : Int32) (0 : Int32) _ (by decide +kernel) (by decide +kernel) (by exact ms_e _ _) hQ (lv_sub hl [2, 3, 1, 0] rfl)
def wp_WM_count_w (L : List Nat) (f : TF) (q0 : Nat) (p_0 : Int32) (Q : Int32 → Prop) : Prop := ((p_0 = 0 → ∀ q_2 : Nat, tr f q0 0 = some q_2 → ∀ x_3 : Int32, ti f q_2 4 = x_3 → Q x_3) ∧ (¬ (p_0 = 0) → ((p_0 = 1 → ∀ x_5 : Int32, ti f q0 7 = x_5 → Q x_5) ∧ (¬ (p_0 = 1) → ((p_0 = 2 → ∀ x_7 : Int32, ti f q0 9 = x_7 → Q x_7) ∧ (¬ (p_0 = 2) → ((p_0 = 3 → ∀ x_9 : Int32, ti f q0 8 = x_9 → Q x_9) ∧ (¬ (p_0 = 3) → ((p_0 = 4 → ∀ x_11 : Int32, ti f q0 10 = x_11 → Q x_11) ∧ (¬ (p_0 = 4) → ((p_0 = 5 → wp_WM_menThatAre_w L f q0 (2 : Int32) (fun (r_13 : Int32) => Q r_13)) ∧ (¬ (p_0 = 5) → ((p_0 = 6 → wp_WM_menThatAre_w L f q0 (1 : Int32) (fun (r_15 : Int32) => Q r_15)) ∧ (¬ (p_0 = 6) → ((p_0 = 7 → wp_WM_menThatAre_w L f q0 (3 : Int32) (fun (r_17 : Int32) => Q r_17)) ∧ (¬ (p_0 = 7) → ((p_0 = 8 → ∀ q_19 : Nat, tr f q0 6 = some q_19 → ∀ x_20 : Int32, ti f q_19 6 = x_20 → Q x_20) ∧ (¬ (p_0 = 8) → ((p_0 = 9 → ∀ q_22 : Nat, tr f q0 5 = some q_22 → ∀ x_23 : Int32, ti f q_22 1 = x_23 → Q x_23) ∧ (¬ (p_0 = 9) → Q (-1)))))))))))))))))))))
set_option maxHeartbeats 4000000 in
set_option maxRecDepth 100000 in
theorem c_WM_count_w (l : Launch) (dC : Nat → ClassId) (dI : Nat → Nat → Nat) (ct : Nat → ClassId) (L : List Nat) (f : TF) (hO_0 : Ok L f) (q0 : Nat) (m0 : q0 ∈ L ∧ tk f q0 = 0) (p_0 : Int32)   (Q : Int32 → Prop) (hQ : wp_WM_count_w L f q0 p_0 Q) : Met l y_WM_count (.code y_WM_count b_WM_count 2 (some .int) :: TB) ({ frames := 1, cells := 0, slots := 0, locals := 24 }) (va_Pc [.ref q0, .int p_0] (PR dC dI (TW ct L f) (TT ct))) (vp_Si (fun r => (True) ∧ Q r)) 0 0 (fun _ => False) := by
  refine Met.ofW (cc := b_WM_count) (maxL := 2) (ret := (some .int)) (by decide) rfl ?_
  intro p e s m args below meth c s₁ B hml hv
  obtain ⟨rfl, hP, hK, hN⟩ := hv
  have hx := B.exec
  have hb := B.bytes
  have hr := B.returns
  have hts := atoms_spec (ws := (.code y_WM_count b_WM_count 2 (some .int) :: TB)) B.pre
  have htb := fun w (h : w ∈ TB) => hts w (List.mem_cons_of_mem _ h)
  have hown : s.vm.findClass R_WM = some m.cls := findClass_of_methodNamed B.named
  have hlocks := B.notSynchronized
  have hl := lv_entry ([.ref q0, .int p_0]) (n := 2) (Nat.le_of_ble_eq_true rfl)
  rw [lg_entry_eq]
  generalize (lg_sl ([.ref q0, .int p_0]) ++ List.replicate (2 - (lg_sl ([.ref q0, .int p_0])).length) Slot.unset).toArray = ls at hl ⊢
  have hl : lv_has ls 2 [(0, .ref q0), (1, .int p_0)] := hl
  unfold wp_WM_count_w at hQ
  refine lv_iload_n hx hb d_WM_count_0 rfl (lv_at hl 1 rfl) ?_
  by_cases c_1 : p_0 = 0
  · have hQ := hQ.1 c_1
    refine lv_tableIn (off := 55) (tgt := 56) hx hb d_WM_count_1 (by rw [c_1]; decide +kernel) (by rw [c_1]; decide +kernel) (by rw [c_1]; decide +kernel) (by decide) ?_
    refine lv_aload_n hx hb d_WM_count_56 rfl (lv_at hl 0 rfl) ?_
    refine tw_getr (D := (dC, dI)) (C := R_WM) (T := F_WM) (N := 13) (ci := 0) (kd := 0) (ct := ct) hx hb htb i_WM hown hK hP hO_0 m0 rfl rfl 0 (by decide) (htb (.fieldLink R_WM 12 "WaterMen" "river" "LWaterMen$River;") tw_135) (fun _ h9 => h9) rfl d_WM_count_57 (fun q_2 e_2 m_2 => ?_)
    have hQ := hQ q_2 e_2
    refine tw_geti (D := (dC, dI)) (C := R_Rv) (T := F_Rv) (N := 6) (ci := 1) (kd := 1) (ct := ct) hx hb htb i_Rv hown hK hP hO_0 m_2 rfl rfl 4 (by decide) (htb (.fieldLink R_WM 64 "WaterMen$River" "stairCount" "I") tw_199) (fun _ h9 => h9) rfl d_WM_count_60 (fun x_3 e_3 b_3 => ?_)
    have hQ := hQ x_3 e_3
    exact W.iret (v := x_3) hx hb hr (fun t ht hW => ⟨x_3, rfl, ⟨trivial, hQ⟩, ht⟩) t_nil d_WM_count_63
  · have hQ := hQ.2 c_1
    by_cases c_4 : p_0 = 1
    · have hQ := hQ.1 c_4
      refine lv_tableIn (off := 63) (tgt := 64) hx hb d_WM_count_1 (by rw [c_4]; decide +kernel) (by rw [c_4]; decide +kernel) (by rw [c_4]; decide +kernel) (by decide) ?_
      refine lv_aload_n hx hb d_WM_count_64 rfl (lv_at hl 0 rfl) ?_
      refine tw_geti (D := (dC, dI)) (C := R_WM) (T := F_WM) (N := 13) (ci := 0) (kd := 0) (ct := ct) hx hb htb i_WM hown hK hP hO_0 m0 rfl rfl 7 (by decide) (htb (.fieldLink R_WM 170 "WaterMen" "boatCount" "I") tw_497) (fun _ h9 => h9) rfl d_WM_count_65 (fun x_5 e_5 b_5 => ?_)
      have hQ := hQ x_5 e_5
      exact W.iret (v := x_5) hx hb hr (fun t ht hW => ⟨x_5, rfl, ⟨trivial, hQ⟩, ht⟩) t_nil d_WM_count_68
    · have hQ := hQ.2 c_4
      by_cases c_6 : p_0 = 2
      · have hQ := hQ.1 c_6
        refine lv_tableIn (off := 68) (tgt := 69) hx hb d_WM_count_1 (by rw [c_6]; decide +kernel) (by rw [c_6]; decide +kernel) (by rw [c_6]; decide +kernel) (by decide) ?_
        refine lv_aload_n hx hb d_WM_count_69 rfl (lv_at hl 0 rfl) ?_
        refine tw_geti (D := (dC, dI)) (C := R_WM) (T := F_WM) (N := 13) (ci := 0) (kd := 0) (ct := ct) hx hb htb i_WM hown hK hP hO_0 m0 rfl rfl 9 (by decide) (htb (.fieldLink R_WM 243 "WaterMen" "tripCount" "I") tw_592) (fun _ h9 => h9) rfl d_WM_count_70 (fun x_7 e_7 b_7 => ?_)
        have hQ := hQ x_7 e_7
        exact W.iret (v := x_7) hx hb hr (fun t ht hW => ⟨x_7, rfl, ⟨trivial, hQ⟩, ht⟩) t_nil d_WM_count_73
      · have hQ := hQ.2 c_6
        by_cases c_8 : p_0 = 3
        · have hQ := hQ.1 c_8
          refine lv_tableIn (off := 73) (tgt := 74) hx hb d_WM_count_1 (by rw [c_8]; decide +kernel) (by rw [c_8]; decide +kernel) (by rw [c_8]; decide +kernel) (by decide) ?_
          refine lv_aload_n hx hb d_WM_count_74 rfl (lv_at hl 0 rfl) ?_
          refine tw_geti (D := (dC, dI)) (C := R_WM) (T := F_WM) (N := 13) (ci := 0) (kd := 0) (ct := ct) hx hb htb i_WM hown hK hP hO_0 m0 rfl rfl 8 (by decide) (htb (.fieldLink R_WM 210 "WaterMen" "orderCount" "I") tw_244) (fun _ h9 => h9) rfl d_WM_count_75 (fun x_9 e_9 b_9 => ?_)
          have hQ := hQ x_9 e_9
          exact W.iret (v := x_9) hx hb hr (fun t ht hW => ⟨x_9, rfl, ⟨trivial, hQ⟩, ht⟩) t_nil d_WM_count_78
        · have hQ := hQ.2 c_8
          by_cases c_10 : p_0 = 4
          · have hQ := hQ.1 c_10
            refine lv_tableIn (off := 78) (tgt := 79) hx hb d_WM_count_1 (by rw [c_10]; decide +kernel) (by rw [c_10]; decide +kernel) (by rw [c_10]; decide +kernel) (by decide) ?_
            refine lv_aload_n hx hb d_WM_count_79 rfl (lv_at hl 0 rfl) ?_
            refine tw_geti (D := (dC, dI)) (C := R_WM) (T := F_WM) (N := 13) (ci := 0) (kd := 0) (ct := ct) hx hb htb i_WM hown hK hP hO_0 m0 rfl rfl 10 (by decide) (htb (.fieldLink R_WM 155 "WaterMen" "now" "I") tw_40) (fun _ h9 => h9) rfl d_WM_count_80 (fun x_11 e_11 b_11 => ?_)
            have hQ := hQ x_11 e_11
            exact W.iret (v := x_11) hx hb hr (fun t ht hW => ⟨x_11, rfl, ⟨trivial, hQ⟩, ht⟩) t_nil d_WM_count_83
          · have hQ := hQ.2 c_10
            by_cases c_12 : p_0 = 5
            · have hQ := hQ.1 c_12
              refine lv_tableIn (off := 83) (tgt := 84) hx hb d_WM_count_1 (by rw [c_12]; decide +kernel) (by rw [c_12]; decide +kernel) (by rw [c_12]; decide +kernel) (by decide) ?_
              refine lv_aload_n hx hb d_WM_count_84 rfl (lv_at hl 0 rfl) ?_
              refine lv_iconst (v := 2) hx hb d_WM_count_85 (by decide +kernel) ?_
              refine vp_callSi (va_Run.run (va_runV (As := [.int 2]) (rest := []) ⟨hx, hb, hml, hown, htb⟩ (c_WM_menThatAre_w l dC dI ct L f hO_0 q0 m0 (2 : Int32) _ hQ) (cwV 1 htb (gd_V tw_678 tw_679 tw_680 tw_26 tw_677) rfl rfl rfl (by decide +kernel) ⟨Nat.le_of_ble_eq_true rfl, Nat.le_of_ble_eq_true rfl⟩) ⟨pr_blind, tw_recv hK hP m0 rfl rfl, pr_pre hP hK hN⟩ rfl rfl hl.1 rfl (lv_room (Nat.le_of_ble_eq_true rfl)) d_WM_count_86 ⟨Nat.le_of_ble_eq_true rfl, Nat.le_of_ble_eq_true rfl⟩)) (fun r_13 er_13 => ?_)
              obtain ⟨er_13, hQ⟩ := er_13
              clear er_13
              exact W.iret (v := r_13) hx hb hr (fun t ht hW => ⟨r_13, rfl, ⟨trivial, hQ⟩, ht⟩) t_nil d_WM_count_89
            · have hQ := hQ.2 c_12
              by_cases c_14 : p_0 = 6
              · have hQ := hQ.1 c_14
                refine lv_tableIn (off := 89) (tgt := 90) hx hb d_WM_count_1 (by rw [c_14]; decide +kernel) (by rw [c_14]; decide +kernel) (by rw [c_14]; decide +kernel) (by decide) ?_
                refine lv_aload_n hx hb d_WM_count_90 rfl (lv_at hl 0 rfl) ?_
                refine lv_iconst (v := 1) hx hb d_WM_count_91 (by decide +kernel) ?_
                refine vp_callSi (va_Run.run (va_runV (As := [.int 1]) (rest := []) ⟨hx, hb, hml, hown, htb⟩ (c_WM_menThatAre_w l dC dI ct L f hO_0 q0 m0 (1 : Int32) _ hQ) (cwV 1 htb (gd_V tw_678 tw_679 tw_680 tw_26 tw_677) rfl rfl rfl (by decide +kernel) ⟨Nat.le_of_ble_eq_true rfl, Nat.le_of_ble_eq_true rfl⟩) ⟨pr_blind, tw_recv hK hP m0 rfl rfl, pr_pre hP hK hN⟩ rfl rfl hl.1 rfl (lv_room (Nat.le_of_ble_eq_true rfl)) d_WM_count_92 ⟨Nat.le_of_ble_eq_true rfl, Nat.le_of_ble_eq_true rfl⟩)) (fun r_15 er_15 => ?_)
                obtain ⟨er_15, hQ⟩ := er_15
                clear er_15
                exact W.iret (v := r_15) hx hb hr (fun t ht hW => ⟨r_15, rfl, ⟨trivial, hQ⟩, ht⟩) t_nil d_WM_count_95
              · have hQ := hQ.2 c_14
                by_cases c_16 : p_0 = 7
                · have hQ := hQ.1 c_16
                  refine lv_tableIn (off := 95) (tgt := 96) hx hb d_WM_count_1 (by rw [c_16]; decide +kernel) (by rw [c_16]; decide +kernel) (by rw [c_16]; decide +kernel) (by decide) ?_
                  refine lv_aload_n hx hb d_WM_count_96 rfl (lv_at hl 0 rfl) ?_
                  refine lv_iconst (v := 3) hx hb d_WM_count_97 (by decide +kernel) ?_
                  refine vp_callSi (va_Run.run (va_runV (As := [.int 3]) (rest := []) ⟨hx, hb, hml, hown, htb⟩ (c_WM_menThatAre_w l dC dI ct L f hO_0 q0 m0 (3 : Int32) _ hQ) (cwV 1 htb (gd_V tw_678 tw_679 tw_680 tw_26 tw_677) rfl rfl rfl (by decide +kernel) ⟨Nat.le_of_ble_eq_true rfl, Nat.le_of_ble_eq_true rfl⟩) ⟨pr_blind, tw_recv hK hP m0 rfl rfl, pr_pre hP hK hN⟩ rfl rfl hl.1 rfl (lv_room (Nat.le_of_ble_eq_true rfl)) d_WM_count_98 ⟨Nat.le_of_ble_eq_true rfl, Nat.le_of_ble_eq_true rfl⟩)) (fun r_17 er_17 => ?_)
                  obtain ⟨er_17, hQ⟩ := er_17
                  clear er_17
                  exact W.iret (v := r_17) hx hb hr (fun t ht hW => ⟨r_17, rfl, ⟨trivial, hQ⟩, ht⟩) t_nil d_WM_count_101
                · have hQ := hQ.2 c_16
                  by_cases c_18 : p_0 = 8
                  · have hQ := hQ.1 c_18
                    refine lv_tableIn (off := 101) (tgt := 102) hx hb d_WM_count_1 (by rw [c_18]; decide +kernel) (by rw [c_18]; decide +kernel) (by rw [c_18]; decide +kernel) (by decide) ?_
                    refine lv_aload_n hx hb d_WM_count_102 rfl (lv_at hl 0 rfl) ?_
                    refine tw_getr (D := (dC, dI)) (C := R_WM) (T := F_WM) (N := 13) (ci := 0) (kd := 0) (ct := ct) hx hb htb i_WM hown hK hP hO_0 m0 rfl rfl 6 (by decide) (htb (.fieldLink R_WM 50 "WaterMen" "box" "LWaterMen$Box;") tw_48) (fun _ h9 => h9) rfl d_WM_count_103 (fun q_19 e_19 m_19 => ?_)
                    have hQ := hQ q_19 e_19
                    refine tw_geti (D := (dC, dI)) (C := R_Bx) (T := F_Bx) (N := 7) (ci := 5) (kd := 12) (ct := ct) hx hb htb i_Bx hown hK hP hO_0 m_19 rfl rfl 6 (by decide) (htb (.fieldLink R_WM 280 "WaterMen$Box" "pensionerCount" "I") tw_633) (fun _ h9 => h9) rfl d_WM_count_106 (fun x_20 e_20 b_20 => ?_)
                    have hQ := hQ x_20 e_20
                    exact W.iret (v := x_20) hx hb hr (fun t ht hW => ⟨x_20, rfl, ⟨trivial, hQ⟩, ht⟩) t_nil d_WM_count_109
                  · have hQ := hQ.2 c_18
                    by_cases c_21 : p_0 = 9
                    · have hQ := hQ.1 c_21
                      refine lv_tableIn (off := 109) (tgt := 110) hx hb d_WM_count_1 (by rw [c_21]; decide +kernel) (by rw [c_21]; decide +kernel) (by rw [c_21]; decide +kernel) (by decide) ?_
                      refine lv_aload_n hx hb d_WM_count_110 rfl (lv_at hl 0 rfl) ?_
                      refine tw_getr (D := (dC, dI)) (C := R_WM) (T := F_WM) (N := 13) (ci := 0) (kd := 0) (ct := ct) hx hb htb i_WM hown hK hP hO_0 m0 rfl rfl 5 (by decide) (htb (.fieldLink R_WM 43 "WaterMen" "tape" "LWaterMen$Tape;") tw_174) (fun _ h9 => h9) rfl d_WM_count_111 (fun q_22 e_22 m_22 => ?_)
                      have hQ := hQ q_22 e_22
                      refine tw_geti (D := (dC, dI)) (C := R_Tp) (T := F_Tp) (N := 6) (ci := 4) (kd := 10) (ct := ct) hx hb htb i_Tp hown hK hP hO_0 m_22 rfl rfl 1 (by decide) (htb (.fieldLink R_WM 207 "WaterMen$Tape" "length" "I") tw_186) (fun _ h9 => h9) rfl d_WM_count_114 (fun x_23 e_23 b_23 => ?_)
                      have hQ := hQ x_23 e_23
                      exact W.iret (v := x_23) hx hb hr (fun t ht hW => ⟨x_23, rfl, ⟨trivial, hQ⟩, ht⟩) t_nil d_WM_count_117
                    · have hQ := hQ.2 c_21
                      refine lv_tableOut (tgt := 118) hx hb d_WM_count_1 (by have h0 := lv_neT c_1 (show (0 : Int32).toInt = 0 by decide +kernel); have h1 := lv_neT c_4 (show (1 : Int32).toInt = 1 by decide +kernel); have h2 := lv_neT c_6 (show (2 : Int32).toInt = 2 by decide +kernel); have h3 := lv_neT c_8 (show (3 : Int32).toInt = 3 by decide +kernel); have h4 := lv_neT c_10 (show (4 : Int32).toInt = 4 by decide +kernel); have h5 := lv_neT c_12 (show (5 : Int32).toInt = 5 by decide +kernel); have h6 := lv_neT c_14 (show (6 : Int32).toInt = 6 by decide +kernel); have h7 := lv_neT c_16 (show (7 : Int32).toInt = 7 by decide +kernel); have h8 := lv_neT c_18 (show (8 : Int32).toInt = 8 by decide +kernel); have h9 := lv_neT c_21 (show (9 : Int32).toInt = 9 by decide +kernel); omega) (by decide) ?_
                      refine lv_iconst (v := (-1)) hx hb d_WM_count_118 (by decide +kernel) ?_
                      exact W.iret (v := (-1)) hx hb hr (fun t ht hW => ⟨(-1), rfl, ⟨trivial, hQ⟩, ht⟩) t_nil d_WM_count_119
def wpB_Md_menAs_w_4_1 (L : List Nat) (f : TF) (q0 : Nat) (p_0 : Int32) (Q : Int32 → Prop) (rec_1 : Int32 → Int32 → Prop) (v2_1 : Int32) (v3_1 : Int32) : Prop := ((40 ≤ v3_1 → Q v2_1) ∧ (¬ (40 ≤ v3_1) → ∀ q_3 : Nat, tr f q0 9 = some q_3 → ∀ x_4 : Int32, ti f q_3 (v3_1 : Int32).toNatClampNeg = x_4 → ((x_4 = p_0 → rec_1 (v2_1 + 1) (v3_1 + 1)) ∧ (¬ (x_4 = p_0) → rec_1 (v2_1 + 0) (v3_1 + 1)))))
def wpL_Md_menAs_w_4_1 (L : List Nat) (f : TF) (q0 : Nat) (p_0 : Int32) (Q : Int32 → Prop) : Nat → Int32 → Int32 → Prop
  | 0 => fun v2_1 v3_1 => wpB_Md_menAs_w_4_1 L f q0 p_0 Q (fun _ _ => True) v2_1 v3_1
  | n + 1 => fun v2_1 v3_1 => wpB_Md_menAs_w_4_1 L f q0 p_0 Q (wpL_Md_menAs_w_4_1 L f q0 p_0 Q n) v2_1 v3_1
def wpR_Md_menAs_w_4_1 (L : List Nat) (f : TF) (q0 : Nat) (p_0 : Int32) (Q : Int32 → Prop) : Nat → Int32 → Int32 → Prop
  | 0 => fun _ _ => True
  | n + 1 => wpL_Md_menAs_w_4_1 L f q0 p_0 Q n
theorem wpL_Md_menAs_w_4_1_eq {L : List Nat} {f : TF} {q0 : Nat} {p_0 : Int32} {Q : Int32 → Prop} {n : Nat} : wpL_Md_menAs_w_4_1 L f q0 p_0 Q n = wpB_Md_menAs_w_4_1 L f q0 p_0 Q (wpR_Md_menAs_w_4_1 L f q0 p_0 Q n) := by cases n <;> rfl
theorem wpR_Md_menAs_w_4_1_pos {L : List Nat} {f : TF} {q0 : Nat} {p_0 : Int32} {Q : Int32 → Prop} {n : Nat} (h : 0 < n) : wpR_Md_menAs_w_4_1 L f q0 p_0 Q n = wpL_Md_menAs_w_4_1 L f q0 p_0 Q (n - 1) := by
  cases n with
  | zero => omega
  | succ n => rfl
def wp_Md_menAs_w (L : List Nat) (f : TF) (q0 : Nat) (p_0 : Int32) (Q : Int32 → Prop) : Prop := wpL_Md_menAs_w_4_1 L f q0 p_0 Q (((40 : Int32).toInt - (0 : Int32).toInt).toNat) (0 : Int32) (0 : Int32)
set_option maxHeartbeats 4000000 in
set_option maxRecDepth 100000 in
theorem c_Md_menAs_w (l : Launch) (dC : Nat → ClassId) (dI : Nat → Nat → Nat) (ct : Nat → ClassId) (L : List Nat) (f : TF) (hO_0 : Ok L f) (q0 : Nat) (m0 : q0 ∈ L ∧ tk f q0 = 27) (p_0 : Int32)   (Q : Int32 → Prop) (hQ : wp_Md_menAs_w L f q0 p_0 Q) : Met l y_Md_menAs (.code y_Md_menAs b_Md_menAs 4 (some .int) :: TB) ({ frames := 0, cells := 0, slots := 0, locals := 0 }) (va_Pc [.ref q0, .int p_0] (PR dC dI (TW ct L f) (TT ct))) (vp_Si (fun r => (True) ∧ Q r)) 0 0 (fun _ => False) := by
  refine Met.ofW (cc := b_Md_menAs) (maxL := 4) (ret := (some .int)) (by decide) rfl ?_
  intro p e s m args below meth c s₁ B hml hv
  obtain ⟨rfl, hP, hK, hN⟩ := hv
  have hx := B.exec
  have hb := B.bytes
  have hr := B.returns
  have hts := atoms_spec (ws := (.code y_Md_menAs b_Md_menAs 4 (some .int) :: TB)) B.pre
  have htb := fun w (h : w ∈ TB) => hts w (List.mem_cons_of_mem _ h)
  have hown : s.vm.findClass R_Md = some m.cls := findClass_of_methodNamed B.named
  have hlocks := B.notSynchronized
  have hl := lv_entry ([.ref q0, .int p_0]) (n := 4) (Nat.le_of_ble_eq_true rfl)
  rw [lg_entry_eq]
  generalize (lg_sl ([.ref q0, .int p_0]) ++ List.replicate (4 - (lg_sl ([.ref q0, .int p_0])).length) Slot.unset).toArray = ls at hl ⊢
  have hl : lv_has ls 4 [(0, .ref q0), (1, .int p_0)] := hl
  unfold wp_Md_menAs_w at hQ
  refine lv_iconst (v := 0) hx hb d_Md_menAs_0 (by decide +kernel) ?_
  refine lv_istore_n (lv' := [(2, .int 0), (0, .ref q0), (1, .int p_0)]) hx hb d_Md_menAs_1 rfl hl (by decide) rfl (fun ls hl => ?_)
  refine lv_iconst (v := 0) hx hb d_Md_menAs_2 (by decide +kernel) ?_
  refine lv_istore_n (lv' := [(3, .int 0), (2, .int 0), (0, .ref q0), (1, .int p_0)]) hx hb d_Md_menAs_3 rfl hl (by decide) rfl (fun ls hl => ?_)
  have cut_1 : ∀ (n_1 : Nat) (v2_1 v3_1 : Int32) (ls : Array Slot), ¬ (v3_1 < 0) → ¬ (40 < v3_1) → (40 : Int32).toInt - (v3_1 : Int32).toInt ≤ (n_1 : Int) → wpL_Md_menAs_w_4_1 L f q0 p_0 Q n_1 v2_1 v3_1 → lv_has ls 4 [(0, .ref q0), (1, .int p_0), (2, .int v2_1), (3, .int v3_1)] → W p l e (headSpec (.code y_Md_menAs b_Md_menAs 4 (some .int) :: TB) ({ frames := 0, cells := 0, slots := 0, locals := 0 })).room s m [.ref q0, .int p_0].toArray below meth c s.heap [] 0 0 (MQ below (vp_Si (fun r => (True) ∧ Q r)) [.ref q0, .int p_0].toArray s 0 0 (fun _ => False)) (F0 m 4 ls []) := by
    intro n_1
    induction n_1 using Nat.strongRecOn with
    | _ n_1 ih_1 =>
      intro v2_1 v3_1 ls iv0_1 iv1_1 hm_1 hQ hl
      rw [wpL_Md_menAs_w_4_1_eq] at hQ
      obtain ⟨rec_1, hrec_1⟩ : ∃ g, wpR_Md_menAs_w_4_1 L f q0 p_0 Q n_1 = g := ⟨_, rfl⟩
      rw [hrec_1] at hQ
      unfold wpB_Md_menAs_w_4_1 at hQ
      refine lv_iload_n hx hb d_Md_menAs_4 rfl (lv_at hl 3 rfl) ?_
      refine lv_bipush (v := 40) hx hb d_Md_menAs_5 (by decide +kernel) ?_
      refine lv_icmp_ge (tgt := 34) hx hb d_Md_menAs_7 (by decide) (fun c_2 => ?_) (fun c_2 => ?_)
      · have hQ := hQ.1 c_2
        refine lv_iload_n hx hb d_Md_menAs_34 rfl (lv_at hl 2 rfl) ?_
        exact W.iret (v := v2_1) hx hb hr (fun t ht hW => ⟨v2_1, rfl, ⟨trivial, hQ⟩, ht⟩) t_nil d_Md_menAs_35
      · have hQ := hQ.2 c_2
        refine lv_iload_n hx hb d_Md_menAs_10 rfl (lv_at hl 2 rfl) ?_
        refine lv_aload_n hx hb d_Md_menAs_11 rfl (lv_at hl 0 rfl) ?_
        refine tw_getr (D := (dC, dI)) (C := R_Md) (T := F_Md) (N := 64) (ci := 7) (kd := 27) (ct := ct) hx hb htb i_Md hown hK hP hO_0 m0 rfl rfl 9 (by decide) (htb (.fieldLink R_Md 58 "WaterMenModel" "state" "[I") tw_95) (fun _ h9 => h9) rfl d_Md_menAs_12 (fun q_3 e_3 m_3 => ?_)
        have hQ := hQ q_3 e_3
        refine lv_iload_n hx hb d_Md_menAs_15 rfl (lv_at hl 3 rfl) ?_
        refine tw_aldI (ct := ct) hx hb hK hP hO_0 m_3 rfl (hb_in iv0_1 c_2 (by decide +kernel)) d_Md_menAs_16 (fun x_4 e_4 b_4 => ?_)
        have hQ := hQ x_4 e_4
        refine lv_iload_n hx hb d_Md_menAs_17 rfl (lv_at hl 1 rfl) ?_
        refine lv_icmp_ne (tgt := 25) hx hb d_Md_menAs_18 (by decide) (fun c_5 => ?_) (fun c_5 => ?_)
        · have hQ := hQ.2 c_5
          refine lv_iconst (v := 0) hx hb d_Md_menAs_25 (by decide +kernel) ?_
          refine lv_iadd hx hb d_Md_menAs_26 ?_
          refine lv_istore_n (lv' := [(2, .int (v2_1 + 0)), (0, .ref q0), (1, .int p_0), (3, .int v3_1)]) hx hb d_Md_menAs_27 rfl hl (by decide) rfl (fun ls hl => ?_)
          refine lv_iinc (v := (v3_1 + 1)) (lv' := [(3, .int (v3_1 + 1)), (2, .int (v2_1 + 0)), (0, .ref q0), (1, .int p_0)]) hx hb d_Md_menAs_28 hl (k := 3) rfl rfl (by decide) rfl (fun ls hl => ?_)
          refine lv_goto (tgt := 4) hx hb d_Md_menAs_31 (by decide) ?_
          exact ih_1 (n_1 - 1) (ms_1 ((fun (a_0 : Int32) (k_0 : ¬ (40 ≤ a_0)) => (show 1 ≤ (40 : Int32).toInt - (a_0).toInt ∧ (40 : Int32).toInt - ((a_0) + (1 : Int32)).toInt + 1 ≤ (40 : Int32).toInt - (a_0).toInt from by have z0 : (1 : Int32).toInt = 1 := (by decide +kernel); have z1 : (40 : Int32).toInt = 40 := (by decide +kernel); have r0 := fb_rng (a_0); have e0 := k_0; rw [Int32.le_iff_toInt_le, z1] at e0; obtain ⟨n_0, hn_0, s0⟩ := nd_add (x := (a_0)) (y := (1 : Int32)) (by (try rw [z0]); omega) (by (try rw [z0]); omega); rw [z0] at s0; rw [hn_0]; (try rw [z1]); omega)) v3_1 c_2) hm_1) (v2_1 + 0) (v3_1 + 1) _ (show ¬ ((v3_1 + 1) < 0) from by have e0 := iv0_1; rw [Int32.lt_iff_toInt_lt] at e0; have e1 := c_2; rw [Int32.le_iff_toInt_le] at e1; have z0 : (0 : Int32).toInt = 0 := (by decide +kernel); have z1 : (1 : Int32).toInt = 1 := (by decide +kernel); have z2 : (40 : Int32).toInt = 40 := (by decide +kernel); have ss := fb_addI (x := v3_1) (y := 1) (by omega) (by omega); rw [Int32.lt_iff_toInt_lt]; omega) (show ¬ (40 < (v3_1 + 1)) from by have e0 := iv0_1; rw [Int32.lt_iff_toInt_lt] at e0; have e1 := c_2; rw [Int32.le_iff_toInt_le] at e1; have z0 : (0 : Int32).toInt = 0 := (by decide +kernel); have z1 : (1 : Int32).toInt = 1 := (by decide +kernel); have z2 : (40 : Int32).toInt = 40 := (by decide +kernel); have ss := fb_addI (x := v3_1) (y := 1) (by omega) (by omega); rw [Int32.lt_iff_toInt_lt]; omega) (by exact ms_2 ((fun (a_0 : Int32) (k_0 : ¬ (40 ≤ a_0)) => (show 1 ≤ (40 : Int32).toInt - (a_0).toInt ∧ (40 : Int32).toInt - ((a_0) + (1 : Int32)).toInt + 1 ≤ (40 : Int32).toInt - (a_0).toInt from by have z0 : (1 : Int32).toInt = 1 := (by decide +kernel); have z1 : (40 : Int32).toInt = 40 := (by decide +kernel); have r0 := fb_rng (a_0); have e0 := k_0; rw [Int32.le_iff_toInt_le, z1] at e0; obtain ⟨n_0, hn_0, s0⟩ := nd_add (x := (a_0)) (y := (1 : Int32)) (by (try rw [z0]); omega) (by (try rw [z0]); omega); rw [z0] at s0; rw [hn_0]; (try rw [z1]); omega)) v3_1 c_2) hm_1) (by rw [← hrec_1, wpR_Md_menAs_w_4_1_pos (ms_3 ((fun (a_0 : Int32) (k_0 : ¬ (40 ≤ a_0)) => (show 1 ≤ (40 : Int32).toInt - (a_0).toInt ∧ (40 : Int32).toInt - ((a_0) + (1 : Int32)).toInt + 1 ≤ (40 : Int32).toInt - (a_0).toInt from by have z0 : (1 : Int32).toInt = 1 := (by decide +kernel); have z1 : (40 : Int32).toInt = 40 := (by decide +kernel); have r0 := fb_rng (a_0); have e0 := k_0; rw [Int32.le_iff_toInt_le, z1] at e0; obtain ⟨n_0, hn_0, s0⟩ := nd_add (x := (a_0)) (y := (1 : Int32)) (by (try rw [z0]); omega) (by (try rw [z0]); omega); rw [z0] at s0; rw [hn_0]; (try rw [z1]); omega)) v3_1 c_2) hm_1)] at hQ; exact hQ) (lv_sub hl [2, 3, 1, 0] rfl)
        · have hQ := hQ.1 c_5
          refine lv_iconst (v := 1) hx hb d_Md_menAs_21 (by decide +kernel) ?_
          refine lv_goto (tgt := 26) hx hb d_Md_menAs_22 (by decide) ?_
          refine lv_iadd hx hb d_Md_menAs_26 ?_
          refine lv_istore_n (lv' := [(2, .int (v2_1 + 1)), (0, .ref q0), (1, .int p_0), (3, .int v3_1)]) hx hb d_Md_menAs_27 rfl hl (by decide) rfl (fun ls hl => ?_)
          refine lv_iinc (v := (v3_1 + 1)) (lv' := [(3, .int (v3_1 + 1)), (2, .int (v2_1 + 1)), (0, .ref q0), (1, .int p_0)]) hx hb d_Md_menAs_28 hl (k := 3) rfl rfl (by decide) rfl (fun ls hl => ?_)
          refine lv_goto (tgt := 4) hx hb d_Md_menAs_31 (by decide) ?_
          exact ih_1 (n_1 - 1) (ms_1 ((fun (a_0 : Int32) (k_0 : ¬ (40 ≤ a_0)) => (show 1 ≤ (40 : Int32).toInt - (a_0).toInt ∧ (40 : Int32).toInt - ((a_0) + (1 : Int32)).toInt + 1 ≤ (40 : Int32).toInt - (a_0).toInt from by have z0 : (1 : Int32).toInt = 1 := (by decide +kernel); have z1 : (40 : Int32).toInt = 40 := (by decide +kernel); have r0 := fb_rng (a_0); have e0 := k_0; rw [Int32.le_iff_toInt_le, z1] at e0; obtain ⟨n_0, hn_0, s0⟩ := nd_add (x := (a_0)) (y := (1 : Int32)) (by (try rw [z0]); omega) (by (try rw [z0]); omega); rw [z0] at s0; rw [hn_0]; (try rw [z1]); omega)) v3_1 c_2) hm_1) (v2_1 + 1) (v3_1 + 1) _ (show ¬ ((v3_1 + 1) < 0) from by have e0 := iv0_1; rw [Int32.lt_iff_toInt_lt] at e0; have e1 := c_2; rw [Int32.le_iff_toInt_le] at e1; have z0 : (0 : Int32).toInt = 0 := (by decide +kernel); have z1 : (1 : Int32).toInt = 1 := (by decide +kernel); have z2 : (40 : Int32).toInt = 40 := (by decide +kernel); have ss := fb_addI (x := v3_1) (y := 1) (by omega) (by omega); rw [Int32.lt_iff_toInt_lt]; omega) (show ¬ (40 < (v3_1 + 1)) from by have e0 := iv0_1; rw [Int32.lt_iff_toInt_lt] at e0; have e1 := c_2; rw [Int32.le_iff_toInt_le] at e1; have z0 : (0 : Int32).toInt = 0 := (by decide +kernel); have z1 : (1 : Int32).toInt = 1 := (by decide +kernel); have z2 : (40 : Int32).toInt = 40 := (by decide +kernel); have ss := fb_addI (x := v3_1) (y := 1) (by omega) (by omega); rw [Int32.lt_iff_toInt_lt]; omega) (by exact ms_2 ((fun (a_0 : Int32) (k_0 : ¬ (40 ≤ a_0)) => (show 1 ≤ (40 : Int32).toInt - (a_0).toInt ∧ (40 : Int32).toInt - ((a_0) + (1 : Int32)).toInt + 1 ≤ (40 : Int32).toInt - (a_0).toInt from by have z0 : (1 : Int32).toInt = 1 := (by decide +kernel); have z1 : (40 : Int32).toInt = 40 := (by decide +kernel); have r0 := fb_rng (a_0); have e0 := k_0; rw [Int32.le_iff_toInt_le, z1] at e0; obtain ⟨n_0, hn_0, s0⟩ := nd_add (x := (a_0)) (y := (1 : Int32)) (by (try rw [z0]); omega) (by (try rw [z0]); omega); rw [z0] at s0; rw [hn_0]; (try rw [z1]); omega)) v3_1 c_2) hm_1) (by rw [← hrec_1, wpR_Md_menAs_w_4_1_pos (ms_3 ((fun (a_0 : Int32) (k_0 : ¬ (40 ≤ a_0)) => (show 1 ≤ (40 : Int32).toInt - (a_0).toInt ∧ (40 : Int32).toInt - ((a_0) + (1 : Int32)).toInt + 1 ≤ (40 : Int32).toInt - (a_0).toInt from by have z0 : (1 : Int32).toInt = 1 := (by decide +kernel); have z1 : (40 : Int32).toInt = 40 := (by decide +kernel); have r0 := fb_rng (a_0); have e0 := k_0; rw [Int32.le_iff_toInt_le, z1] at e0; obtain ⟨n_0, hn_0, s0⟩ := nd_add (x := (a_0)) (y := (1 : Int32)) (by (try rw [z0]); omega) (by (try rw [z0]); omega); rw [z0] at s0; rw [hn_0]; (try rw [z1]); omega)) v3_1 c_2) hm_1)] at hQ; exact hQ) (lv_sub hl [2, 3, 1, 0] rfl)
  exact cut_1 ((40 : Int32).toInt - (0 : Int32).toInt).toNat (0 : Int32) (0 : Int32) _ (by decide +kernel) (by decide +kernel) (by exact ms_e _ _) hQ (lv_sub hl [2, 3, 1, 0] rfl)
