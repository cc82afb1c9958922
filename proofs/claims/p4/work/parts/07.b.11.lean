def WL_Md_minutes_t_27_6 : List (Nat × Nat) := [(27, 1), (27, 56), (27, 57), (27, 58), (39, 1000), (40, 1000), (42, 1000), (48, 1000), (71, 1000), (74, 1000)]
def W_Md_minutes_t : List (Nat × Nat) := [(27, 1), (27, 56), (27, 57), (27, 58), (39, 1000), (40, 1000), (42, 1000), (48, 1000), (71, 1000), (74, 1000)]
set_option maxHeartbeats 4000000 in
set_option maxRecDepth 100000 in
theorem c_Md_minutes_t (l : Launch) (dC : Nat → ClassId) (dI : Nat → Nat → Nat) (ct : Nat → ClassId) (L : List Nat) (f : TF) (hO_0 : Ok L f) (q0 : Nat) (m0 : q0 ∈ L ∧ tk f q0 = 27) (sz : Nat) (p_0 : Int32)   : Met l y_Md_minutes (.code y_Md_minutes b_Md_minutes 3 (some .int) :: TB) ({ frames := 1, cells := 0, slots := 0, locals := 25 }) (va_Pc [.ref q0, .int p_0] (PC dC dI (TW ct L f) (TT ct) sz)) (va_Qi (fun r (u : TSt) => Ok u.1 u.2 ∧ Ext W_Md_minutes_t L f u.1 u.2 ∧ (True)) (fun (u : TSt) t => va_P (dC, dI) vwCl (TW ct u.1 u.2) t.heap ∧ va_K (dC, dI) vwCl (TT ct) t ∧ va_D (va_A (TW ct L f) sz) (TW ct u.1 u.2)) (va_A (TW ct L f) sz)) 0 0 (va_A (TW ct L f) sz) := by
  refine Met.ofW (cc := b_Md_minutes) (maxL := 3) (ret := (some .int)) (by decide) rfl ?_
  intro p e s m args below meth c s₁ B hml hv
  obtain ⟨rfl, hsz, hP, hK, hD0, hN⟩ := hv
  have hx := B.exec
  have hb := B.bytes
  have hr := B.returns
  have hts := atoms_spec (ws := (.code y_Md_minutes b_Md_minutes 3 (some .int) :: TB)) B.pre
  have htb := fun w (h : w ∈ TB) => hts w (List.mem_cons_of_mem _ h)
  have hown : s.vm.findClass R_Md = some m.cls := findClass_of_methodNamed B.named
  have hlocks := B.notSynchronized
  have hl := lv_entry ([.ref q0, .int p_0]) (n := 3) (Nat.le_of_ble_eq_true rfl)
  rw [lg_entry_eq]
  generalize (lg_sl ([.ref q0, .int p_0]) ++ List.replicate (3 - (lg_sl ([.ref q0, .int p_0])).length) Slot.unset).toArray = ls at hl ⊢
  have hl : lv_has ls 3 [(0, .ref q0), (1, .int p_0)] := hl
  subst hsz
  have hD := hD0.self (sz := s.heap.size)
  obtain ⟨A, hAe⟩ : ∃ A, va_A (TW ct L f) s.heap.size = A := ⟨_, rfl⟩
  rw [hAe] at hD
  have hA : ∀ q : Nat, s.heap.size ≤ q → A q := fun q h => by rw [← hAe]; exact Or.inr h
  have hS : va_S A s.heap s.heap [] := va_S.rf
  have hA_0 : Ext [] L f L f := Ext.rf
  suffices hGo : ∀ (H : Heap) (locs : List Loc), va_P (dC, dI) vwCl (TW ct L f) H → va_S A s.heap H locs → W p l e (headSpec (.code y_Md_minutes b_Md_minutes 3 (some .int) :: TB) ({ frames := 1, cells := 0, slots := 0, locals := 25 })).room s m [.ref q0, .int p_0].toArray below meth c H locs 0 0 (MQ below (va_Qi (fun r (u : TSt) => Ok u.1 u.2 ∧ Ext W_Md_minutes_t L f u.1 u.2 ∧ (True)) (fun (u : TSt) t => va_P (dC, dI) vwCl (TW ct u.1 u.2) t.heap ∧ va_K (dC, dI) vwCl (TT ct) t ∧ va_D (va_A (TW ct L f) s.heap.size) (TW ct u.1 u.2)) (va_A (TW ct L f) s.heap.size)) [.ref q0, .int p_0].toArray s 0 0 (va_A (TW ct L f) s.heap.size)) (F0 m 0 ls []) from hGo _ _ hP hS
  clear hP hS
  intro H locs hP hS
  have bs_1 := hO_0.i m0 (show slotD 27 1 = some (.inl (0, 359999)) from rfl)
  refine lv_iload_n hx hb d_Md_minutes_0 rfl (lv_at hl 1 rfl) ?_
  refine lv_iconst (v := 1) hx hb d_Md_minutes_1 (by decide +kernel) ?_
  refine lv_sipush (v := 1440) hx hb d_Md_minutes_2 (by decide +kernel) ?_
  refine vp_callSi (va_Run.run (va_runS (As := [.int p_0, .int 1, .int 1440]) (rest := []) ⟨hx, hb, hml, hown, htb⟩ (c_Md_in l p_0 1 1440) (cwS 3 htb (gd_S tw_408 tw_409 tw_407 tw_406) rfl rfl rfl (by decide +kernel) ⟨Nat.le_of_ble_eq_true rfl, Nat.le_of_ble_eq_true rfl⟩) ⟨fun _ _ _ _ h => h, fun U _ _ => ⟨rfl, trivial⟩⟩ rfl rfl hl.1 rfl (lv_room (Nat.le_of_ble_eq_true rfl)) d_Md_minutes_5 ⟨Nat.le_of_ble_eq_true rfl, Nat.le_of_ble_eq_true rfl⟩)) (fun r er => ?_)
  subst er
  by_cases c_3 : p_0 < 1
  · refine hb_ti 0 (by unfold f_Md_in; rw [if_pos c_3]; first | done | rfl) ?_
    refine lv_if_eq (tgt := 23) hx hb d_Md_minutes_8 (by decide) (fun _ => ?_) (fun h => absurd (by decide +kernel) h)
    refine lv_iconst (v := (-1)) hx hb d_Md_minutes_23 (by decide +kernel) ?_
    refine W.widen (k := 0) (n := 0) (Nat.le_of_ble_eq_true rfl) (Nat.le_of_ble_eq_true rfl) ?_
    exact W.iret (v := (-1)) hx hb hr (fun t ht hW => ⟨⟨(-1), (L, f), rfl, ⟨hO_0, hA_0.mono (by decide +kernel), trivial⟩, by rw [ht]; exact hP, va_K.moved hW.alike hK, by rw [hAe]; exact hD⟩, by rw [hAe]; exact hS.F ht⟩) (by rw [hAe]; exact hS.2.2) d_Md_minutes_24
  · by_cases c_4 : 1440 < p_0
    · refine hb_ti 0 (by unfold f_Md_in; rw [if_neg c_3, if_pos c_4]; first | done | rfl) ?_
      refine lv_if_eq (tgt := 23) hx hb d_Md_minutes_8 (by decide) (fun _ => ?_) (fun h => absurd (by decide +kernel) h)
      refine lv_iconst (v := (-1)) hx hb d_Md_minutes_23 (by decide +kernel) ?_
      refine W.widen (k := 0) (n := 0) (Nat.le_of_ble_eq_true rfl) (Nat.le_of_ble_eq_true rfl) ?_
      exact W.iret (v := (-1)) hx hb hr (fun t ht hW => ⟨⟨(-1), (L, f), rfl, ⟨hO_0, hA_0.mono (by decide +kernel), trivial⟩, by rw [ht]; exact hP, va_K.moved hW.alike hK, by rw [hAe]; exact hD⟩, by rw [hAe]; exact hS.F ht⟩) (by rw [hAe]; exact hS.2.2) d_Md_minutes_24
    · refine hb_ti 1 (by unfold f_Md_in; rw [if_neg c_3, if_neg c_4]; first | done | rfl) ?_
      refine lv_if_eq (tgt := 23) hx hb d_Md_minutes_8 (by decide) (fun h => absurd h (by decide +kernel)) (fun _ => ?_)
      refine lv_aload_n hx hb d_Md_minutes_11 rfl (lv_at hl 0 rfl) ?_
      refine tw_getI (x := (ti f q0 1)) (D := (dC, dI)) (C := R_Md) (T := F_Md) (N := 64) (ci := 7) (kd := 27) (ct := ct) hx hb htb i_Md hown hK hP m0 rfl rfl 1 rfl (by decide) (htb (.fieldLink R_Md 7 "WaterMenModel" "time" "I") tw_404) (fun _ h9 => h9) rfl d_Md_minutes_12 ?_
      refine lv_iload_n hx hb d_Md_minutes_15 rfl (lv_at hl 1 rfl) ?_
      refine lv_iadd hx hb d_Md_minutes_16 ?_
      refine lv_ldcw (v := 359999) hx hb hown (htb (.constant R_Md 305 359999) tw_550) d_Md_minutes_17 ?_
      refine lv_icmp_le (tgt := 25) hx hb d_Md_minutes_20 (by decide) (fun c_5 => ?_) (fun c_5 => ?_)
      · refine lv_iconst (v := 0) hx hb d_Md_minutes_25 (by decide +kernel) ?_
        refine lv_istore_n (lv' := [(2, .int 0), (0, .ref q0), (1, .int p_0)]) hx hb d_Md_minutes_26 rfl hl (by decide) rfl (fun ls hl => ?_)
        have cut_6 : ∀ (n_6 : Nat) (v2_6 : Int32) (L_1 : List Nat) (f_1 : TF) (H : Heap) (locs : List Loc) (ls : Array Slot), va_P (dC, dI) vwCl (TW ct L_1 f_1) H → va_D A (TW ct L_1 f_1) → va_S A s.heap H locs → Ok L_1 f_1 → Ext WL_Md_minutes_t_27_6 L f L_1 f_1 → ¬ (v2_6 < 0) → ¬ (1440 < v2_6) → (ti f_1 q0 1) = ((ti f q0 1) + v2_6) → (1440 : Int32).toInt - (v2_6 : Int32).toInt ≤ (n_6 : Int) → lv_has ls 3 [(0, .ref q0), (1, .int p_0), (2, .int v2_6)] → W p l e (headSpec (.code y_Md_minutes b_Md_minutes 3 (some .int) :: TB) ({ frames := 1, cells := 0, slots := 0, locals := 25 })).room s m [.ref q0, .int p_0].toArray below meth c H locs 0 0 (MQ below (va_Qi (fun r (u : TSt) => Ok u.1 u.2 ∧ Ext W_Md_minutes_t L f u.1 u.2 ∧ (True)) (fun (u : TSt) t => va_P (dC, dI) vwCl (TW ct u.1 u.2) t.heap ∧ va_K (dC, dI) vwCl (TT ct) t ∧ va_D (va_A (TW ct L f) s.heap.size) (TW ct u.1 u.2)) (va_A (TW ct L f) s.heap.size)) [.ref q0, .int p_0].toArray s 0 0 (va_A (TW ct L f) s.heap.size)) (F0 m 27 ls []) := by
          intro n_6
          induction n_6 using Nat.strongRecOn with
          | _ n_6 ih_6 =>
            intro v2_6 L_1 f_1 H locs ls hP hD hS hO_1 hE_1 iv0_6 iv1_6 iv2_6 hm_6 hl
            have hA_1 := hA_0.trans hE_1
            have bf_7 := hO_1.i (hA_1.m m0) (show slotD 27 1 = some (.inl (0, 359999)) from rfl)
            refine lv_iload_n hx hb d_Md_minutes_27 rfl (lv_at hl 2 rfl) ?_
            refine lv_iload_n hx hb d_Md_minutes_28 rfl (lv_at hl 1 rfl) ?_
            refine lv_icmp_ge (tgt := 106) hx hb d_Md_minutes_29 (by decide) (fun c_8 => ?_) (fun c_8 => ?_)
            · refine lv_aload_n hx hb d_Md_minutes_106 rfl (lv_at hl 0 rfl) ?_
              refine tw_getI (x := (ti f_1 q0 1)) (D := (dC, dI)) (C := R_Md) (T := F_Md) (N := 64) (ci := 7) (kd := 27) (ct := ct) hx hb htb i_Md hown hK hP (hA_1.m m0) rfl rfl 1 rfl (by decide) (htb (.fieldLink R_Md 7 "WaterMenModel" "time" "I") tw_404) (fun _ h9 => h9) rfl d_Md_minutes_107 ?_
              refine W.widen (k := 0) (n := 0) (Nat.le_of_ble_eq_true rfl) (Nat.le_of_ble_eq_true rfl) ?_
              exact W.iret (v := (ti f_1 q0 1)) hx hb hr (fun t ht hW => ⟨⟨(ti f_1 q0 1), (L_1, f_1), rfl, ⟨hO_1, hA_1.mono (by decide +kernel), trivial⟩, by rw [ht]; exact hP, va_K.moved hW.alike hK, by rw [hAe]; exact hD⟩, by rw [hAe]; exact hS.F ht⟩) (by rw [hAe]; exact hS.2.2) d_Md_minutes_110
            · refine lv_aload_n hx hb d_Md_minutes_32 rfl (lv_at hl 0 rfl) ?_
              refine lv_dup hx hb d_Md_minutes_33 rfl ?_
              refine tw_getI (x := (ti f_1 q0 1)) (D := (dC, dI)) (C := R_Md) (T := F_Md) (N := 64) (ci := 7) (kd := 27) (ct := ct) hx hb htb i_Md hown hK hP (hA_1.m m0) rfl rfl 1 rfl (by decide) (htb (.fieldLink R_Md 7 "WaterMenModel" "time" "I") tw_404) (fun _ h9 => h9) rfl d_Md_minutes_34 ?_
              refine lv_iconst (v := 1) hx hb d_Md_minutes_37 (by decide +kernel) ?_
              refine lv_iadd hx hb d_Md_minutes_38 ?_
              refine tw_puti (v := ((ti f_1 q0 1) + 1)) (D := (dC, dI)) (C := R_Md) (T := F_Md) (N := 64) (ci := 7) (kd := 27) (ct := ct) (ty := .int) hx hb htb i_Md t_Md t_Md_ok n_Md hown hK hP hD hS hO_1 (hA_1.m m0) rfl rfl 1 (by decide) (htb (.fieldLink R_Md 7 "WaterMenModel" "time" "I") tw_404) (fun _ h9 => h9) rfl (by decide +kernel) rfl rfl rfl ⟨(show ¬ (((ti f_1 q0 1) + 1) < 0) from by have z0 : (0 : Int32).toInt = 0 := (by decide +kernel); have z1 : (1 : Int32).toInt = 1 := (by decide +kernel); have z2 : (359999 : Int32).toInt = 359999 := (by decide +kernel); have r0 := fb_rng (ti f_1 q0 1); have e0 := bf_7.1; rw [Int32.lt_iff_toInt_lt, z0] at e0; have e1 := bf_7.2; rw [Int32.lt_iff_toInt_lt, z2] at e1; have s0 := fb_addI (x := (ti f_1 q0 1)) (y := (1 : Int32)) (by (try rw [z1]); omega) (by (try rw [z1]); omega); rw [z1] at s0; rw [Int32.lt_iff_toInt_lt, z0]; omega), (show ¬ (359999 < ((ti f_1 q0 1) + 1)) from by have z0 : (0 : Int32).toInt = 0 := (by decide +kernel); have z1 : (1 : Int32).toInt = 1 := (by decide +kernel); have z2 : (1440 : Int32).toInt = 1440 := (by decide +kernel); have z3 : (359999 : Int32).toInt = 359999 := (by decide +kernel); have r0 := fb_rng (p_0); have r1 := fb_rng (ti f q0 1); have r2 := fb_rng (ti f_1 q0 1); have r3 := fb_rng (v2_6); have e0 := c_8; rw [Int32.le_iff_toInt_le] at e0; have e1 := bs_1.2; rw [Int32.lt_iff_toInt_lt, z3] at e1; have e2 := c_4; rw [Int32.lt_iff_toInt_lt, z2] at e2; have e3 := iv0_6; rw [Int32.lt_iff_toInt_lt, z0] at e3; have s0 := fb_addI (x := (ti f q0 1)) (y := (v2_6)) (by omega) (by omega); have e4 := iv2_6; rw [← Int32.toInt_inj] at e4; have s1 := fb_addI (x := (ti f q0 1)) (y := (p_0)) (by omega) (by omega); have e5 := c_5; rw [Int32.le_iff_toInt_le, z3] at e5; have s2 := fb_addI (x := (ti f_1 q0 1)) (y := (1 : Int32)) (by (try rw [z1]); omega) (by (try rw [z1]); omega); rw [z1] at s2; rw [Int32.lt_iff_toInt_lt, z3]; omega)⟩ d_Md_minutes_39 (fun f_2 H locs hP hD hS hO_2 hE_2 w_9 => ?_)
              have hA_2 := hA_1.trans hE_2
              refine lv_aload_n hx hb d_Md_minutes_42 rfl (lv_at hl 0 rfl) ?_
              have hFc := hb_free hD hS hA
              refine va_callv (va_runV (As := []) (rest := []) ⟨hx, hb, hml, hown, htb⟩ (c_Md_arrive_t l dC dI ct L_1 f_2 hO_2 q0 (hA_2.m m0) _) (cwV 0 htb (gd_V tw_578 tw_579 tw_580 tw_407 tw_577) rfl rfl rfl (by decide +kernel) ⟨Nat.le_of_ble_eq_true rfl, Nat.le_of_ble_eq_true rfl⟩) ⟨pc_blind, tw_recv hK hP (hA_2.m m0) rfl rfl, pc_pre hP hK hD hN⟩ rfl rfl hl.1 rfl (lv_room (Nat.le_of_ble_eq_true rfl)) d_Md_minutes_43 ⟨Nat.le_of_ble_eq_true rfl, Nat.le_of_ble_eq_true rfl⟩) hS (fun q _ h => hFc q h) hFc (fun u t H locs ht hvm er hB hz1 hk1 hS => ?_)
              obtain ⟨L_3, f_3⟩ := u
              obtain ⟨hO_3, hE_3, er⟩ := er
              obtain ⟨hP, hK1, hD1⟩ := hB
              rw [ht] at hP
              have hP : va_P (dC, dI) vwCl (TW ct L_3 f_3) H := hP
              have hD : va_D A (TW ct L_3 f_3) := hD1.weaken (fun _ q _ h => hFc q.1 h)
              have hO_3 : Ok L_3 f_3 := hO_3
              have hE_3 : Ext W_Md_arrive_t L_1 f_2 L_3 f_3 := hE_3
              clear hK1 hD1 ht hvm hz1 hk1
              have hA_3 := hA_2.trans hE_3
              clear er
              refine lv_aload_n hx hb d_Md_minutes_46 rfl (lv_at hl 0 rfl) ?_
              refine tw_getI (x := ((ti f_1 q0 1) + 1)) (D := (dC, dI)) (C := R_Md) (T := F_Md) (N := 64) (ci := 7) (kd := 27) (ct := ct) hx hb htb i_Md hown hK hP (hA_3.m m0) rfl rfl 1 ((hE_3.ei (hA_2.m m0) rfl).trans w_9) (by decide) (htb (.fieldLink R_Md 7 "WaterMenModel" "time" "I") tw_404) (fun _ h9 => h9) rfl d_Md_minutes_47 ?_
              refine lv_sipush (v := 720) hx hb d_Md_minutes_50 (by decide +kernel) ?_
              refine lv_irem hx hb d_Md_minutes_53 (by decide) ?_
              refine hb_remn (c := 720) (C1 := 719) (K := 2147482927) (by decide +kernel) (by decide +kernel) (by decide +kernel) (show ¬ (((ti f_1 q0 1) + 1) < 0) from by have z0 : (0 : Int32).toInt = 0 := (by decide +kernel); have z1 : (1 : Int32).toInt = 1 := (by decide +kernel); have z2 : (359999 : Int32).toInt = 359999 := (by decide +kernel); have r0 := fb_rng (ti f_1 q0 1); have e0 := bf_7.1; rw [Int32.lt_iff_toInt_lt, z0] at e0; have e1 := bf_7.2; rw [Int32.lt_iff_toInt_lt, z2] at e1; have s0 := fb_addI (x := (ti f_1 q0 1)) (y := (1 : Int32)) (by (try rw [z1]); omega) (by (try rw [z1]); omega); rw [z1] at s0; rw [Int32.lt_iff_toInt_lt, z0]; omega) (show ¬ (2147482927 < ((ti f_1 q0 1) + 1)) from by have z0 : (1 : Int32).toInt = 1 := (by decide +kernel); have z1 : (359999 : Int32).toInt = 359999 := (by decide +kernel); have z2 : (2147482927 : Int32).toInt = 2147482927 := (by decide +kernel); have r0 := fb_rng (ti f_1 q0 1); have e0 := bf_7.2; rw [Int32.lt_iff_toInt_lt, z1] at e0; have s0 := fb_addI (x := (ti f_1 q0 1)) (y := (1 : Int32)) (by (try rw [z0]); omega) (by (try rw [z0]); omega); rw [z0] at s0; rw [Int32.lt_iff_toInt_lt, z2]; omega) (fun y_11 qu_11 g1_11 g2_11 g3_11 g4_11 g5_11 => ?_)
              refine lv_if_eq (tgt := 60) hx hb d_Md_minutes_54 (by decide) (fun c_12 => ?_) (fun c_12 => ?_)
              · refine lv_aload_n hx hb d_Md_minutes_60 rfl (lv_at hl 0 rfl) ?_
                refine vp_callSi (va_Run.run (va_runV (As := []) (rest := []) ⟨hx, hb, hml, hown, htb⟩ (c_Md_today_t l dC dI ct L_3 f_3 hO_3 q0 (hA_3.m m0)) (cwV 0 htb (gd_V tw_427 tw_428 tw_429 tw_407 tw_426) rfl rfl rfl (by decide +kernel) ⟨Nat.le_of_ble_eq_true rfl, Nat.le_of_ble_eq_true rfl⟩) ⟨pr_blind, tw_recv hK hP (hA_3.m m0) rfl rfl, pr_pre hP hK hN⟩ rfl rfl hl.1 rfl (lv_room (Nat.le_of_ble_eq_true rfl)) d_Md_minutes_61 ⟨Nat.le_of_ble_eq_true rfl, Nat.le_of_ble_eq_true rfl⟩)) (fun r_13 er_13 => ?_)
                obtain ⟨po_14, po_15, po_16, po_17, -⟩ := er_13
                rw [show ti f_3 q0 1 = ((ti f_1 q0 1) + 1) from ((hE_3.ei (hA_2.m m0) rfl).trans w_9)] at po_16
                rw [show ti f_3 q0 1 = ((ti f_1 q0 1) + 1) from ((hE_3.ei (hA_2.m m0) rfl).trans w_9)] at po_17
                refine lv_iconst (v := 1) hx hb d_Md_minutes_64 (by decide +kernel) ?_
                refine lv_isub hx hb d_Md_minutes_65 ?_
                refine lv_bipush (v := 7) hx hb d_Md_minutes_66 (by decide +kernel) ?_
                refine lv_irem hx hb d_Md_minutes_68 (by decide) ?_
                refine hb_remn (c := 7) (C1 := 6) (K := 2147483640) (by decide +kernel) (by decide +kernel) (by decide +kernel) (show ¬ ((r_13 - 1) < 0) from by have z0 : (0 : Int32).toInt = 0 := (by decide +kernel); have z1 : (1 : Int32).toInt = 1 := (by decide +kernel); have z2 : (499 : Int32).toInt = 499 := (by decide +kernel); have z3 : (719 : Int32).toInt = 719 := (by decide +kernel); have z4 : (720 : Int32).toInt = 720 := (by decide +kernel); have z5 : (359999 : Int32).toInt = 359999 := (by decide +kernel); have r0 := fb_rng (qu_11); have r1 := fb_rng (r_13); have r2 := fb_rng (ti f_1 q0 1); have r3 := fb_rng (y_11); have e0 := po_14; rw [Int32.lt_iff_toInt_lt, z0] at e0; have e1 := po_15; rw [Int32.lt_iff_toInt_lt, z2] at e1; have s0 := fb_mulI (x := (r_13)) (y := (720 : Int32)) (by (try rw [z4]); omega) (by (try rw [z4]); omega); rw [z4] at s0; have s1 := fb_addI (x := ((r_13) * (720 : Int32))) (y := (719 : Int32)) (by (try rw [z3]); omega) (by (try rw [z3]); omega); rw [z3] at s1; have e2 := bf_7.1; rw [Int32.lt_iff_toInt_lt, z0] at e2; have e3 := bf_7.2; rw [Int32.lt_iff_toInt_lt, z5] at e3; have s2 := fb_addI (x := (ti f_1 q0 1)) (y := (1 : Int32)) (by (try rw [z1]); omega) (by (try rw [z1]); omega); rw [z1] at s2; have e4 := g4_11; rw [Int32.lt_iff_toInt_lt] at e4; have e5 := c_12; rw [← Int32.toInt_inj, z0] at e5; have e6 := g3_11; rw [Int32.lt_iff_toInt_lt, z0] at e6; have e7 := po_17; rw [Int32.lt_iff_toInt_lt] at e7; have s3 := fb_mulI (x := (qu_11)) (y := (720 : Int32)) (by (try rw [z4]); omega) (by (try rw [z4]); omega); rw [z4] at s3; have s4 := fb_addI (x := ((qu_11) * (720 : Int32))) (y := (y_11)) (by omega) (by omega); have e8 := g5_11; rw [← Int32.toInt_inj] at e8; have s5 := fb_subI (x := (r_13)) (y := (1 : Int32)) (by (try rw [z1]); omega) (by (try rw [z1]); omega); rw [z1] at s5; rw [Int32.lt_iff_toInt_lt, z0]; omega) (show ¬ (2147483640 < (r_13 - 1)) from by have e0 := po_14; rw [Int32.lt_iff_toInt_lt] at e0; have e1 := po_15; rw [Int32.lt_iff_toInt_lt] at e1; have z0 : (0 : Int32).toInt = 0 := (by decide +kernel); have z1 : (1 : Int32).toInt = 1 := (by decide +kernel); have z2 : (499 : Int32).toInt = 499 := (by decide +kernel); have z3 : (2147483640 : Int32).toInt = 2147483640 := (by decide +kernel); have ss := fb_subI (x := r_13) (y := 1) (by omega) (by omega); rw [Int32.lt_iff_toInt_lt]; omega) (fun y_18 qu_18 g1_18 g2_18 g3_18 g4_18 g5_18 => ?_)
                refine lv_if_ne (tgt := 82) hx hb d_Md_minutes_69 (by decide) (fun c_19 => ?_) (fun c_19 => ?_)
                · refine lv_aload_n hx hb d_Md_minutes_82 rfl (lv_at hl 0 rfl) ?_
                  refine vp_callSi (va_Run.run (va_runV (As := []) (rest := []) ⟨hx, hb, hml, hown, htb⟩ (c_Md_today_t l dC dI ct L_3 f_3 hO_3 q0 (hA_3.m m0)) (cwV 0 htb (gd_V tw_427 tw_428 tw_429 tw_407 tw_426) rfl rfl rfl (by decide +kernel) ⟨Nat.le_of_ble_eq_true rfl, Nat.le_of_ble_eq_true rfl⟩) ⟨pr_blind, tw_recv hK hP (hA_3.m m0) rfl rfl, pr_pre hP hK hN⟩ rfl rfl hl.1 rfl (lv_room (Nat.le_of_ble_eq_true rfl)) d_Md_minutes_83 ⟨Nat.le_of_ble_eq_true rfl, Nat.le_of_ble_eq_true rfl⟩)) (fun r_20 er_20 => ?_)
                  obtain ⟨po_21, po_22, po_23, po_24, -⟩ := er_20
                  rw [show ti f_3 q0 1 = ((ti f_1 q0 1) + 1) from ((hE_3.ei (hA_2.m m0) rfl).trans w_9)] at po_23
                  rw [show ti f_3 q0 1 = ((ti f_1 q0 1) + 1) from ((hE_3.ei (hA_2.m m0) rfl).trans w_9)] at po_24
                  refine lv_bipush (v := 100) hx hb d_Md_minutes_86 (by decide +kernel) ?_
                  refine lv_irem hx hb d_Md_minutes_88 (by decide) ?_
                  refine hb_remn (c := 100) (C1 := 99) (K := 2147483547) (by decide +kernel) (by decide +kernel) (by decide +kernel) po_21 (show ¬ (2147483547 < r_20) from by have e0 := po_21; rw [Int32.lt_iff_toInt_lt] at e0; have e1 := po_22; rw [Int32.lt_iff_toInt_lt] at e1; have z0 : (0 : Int32).toInt = 0 := (by decide +kernel); have z1 : (499 : Int32).toInt = 499 := (by decide +kernel); have z2 : (2147483547 : Int32).toInt = 2147483547 := (by decide +kernel); rw [Int32.lt_iff_toInt_lt]; omega) (fun y_25 qu_25 g1_25 g2_25 g3_25 g4_25 g5_25 => ?_)
                  refine lv_if_ne (tgt := 100) hx hb d_Md_minutes_89 (by decide) (fun c_26 => ?_) (fun c_26 => ?_)
                  · refine lv_iinc (v := (v2_6 + 1)) (lv' := [(2, .int (v2_6 + 1)), (0, .ref q0), (1, .int p_0)]) hx hb d_Md_minutes_100 hl (k := 2) rfl rfl (by decide) rfl (fun ls hl => ?_)
                    refine lv_goto (tgt := 27) hx hb d_Md_minutes_103 (by decide) ?_
                    exact ih_6 (n_6 - 1) (by have z0 : (1 : Int32).toInt = 1 := (by decide +kernel); have z1 : (1440 : Int32).toInt = 1440 := (by decide +kernel); have r0 := fb_rng (p_0); have r1 := fb_rng (v2_6); have e0 := c_8; rw [Int32.le_iff_toInt_le] at e0; have e1 := c_4; rw [Int32.lt_iff_toInt_lt, z1] at e1; have s0 := fb_addI (x := (v2_6)) (y := (1 : Int32)) (by (try rw [z0]); omega) (by (try rw [z0]); omega); rw [z0] at s0; have hq := hm_6; (try rw [z1] at hq); omega) (v2_6 + 1) _ _ _ _ _ hP hD hS hO_3 (((hE_1.trans hE_2).trans hE_3).mono (by decide +kernel)) (show ¬ ((v2_6 + 1) < 0) from by have e0 := iv0_6; rw [Int32.lt_iff_toInt_lt] at e0; have e1 := iv1_6; rw [Int32.lt_iff_toInt_lt] at e1; have z0 : (0 : Int32).toInt = 0 := (by decide +kernel); have z1 : (1 : Int32).toInt = 1 := (by decide +kernel); have z2 : (1440 : Int32).toInt = 1440 := (by decide +kernel); have ss := fb_addI (x := v2_6) (y := 1) (by omega) (by omega); rw [Int32.lt_iff_toInt_lt]; omega) (show ¬ (1440 < (v2_6 + 1)) from by have z0 : (1 : Int32).toInt = 1 := (by decide +kernel); have z1 : (1440 : Int32).toInt = 1440 := (by decide +kernel); have r0 := fb_rng (p_0); have r1 := fb_rng (v2_6); have e0 := c_8; rw [Int32.le_iff_toInt_le] at e0; have e1 := c_4; rw [Int32.lt_iff_toInt_lt, z1] at e1; have s0 := fb_addI (x := (v2_6)) (y := (1 : Int32)) (by (try rw [z0]); omega) (by (try rw [z0]); omega); rw [z0] at s0; rw [Int32.lt_iff_toInt_lt, z1]; omega) (by rw [show ti f_3 q0 1 = ((ti f_1 q0 1) + 1) from ((hE_3.ei (hA_2.m m0) rfl).trans w_9)]; exact (show ((ti f_1 q0 1) + 1) = ((ti f q0 1) + (v2_6 + 1)) from by have z0 : (0 : Int32).toInt = 0 := (by decide +kernel); have z1 : (1 : Int32).toInt = 1 := (by decide +kernel); have z2 : (1440 : Int32).toInt = 1440 := (by decide +kernel); have z3 : (359999 : Int32).toInt = 359999 := (by decide +kernel); have r0 := fb_rng (p_0); have r1 := fb_rng (ti f q0 1); have r2 := fb_rng (ti f_1 q0 1); have r3 := fb_rng (v2_6); have e0 := bs_1.2; rw [Int32.lt_iff_toInt_lt, z3] at e0; have e1 := iv0_6; rw [Int32.lt_iff_toInt_lt, z0] at e1; have e2 := c_8; rw [Int32.le_iff_toInt_le] at e2; have e3 := c_4; rw [Int32.lt_iff_toInt_lt, z2] at e3; have s0 := fb_addI (x := (ti f q0 1)) (y := (v2_6)) (by omega) (by omega); have e4 := iv2_6; rw [← Int32.toInt_inj] at e4; have s1 := fb_addI (x := (ti f_1 q0 1)) (y := (1 : Int32)) (by (try rw [z1]); omega) (by (try rw [z1]); omega); rw [z1] at s1; have s2 := fb_addI (x := (v2_6)) (y := (1 : Int32)) (by (try rw [z1]); omega) (by (try rw [z1]); omega); rw [z1] at s2; have s3 := fb_addI (x := (ti f q0 1)) (y := ((v2_6) + (1 : Int32))) (by omega) (by omega); rw [← Int32.toInt_inj]; omega)) (by have z0 : (1 : Int32).toInt = 1 := (by decide +kernel); have z1 : (1440 : Int32).toInt = 1440 := (by decide +kernel); have r0 := fb_rng (p_0); have r1 := fb_rng (v2_6); have e0 := c_8; rw [Int32.le_iff_toInt_le] at e0; have e1 := c_4; rw [Int32.lt_iff_toInt_lt, z1] at e1; have s0 := fb_addI (x := (v2_6)) (y := (1 : Int32)) (by (try rw [z0]); omega) (by (try rw [z0]); omega); rw [z0] at s0; have hq := hm_6; (try rw [z1] at hq); (try rw [z1]); omega) (lv_sub hl [1, 2, 0] rfl)
                  · refine lv_aload_n hx hb d_Md_minutes_92 rfl (lv_at hl 0 rfl) ?_
                    refine lv_aload_n hx hb d_Md_minutes_93 rfl (lv_at hl 0 rfl) ?_
                    refine vp_callSi (va_Run.run (va_runV (As := []) (rest := [.ref q0]) ⟨hx, hb, hml, hown, htb⟩ (c_Md_today_t l dC dI ct L_3 f_3 hO_3 q0 (hA_3.m m0)) (cwV 0 htb (gd_V tw_427 tw_428 tw_429 tw_407 tw_426) rfl rfl rfl (by decide +kernel) ⟨Nat.le_of_ble_eq_true rfl, Nat.le_of_ble_eq_true rfl⟩) ⟨pr_blind, tw_recv hK hP (hA_3.m m0) rfl rfl, pr_pre hP hK hN⟩ rfl rfl hl.1 rfl (lv_room (Nat.le_of_ble_eq_true rfl)) d_Md_minutes_94 ⟨Nat.le_of_ble_eq_true rfl, Nat.le_of_ble_eq_true rfl⟩)) (fun r_27 er_27 => ?_)
                    obtain ⟨po_28, po_29, po_30, po_31, -⟩ := er_27
                    rw [show ti f_3 q0 1 = ((ti f_1 q0 1) + 1) from ((hE_3.ei (hA_2.m m0) rfl).trans w_9)] at po_30
                    rw [show ti f_3 q0 1 = ((ti f_1 q0 1) + 1) from ((hE_3.ei (hA_2.m m0) rfl).trans w_9)] at po_31
                    have hFc := hb_free hD hS hA
                    refine va_callv (va_runV (As := [.int r_27]) (rest := []) ⟨hx, hb, hml, hown, htb⟩ (c_Md_pay_t l dC dI ct L_3 f_3 hO_3 q0 (hA_3.m m0) _ r_27) (cwV 1 htb (gd_V tw_582 tw_583 tw_584 tw_407 tw_581) rfl rfl rfl (by decide +kernel) ⟨Nat.le_of_ble_eq_true rfl, Nat.le_of_ble_eq_true rfl⟩) ⟨pc_blind, tw_recv hK hP (hA_3.m m0) rfl rfl, pc_pre hP hK hD hN⟩ rfl rfl hl.1 rfl (lv_room (Nat.le_of_ble_eq_true rfl)) d_Md_minutes_97 ⟨Nat.le_of_ble_eq_true rfl, Nat.le_of_ble_eq_true rfl⟩) hS (fun q _ h => hFc q h) hFc (fun u t H locs ht hvm er hB hz1 hk1 hS => ?_)
                    obtain ⟨L_4, f_4⟩ := u
                    obtain ⟨hO_4, hE_4, er⟩ := er
                    obtain ⟨hP, hK1, hD1⟩ := hB
                    rw [ht] at hP
                    have hP : va_P (dC, dI) vwCl (TW ct L_4 f_4) H := hP
                    have hD : va_D A (TW ct L_4 f_4) := hD1.weaken (fun _ q _ h => hFc q.1 h)
                    have hO_4 : Ok L_4 f_4 := hO_4
                    have hE_4 : Ext W_Md_pay_t L_3 f_3 L_4 f_4 := hE_4
                    clear hK1 hD1 ht hvm hz1 hk1
                    have hA_4 := hA_3.trans hE_4
                    clear er
                    refine lv_iinc (v := (v2_6 + 1)) (lv' := [(2, .int (v2_6 + 1)), (0, .ref q0), (1, .int p_0)]) hx hb d_Md_minutes_100 hl (k := 2) rfl rfl (by decide) rfl (fun ls hl => ?_)
                    refine lv_goto (tgt := 27) hx hb d_Md_minutes_103 (by decide) ?_
                    exact ih_6 (n_6 - 1) (by have z0 : (1 : Int32).toInt = 1 := (by decide +kernel); have z1 : (1440 : Int32).toInt = 1440 := (by decide +kernel); have r0 := fb_rng (p_0); have r1 := fb_rng (v2_6); have e0 := c_8; rw [Int32.le_iff_toInt_le] at e0; have e1 := c_4; rw [Int32.lt_iff_toInt_lt, z1] at e1; have s0 := fb_addI (x := (v2_6)) (y := (1 : Int32)) (by (try rw [z0]); omega) (by (try rw [z0]); omega); rw [z0] at s0; have hq := hm_6; (try rw [z1] at hq); omega) (v2_6 + 1) _ _ _ _ _ hP hD hS hO_4 ((((hE_1.trans hE_2).trans hE_3).trans hE_4).mono (by decide +kernel)) (show ¬ ((v2_6 + 1) < 0) from by have e0 := iv0_6; rw [Int32.lt_iff_toInt_lt] at e0; have e1 := iv1_6; rw [Int32.lt_iff_toInt_lt] at e1; have z0 : (0 : Int32).toInt = 0 := (by decide +kernel); have z1 : (1 : Int32).toInt = 1 := (by decide +kernel); have z2 : (1440 : Int32).toInt = 1440 := (by decide +kernel); have ss := fb_addI (x := v2_6) (y := 1) (by omega) (by omega); rw [Int32.lt_iff_toInt_lt]; omega) (show ¬ (1440 < (v2_6 + 1)) from by have z0 : (1 : Int32).toInt = 1 := (by decide +kernel); have z1 : (1440 : Int32).toInt = 1440 := (by decide +kernel); have r0 := fb_rng (p_0); have r1 := fb_rng (v2_6); have e0 := c_8; rw [Int32.le_iff_toInt_le] at e0; have e1 := c_4; rw [Int32.lt_iff_toInt_lt, z1] at e1; have s0 := fb_addI (x := (v2_6)) (y := (1 : Int32)) (by (try rw [z0]); omega) (by (try rw [z0]); omega); rw [z0] at s0; rw [Int32.lt_iff_toInt_lt, z1]; omega) (by rw [show ti f_4 q0 1 = ((ti f_1 q0 1) + 1) from ((hE_4.ei (hA_3.m m0) rfl).trans ((hE_3.ei (hA_2.m m0) rfl).trans w_9))]; exact (show ((ti f_1 q0 1) + 1) = ((ti f q0 1) + (v2_6 + 1)) from by have z0 : (0 : Int32).toInt = 0 := (by decide +kernel); have z1 : (1 : Int32).toInt = 1 := (by decide +kernel); have z2 : (1440 : Int32).toInt = 1440 := (by decide +kernel); have z3 : (359999 : Int32).toInt = 359999 := (by decide +kernel); have r0 := fb_rng (p_0); have r1 := fb_rng (ti f q0 1); have r2 := fb_rng (ti f_1 q0 1); have r3 := fb_rng (v2_6); have e0 := bs_1.2; rw [Int32.lt_iff_toInt_lt, z3] at e0; have e1 := iv0_6; rw [Int32.lt_iff_toInt_lt, z0] at e1; have e2 := c_8; rw [Int32.le_iff_toInt_le] at e2; have e3 := c_4; rw [Int32.lt_iff_toInt_lt, z2] at e3; have s0 := fb_addI (x := (ti f q0 1)) (y := (v2_6)) (by omega) (by omega); have e4 := iv2_6; rw [← Int32.toInt_inj] at e4; have s1 := fb_addI (x := (ti f_1 q0 1)) (y := (1 : Int32)) (by (try rw [z1]); omega) (by (try rw [z1]); omega); rw [z1] at s1; have s2 := fb_addI (x := (v2_6)) (y := (1 : Int32)) (by (try rw [z1]); omega) (by (try rw [z1]); omega); rw [z1] at s2; have s3 := fb_addI (x := (ti f q0 1)) (y := ((v2_6) + (1 : Int32))) (by omega) (by omega); rw [← Int32.toInt_inj]; omega)) (by have z0 : (1 : Int32).toInt = 1 := (by decide +kernel); have z1 : (1440 : Int32).toInt = 1440 := (by decide +kernel); have r0 := fb_rng (p_0); have r1 := fb_rng (v2_6); have e0 := c_8; rw [Int32.le_iff_toInt_le] at e0; have e1 := c_4; rw [Int32.lt_iff_toInt_lt, z1] at e1; have s0 := fb_addI (x := (v2_6)) (y := (1 : Int32)) (by (try rw [z0]); omega) (by (try rw [z0]); omega); rw [z0] at s0; have hq := hm_6; (try rw [z1] at hq); (try rw [z1]); omega) (lv_sub hl [1, 2, 0] rfl)
                · refine lv_aload_n hx hb d_Md_minutes_72 rfl (lv_at hl 0 rfl) ?_
                  refine lv_aload_n hx hb d_Md_minutes_73 rfl (lv_at hl 0 rfl) ?_
                  refine vp_callSi (va_Run.run (va_runV (As := []) (rest := [.ref q0]) ⟨hx, hb, hml, hown, htb⟩ (c_Md_today_t l dC dI ct L_3 f_3 hO_3 q0 (hA_3.m m0)) (cwV 0 htb (gd_V tw_427 tw_428 tw_429 tw_407 tw_426) rfl rfl rfl (by decide +kernel) ⟨Nat.le_of_ble_eq_true rfl, Nat.le_of_ble_eq_true rfl⟩) ⟨pr_blind, tw_recv hK hP (hA_3.m m0) rfl rfl, pr_pre hP hK hN⟩ rfl rfl hl.1 rfl (lv_room (Nat.le_of_ble_eq_true rfl)) d_Md_minutes_74 ⟨Nat.le_of_ble_eq_true rfl, Nat.le_of_ble_eq_true rfl⟩)) (fun r_33 er_33 => ?_)
                  obtain ⟨po_34, po_35, po_36, po_37, -⟩ := er_33
                  rw [show ti f_3 q0 1 = ((ti f_1 q0 1) + 1) from ((hE_3.ei (hA_2.m m0) rfl).trans w_9)] at po_36
                  rw [show ti f_3 q0 1 = ((ti f_1 q0 1) + 1) from ((hE_3.ei (hA_2.m m0) rfl).trans w_9)] at po_37
                  refine lv_iconst (v := 1) hx hb d_Md_minutes_77 (by decide +kernel) ?_
                  refine lv_isub hx hb d_Md_minutes_78 ?_
                  have hFc := hb_free hD hS hA
                  refine va_callv (va_runV (As := [.int (r_33 - 1)]) (rest := []) ⟨hx, hb, hml, hown, htb⟩ (c_Md_part_t l dC dI ct L_3 f_3 hO_3 q0 (hA_3.m m0) _ (r_33 - 1) (show ¬ ((r_33 - 1) < 0) from by have z0 : (0 : Int32).toInt = 0 := (by decide +kernel); have z1 : (1 : Int32).toInt = 1 := (by decide +kernel); have z2 : (499 : Int32).toInt = 499 := (by decide +kernel); have z3 : (719 : Int32).toInt = 719 := (by decide +kernel); have z4 : (720 : Int32).toInt = 720 := (by decide +kernel); have z5 : (359999 : Int32).toInt = 359999 := (by decide +kernel); have r0 := fb_rng (qu_18); have r1 := fb_rng (r_13); have r2 := fb_rng (r_33); have r3 := fb_rng (ti f_1 q0 1); have e0 := po_34; rw [Int32.lt_iff_toInt_lt, z0] at e0; have e1 := po_35; rw [Int32.lt_iff_toInt_lt, z2] at e1; have s0 := fb_mulI (x := (r_33)) (y := (720 : Int32)) (by (try rw [z4]); omega) (by (try rw [z4]); omega); rw [z4] at s0; have s1 := fb_addI (x := ((r_33) * (720 : Int32))) (y := (719 : Int32)) (by (try rw [z3]); omega) (by (try rw [z3]); omega); rw [z3] at s1; have e2 := bf_7.2; rw [Int32.lt_iff_toInt_lt, z5] at e2; have s2 := fb_addI (x := (ti f_1 q0 1)) (y := (1 : Int32)) (by (try rw [z1]); omega) (by (try rw [z1]); omega); rw [z1] at s2; have e3 := po_14; rw [Int32.lt_iff_toInt_lt, z0] at e3; have e4 := po_15; rw [Int32.lt_iff_toInt_lt, z2] at e4; have e5 := g3_18; rw [Int32.lt_iff_toInt_lt, z0] at e5; have e6 := po_37; rw [Int32.lt_iff_toInt_lt] at e6; have s3 := fb_mulI (x := (r_13)) (y := (720 : Int32)) (by (try rw [z4]); omega) (by (try rw [z4]); omega); rw [z4] at s3; have e7 := po_16; rw [Int32.lt_iff_toInt_lt] at e7; have s4 := fb_subI (x := (r_13)) (y := (1 : Int32)) (by (try rw [z1]); omega) (by (try rw [z1]); omega); rw [z1] at s4; have e8 := g4_18; rw [Int32.lt_iff_toInt_lt] at e8; have s5 := fb_subI (x := (r_33)) (y := (1 : Int32)) (by (try rw [z1]); omega) (by (try rw [z1]); omega); rw [z1] at s5; rw [Int32.lt_iff_toInt_lt, z0]; omega) (show ¬ (499 < (r_33 - 1)) from by have e0 := po_34; rw [Int32.lt_iff_toInt_lt] at e0; have e1 := po_35; rw [Int32.lt_iff_toInt_lt] at e1; have z0 : (0 : Int32).toInt = 0 := (by decide +kernel); have z1 : (1 : Int32).toInt = 1 := (by decide +kernel); have z2 : (499 : Int32).toInt = 499 := (by decide +kernel); have ss := fb_subI (x := r_33) (y := 1) (by omega) (by omega); rw [Int32.lt_iff_toInt_lt]; omega)) (cwV 1 htb (gd_V tw_586 tw_587 tw_588 tw_407 tw_585) rfl rfl rfl (by decide +kernel) ⟨Nat.le_of_ble_eq_true rfl, Nat.le_of_ble_eq_true rfl⟩) ⟨pc_blind, tw_recv hK hP (hA_3.m m0) rfl rfl, pc_pre hP hK hD hN⟩ rfl rfl hl.1 rfl (lv_room (Nat.le_of_ble_eq_true rfl)) d_Md_minutes_79 ⟨Nat.le_of_ble_eq_true rfl, Nat.le_of_ble_eq_true rfl⟩) hS (fun q _ h => hFc q h) hFc (fun u t H locs ht hvm er hB hz1 hk1 hS => ?_)
                  obtain ⟨L_4, f_4⟩ := u
                  obtain ⟨hO_4, hE_4, er⟩ := er
                  obtain ⟨hP, hK1, hD1⟩ := hB
                  rw [ht] at hP
                  have hP : va_P (dC, dI) vwCl (TW ct L_4 f_4) H := hP
                  have hD : va_D A (TW ct L_4 f_4) := hD1.weaken (fun _ q _ h => hFc q.1 h)
                  have hO_4 : Ok L_4 f_4 := hO_4
                  have hE_4 : Ext W_Md_part_t L_3 f_3 L_4 f_4 := hE_4
                  clear hK1 hD1 ht hvm hz1 hk1
                  have hA_4 := hA_3.trans hE_4
                  clear er
                  refine lv_aload_n hx hb d_Md_minutes_82 rfl (lv_at hl 0 rfl) ?_
                  refine vp_callSi (va_Run.run (va_runV (As := []) (rest := []) ⟨hx, hb, hml, hown, htb⟩ (c_Md_today_t l dC dI ct L_4 f_4 hO_4 q0 (hA_4.m m0)) (cwV 0 htb (gd_V tw_427 tw_428 tw_429 tw_407 tw_426) rfl rfl rfl (by decide +kernel) ⟨Nat.le_of_ble_eq_true rfl, Nat.le_of_ble_eq_true rfl⟩) ⟨pr_blind, tw_recv hK hP (hA_4.m m0) rfl rfl, pr_pre hP hK hN⟩ rfl rfl hl.1 rfl (lv_room (Nat.le_of_ble_eq_true rfl)) d_Md_minutes_83 ⟨Nat.le_of_ble_eq_true rfl, Nat.le_of_ble_eq_true rfl⟩)) (fun r_39 er_39 => ?_)
                  obtain ⟨po_40, po_41, po_42, po_43, -⟩ := er_39
                  rw [show ti f_4 q0 1 = ((ti f_1 q0 1) + 1) from ((hE_4.ei (hA_3.m m0) rfl).trans ((hE_3.ei (hA_2.m m0) rfl).trans w_9))] at po_42
                  rw [show ti f_4 q0 1 = ((ti f_1 q0 1) + 1) from ((hE_4.ei (hA_3.m m0) rfl).trans ((hE_3.ei (hA_2.m m0) rfl).trans w_9))] at po_43
                  refine lv_bipush (v := 100) hx hb d_Md_minutes_86 (by decide +kernel) ?_
                  refine lv_irem hx hb d_Md_minutes_88 (by decide) ?_
                  refine hb_remn (c := 100) (C1 := 99) (K := 2147483547) (by decide +kernel) (by decide +kernel) (by decide +kernel) po_40 (show ¬ (2147483547 < r_39) from by have e0 := po_40; rw [Int32.lt_iff_toInt_lt] at e0; have e1 := po_41; rw [Int32.lt_iff_toInt_lt] at e1; have z0 : (0 : Int32).toInt = 0 := (by decide +kernel); have z1 : (499 : Int32).toInt = 499 := (by decide +kernel); have z2 : (2147483547 : Int32).toInt = 2147483547 := (by decide +kernel); rw [Int32.lt_iff_toInt_lt]; omega) (fun y_44 qu_44 g1_44 g2_44 g3_44 g4_44 g5_44 => ?_)
                  refine lv_if_ne (tgt := 100) hx hb d_Md_minutes_89 (by decide) (fun c_45 => ?_) (fun c_45 => ?_)
                  · refine lv_iinc (v := (v2_6 + 1)) (lv' := [(2, .int (v2_6 + 1)), (0, .ref q0), (1, .int p_0)]) hx hb d_Md_minutes_100 hl (k := 2) rfl rfl (by decide) rfl (fun ls hl => ?_)
                    refine lv_goto (tgt := 27) hx hb d_Md_minutes_103 (by decide) ?_
                    exact ih_6 (n_6 - 1) (by have z0 : (1 : Int32).toInt = 1 := (by decide +kernel); have z1 : (1440 : Int32).toInt = 1440 := (by decide +kernel); have r0 := fb_rng (p_0); have r1 := fb_rng (v2_6); have e0 := c_8; rw [Int32.le_iff_toInt_le] at e0; have e1 := c_4; rw [Int32.lt_iff_toInt_lt, z1] at e1; have s0 := fb_addI (x := (v2_6)) (y := (1 : Int32)) (by (try rw [z0]); omega) (by (try rw [z0]); omega); rw [z0] at s0; have hq := hm_6; (try rw [z1] at hq); omega) (v2_6 + 1) _ _ _ _ _ hP hD hS hO_4 ((((hE_1.trans hE_2).trans hE_3).trans hE_4).mono (by decide +kernel)) (show ¬ ((v2_6 + 1) < 0) from by have e0 := iv0_6; rw [Int32.lt_iff_toInt_lt] at e0; have e1 := iv1_6; rw [Int32.lt_iff_toInt_lt] at e1; have z0 : (0 : Int32).toInt = 0 := (by decide +kernel); have z1 : (1 : Int32).toInt = 1 := (by decide +kernel); have z2 : (1440 : Int32).toInt = 1440 := (by decide +kernel); have ss := fb_addI (x := v2_6) (y := 1) (by omega) (by omega); rw [Int32.lt_iff_toInt_lt]; omega) (show ¬ (1440 < (v2_6 + 1)) from by have z0 : (1 : Int32).toInt = 1 := (by decide +kernel); have z1 : (1440 : Int32).toInt = 1440 := (by decide +kernel); have r0 := fb_rng (p_0); have r1 := fb_rng (v2_6); have e0 := c_8; rw [Int32.le_iff_toInt_le] at e0; have e1 := c_4; rw [Int32.lt_iff_toInt_lt, z1] at e1; have s0 := fb_addI (x := (v2_6)) (y := (1 : Int32)) (by (try rw [z0]); omega) (by (try rw [z0]); omega); rw [z0] at s0; rw [Int32.lt_iff_toInt_lt, z1]; omega) (by rw [show ti f_4 q0 1 = ((ti f_1 q0 1) + 1) from ((hE_4.ei (hA_3.m m0) rfl).trans ((hE_3.ei (hA_2.m m0) rfl).trans w_9))]; exact (show ((ti f_1 q0 1) + 1) = ((ti f q0 1) + (v2_6 + 1)) from by have z0 : (0 : Int32).toInt = 0 := (by decide +kernel); have z1 : (1 : Int32).toInt = 1 := (by decide +kernel); have z2 : (1440 : Int32).toInt = 1440 := (by decide +kernel); have z3 : (359999 : Int32).toInt = 359999 := (by decide +kernel); have r0 := fb_rng (p_0); have r1 := fb_rng (ti f q0 1); have r2 := fb_rng (ti f_1 q0 1); have r3 := fb_rng (v2_6); have e0 := bs_1.2; rw [Int32.lt_iff_toInt_lt, z3] at e0; have e1 := iv0_6; rw [Int32.lt_iff_toInt_lt, z0] at e1; have e2 := c_8; rw [Int32.le_iff_toInt_le] at e2; have e3 := c_4; rw [Int32.lt_iff_toInt_lt, z2] at e3; have s0 := fb_addI (x := (ti f q0 1)) (y := (v2_6)) (by omega) (by omega); have e4 := iv2_6; rw [← Int32.toInt_inj] at e4; have s1 := fb_addI (x := (ti f_1 q0 1)) (y := (1 : Int32)) (by (try rw [z1]); omega) (by (try rw [z1]); omega); rw [z1] at s1; have s2 := fb_addI (x := (v2_6)) (y := (1 : Int32)) (by (try rw [z1]); omega) (by (try rw [z1]); omega); rw [z1] at s2; have s3 := fb_addI (x := (ti f q0 1)) (y := ((v2_6) + (1 : Int32))) (by omega) (by omega); rw [← Int32.toInt_inj]; omega)) (by have z0 : (1 : Int32).toInt = 1 := (by decide +kernel); have z1 : (1440 : Int32).toInt = 1440 := (by decide +kernel); have r0 := fb_rng (p_0); have r1 := fb_rng (v2_6); have e0 := c_8; rw [Int32.le_iff_toInt_le] at e0; have e1 := c_4; rw [Int32.lt_iff_toInt_lt, z1] at e1; have s0 := fb_addI (x := (v2_6)) (y := (1 : Int32)) (by (try rw [z0]); omega) (by (try rw [z0]); omega); rw [z0] at s0; have hq := hm_6; (try rw [z1] at hq); (try rw [z1]); omega) (lv_sub hl [1, 2, 0] rfl)
                  · refine lv_aload_n hx hb d_Md_minutes_92 rfl (lv_at hl 0 rfl) ?_
                    refine lv_aload_n hx hb d_Md_minutes_93 rfl (lv_at hl 0 rfl) ?_
                    refine vp_callSi (va_Run.run (va_runV (As := []) (rest := [.ref q0]) ⟨hx, hb, hml, hown, htb⟩ (c_Md_today_t l dC dI ct L_4 f_4 hO_4 q0 (hA_4.m m0)) (cwV 0 htb (gd_V tw_427 tw_428 tw_429 tw_407 tw_426) rfl rfl rfl (by decide +kernel) ⟨Nat.le_of_ble_eq_true rfl, Nat.le_of_ble_eq_true rfl⟩) ⟨pr_blind, tw_recv hK hP (hA_4.m m0) rfl rfl, pr_pre hP hK hN⟩ rfl rfl hl.1 rfl (lv_room (Nat.le_of_ble_eq_true rfl)) d_Md_minutes_94 ⟨Nat.le_of_ble_eq_true rfl, Nat.le_of_ble_eq_true rfl⟩)) (fun r_46 er_46 => ?_)
                    obtain ⟨po_47, po_48, po_49, po_50, -⟩ := er_46
                    rw [show ti f_4 q0 1 = ((ti f_1 q0 1) + 1) from ((hE_4.ei (hA_3.m m0) rfl).trans ((hE_3.ei (hA_2.m m0) rfl).trans w_9))] at po_49
                    rw [show ti f_4 q0 1 = ((ti f_1 q0 1) + 1) from ((hE_4.ei (hA_3.m m0) rfl).trans ((hE_3.ei (hA_2.m m0) rfl).trans w_9))] at po_50
                    have hFc := hb_free hD hS hA
                    refine va_callv (va_runV (As := [.int r_46]) (rest := []) ⟨hx, hb, hml, hown, htb⟩ (c_Md_pay_t l dC dI ct L_4 f_4 hO_4 q0 (hA_4.m m0) _ r_46) (cwV 1 htb (gd_V tw_582 tw_583 tw_584 tw_407 tw_581) rfl rfl rfl (by decide +kernel) ⟨Nat.le_of_ble_eq_true rfl, Nat.le_of_ble_eq_true rfl⟩) ⟨pc_blind, tw_recv hK hP (hA_4.m m0) rfl rfl, pc_pre hP hK hD hN⟩ rfl rfl hl.1 rfl (lv_room (Nat.le_of_ble_eq_true rfl)) d_Md_minutes_97 ⟨Nat.le_of_ble_eq_true rfl, Nat.le_of_ble_eq_true rfl⟩) hS (fun q _ h => hFc q h) hFc (fun u t H locs ht hvm er hB hz1 hk1 hS => ?_)
                    obtain ⟨L_5, f_5⟩ := u
                    obtain ⟨hO_5, hE_5, er⟩ := er
                    obtain ⟨hP, hK1, hD1⟩ := hB
                    rw [ht] at hP
                    have hP : va_P (dC, dI) vwCl (TW ct L_5 f_5) H := hP
                    have hD : va_D A (TW ct L_5 f_5) := hD1.weaken (fun _ q _ h => hFc q.1 h)
                    have hO_5 : Ok L_5 f_5 := hO_5
                    have hE_5 : Ext W_Md_pay_t L_4 f_4 L_5 f_5 := hE_5
                    clear hK1 hD1 ht hvm hz1 hk1
                    have hA_5 := hA_4.trans hE_5
                    clear er
                    refine lv_iinc (v := (v2_6 + 1)) (lv' := [(2, .int (v2_6 + 1)), (0, .ref q0), (1, .int p_0)]) hx hb d_Md_minutes_100 hl (k := 2) rfl rfl (by decide) rfl (fun ls hl => ?_)
                    refine lv_goto (tgt := 27) hx hb d_Md_minutes_103 (by decide) ?_
                    exact ih_6 (n_6 - 1) (by have z0 : (1 : Int32).toInt = 1 := (by decide +kernel); have z1 : (1440 : Int32).toInt = 1440 := (by decide +kernel); have r0 := fb_rng (p_0); have r1 := fb_rng (v2_6); have e0 := c_8; rw [Int32.le_iff_toInt_le] at e0; have e1 := c_4; rw [Int32.lt_iff_toInt_lt, z1] at e1; have s0 := fb_addI (x := (v2_6)) (y := (1 : Int32)) (by (try rw [z0]); omega) (by (try rw [z0]); omega); rw [z0] at s0; have hq := hm_6; (try rw [z1] at hq); omega) (v2_6 + 1) _ _ _ _ _ hP hD hS hO_5 (((((hE_1.trans hE_2).trans hE_3).trans hE_4).trans hE_5).mono (by decide +kernel)) (show ¬ ((v2_6 + 1) < 0) from by have e0 := iv0_6; rw [Int32.lt_iff_toInt_lt] at e0; have e1 := iv1_6; rw [Int32.lt_iff_toInt_lt] at e1; have z0 : (0 : Int32).toInt = 0 := (by decide +kernel); have z1 : (1 : Int32).toInt = 1 := (by decide +kernel); have z2 : (1440 : Int32).toInt = 1440 := (by decide +kernel); have ss := fb_addI (x := v2_6) (y := 1) (by omega) (by omega); rw [Int32.lt_iff_toInt_lt]; omega) (show ¬ (1440 < (v2_6 + 1)) from by have z0 : (1 : Int32).toInt = 1 := (by decide +kernel); have z1 : (1440 : Int32).toInt = 1440 := (by decide +kernel); have r0 := fb_rng (p_0); have r1 := fb_rng (v2_6); have e0 := c_8; rw [Int32.le_iff_toInt_le] at e0; have e1 := c_4; rw [Int32.lt_iff_toInt_lt, z1] at e1; have s0 := fb_addI (x := (v2_6)) (y := (1 : Int32)) (by (try rw [z0]); omega) (by (try rw [z0]); omega); rw [z0] at s0; rw [Int32.lt_iff_toInt_lt, z1]; omega) (by rw [show ti f_5 q0 1 = ((ti f_1 q0 1) + 1) from ((hE_5.ei (hA_4.m m0) rfl).trans ((hE_4.ei (hA_3.m m0) rfl).trans ((hE_3.ei (hA_2.m m0) rfl).trans w_9)))]; exact (show ((ti f_1 q0 1) + 1) = ((ti f q0 1) + (v2_6 + 1)) from by have z0 : (0 : Int32).toInt = 0 := (by decide +kernel); have z1 : (1 : Int32).toInt = 1 := (by decide +kernel); have z2 : (1440 : Int32).toInt = 1440 := (by decide +kernel); have z3 : (359999 : Int32).toInt = 359999 := (by decide +kernel); have r0 := fb_rng (p_0); have r1 := fb_rng (ti f q0 1); have r2 := fb_rng (ti f_1 q0 1); have r3 := fb_rng (v2_6); have e0 := bs_1.2; rw [Int32.lt_iff_toInt_lt, z3] at e0; have e1 := iv0_6; rw [Int32.lt_iff_toInt_lt, z0] at e1; have e2 := c_8; rw [Int32.le_iff_toInt_le] at e2; have e3 := c_4; rw [Int32.lt_iff_toInt_lt, z2] at e3; have s0 := fb_addI (x := (ti f q0 1)) (y := (v2_6)) (by omega) (by omega); have e4 := iv2_6; rw [← Int32.toInt_inj] at e4; have s1 := fb_addI (x := (ti f_1 q0 1)) (y := (1 : Int32)) (by (try rw [z1]); omega) (by (try rw [z1]); omega); rw [z1] at s1; have s2 := fb_addI (x := (v2_6)) (y := (1 : Int32)) (by (try rw [z1]); omega) (by (try rw [z1]); omega); rw [z1] at s2; have s3 := fb_addI (x := (ti f q0 1)) (y := ((v2_6) + (1 : Int32))) (by omega) (by omega); rw [← Int32.toInt_inj]; omega)) (by have z0 : (1 : Int32).toInt = 1 := (by decide +kernel); have z1 : (1440 : Int32).toInt = 1440 := (by decide +kernel); have r0 := fb_rng (p_0); have r1 := fb_rng (v2_6); have e0 := c_8; rw [Int32.le_iff_toInt_le] at e0; have e1 := c_4; rw [Int32.lt_iff_toInt_lt, z1] at e1; have s0 := fb_addI (x := (v2_6)) (y := (1 : Int32)) (by (try rw [z0]); omega) (by (try rw [z0]); omega); rw [z0] at s0; have hq := hm_6; (try rw [z1] at hq); (try rw [z1]); omega) (lv_sub hl [1, 2, 0] rfl)
              · refine lv_goto (tgt := 100) hx hb d_Md_minutes_57 (by decide) ?_
                refine lv_iinc (v := (v2_6 + 1)) (lv' := [(2, .int (v2_6 + 1)), (0, .ref q0), (1, .int p_0)]) hx hb d_Md_minutes_100 hl (k := 2) rfl rfl (by decide) rfl (fun ls hl => ?_)
                refine lv_goto (tgt := 27) hx hb d_Md_minutes_103 (by decide) ?_
                exact ih_6 (n_6 - 1) (by have z0 : (1 : Int32).toInt = 1 := (by decide +kernel); have z1 : (1440 : Int32).toInt = 1440 := (by decide +kernel); have r0 := fb_rng (p_0); have r1 := fb_rng (v2_6); have e0 := c_8; rw [Int32.le_iff_toInt_le] at e0; have e1 := c_4; rw [Int32.lt_iff_toInt_lt, z1] at e1; have s0 := fb_addI (x := (v2_6)) (y := (1 : Int32)) (by (try rw [z0]); omega) (by (try rw [z0]); omega); rw [z0] at s0; have hq := hm_6; (try rw [z1] at hq); omega) (v2_6 + 1) _ _ _ _ _ hP hD hS hO_3 (((hE_1.trans hE_2).trans hE_3).mono (by decide +kernel)) (show ¬ ((v2_6 + 1) < 0) from by have e0 := iv0_6; rw [Int32.lt_iff_toInt_lt] at e0; have e1 := iv1_6; rw [Int32.lt_iff_toInt_lt] at e1; have z0 : (0 : Int32).toInt = 0 := (by decide +kernel); have z1 : (1 : Int32).toInt = 1 := (by decide +kernel); have z2 : (1440 : Int32).toInt = 1440 := (by decide +kernel); have ss := fb_addI (x := v2_6) (y := 1) (by omega) (by omega); rw [Int32.lt_iff_toInt_lt]; omega) (show ¬ (1440 < (v2_6 + 1)) from by have z0 : (1 : Int32).toInt = 1 := (by decide +kernel); have z1 : (1440 : Int32).toInt = 1440 := (by decide +kernel); have r0 := fb_rng (p_0); have r1 := fb_rng (v2_6); have e0 := c_8; rw [Int32.le_iff_toInt_le] at e0; have e1 := c_4; rw [Int32.lt_iff_toInt_lt, z1] at e1; have s0 := fb_addI (x := (v2_6)) (y := (1 : Int32)) (by (try rw [z0]); omega) (by (try rw [z0]); omega); rw [z0] at s0; rw [Int32.lt_iff_toInt_lt, z1]; omega) (by rw [show ti f_3 q0 1 = ((ti f_1 q0 1) + 1) from ((hE_3.ei (hA_2.m m0) rfl).trans w_9)]; exact (show ((ti f_1 q0 1) + 1) = ((ti f q0 1) + (v2_6 + 1)) from by have z0 : (0 : Int32).toInt = 0 := (by decide +kernel); have z1 : (1 : Int32).toInt = 1 := (by decide +kernel); have z2 : (1440 : Int32).toInt = 1440 := (by decide +kernel); have z3 : (359999 : Int32).toInt = 359999 := (by decide +kernel); have r0 := fb_rng (p_0); have r1 := fb_rng (ti f q0 1); have r2 := fb_rng (ti f_1 q0 1); have r3 := fb_rng (v2_6); have e0 := bs_1.2; rw [Int32.lt_iff_toInt_lt, z3] at e0; have e1 := iv0_6; rw [Int32.lt_iff_toInt_lt, z0] at e1; have e2 := c_8; rw [Int32.le_iff_toInt_le] at e2; have e3 := c_4; rw [Int32.lt_iff_toInt_lt, z2] at e3; have s0 := fb_addI (x := (ti f q0 1)) (y := (v2_6)) (by omega) (by omega); have e4 := iv2_6; rw [← Int32.toInt_inj] at e4; have s1 := fb_addI (x := (ti f_1 q0 1)) (y := (1 : Int32)) (by (try rw [z1]); omega) (by (try rw [z1]); omega); rw [z1] at s1; have s2 := fb_addI (x := (v2_6)) (y := (1 : Int32)) (by (try rw [z1]); omega) (by (try rw [z1]); omega); rw [z1] at s2; have s3 := fb_addI (x := (ti f q0 1)) (y := ((v2_6) + (1 : Int32))) (by omega) (by omega); rw [← Int32.toInt_inj]; omega)) (by have z0 : (1 : Int32).toInt = 1 := (by decide +kernel); have z1 : (1440 : Int32).toInt = 1440 := (by decide +kernel); have r0 := fb_rng (p_0); have r1 := fb_rng (v2_6); have e0 := c_8; rw [Int32.le_iff_toInt_le] at e0; have e1 := c_4; rw [Int32.lt_iff_toInt_lt, z1] at e1; have s0 := fb_addI (x := (v2_6)) (y := (1 : Int32)) (by (try rw [z0]); omega) (by (try rw [z0]); omega); rw [z0] at s0; have hq := hm_6; (try rw [z1] at hq); (try rw [z1]); omega) (lv_sub hl [1, 2, 0] rfl)
        exact cut_6 4294967296 (0 : Int32) _ _ _ _ _ hP hD hS hO_0 Ext.rf (by decide +kernel) (by decide +kernel) (show (ti f q0 1) = ((ti f q0 1) + 0) from by have z0 : (0 : Int32).toInt = 0 := (by decide +kernel); have r0 := fb_rng (ti f q0 1); have s0 := fb_addI (x := (ti f q0 1)) (y := (0 : Int32)) (by (try rw [z0]); omega) (by (try rw [z0]); omega); rw [z0] at s0; rw [← Int32.toInt_inj]; omega) (by have t1 := fb_rng (1440 : Int32); have t2 := fb_rng (0 : Int32); omega) (lv_sub hl [1, 2, 0] rfl)
      · refine lv_iconst (v := (-1)) hx hb d_Md_minutes_23 (by decide +kernel) ?_
        refine W.widen (k := 0) (n := 0) (Nat.le_of_ble_eq_true rfl) (Nat.le_of_ble_eq_true rfl) ?_
        exact W.iret (v := (-1)) hx hb hr (fun t ht hW => ⟨⟨(-1), (L, f), rfl, ⟨hO_0, hA_0.mono (by decide +kernel), trivial⟩, by rw [ht]; exact hP, va_K.moved hW.alike hK, by rw [hAe]; exact hD⟩, by rw [hAe]; exact hS.F ht⟩) (by rw [hAe]; exact hS.2.2) d_Md_minutes_24
def f_Md_isPension  (p_0 : Int32) (p_1 : Int32) : Int32 := if p_0 < 1 then (0) else (if 10000 < p_0 then (0) else (if p_1 < 0 then (0) else (if 9999 < p_1 then (0) else (1))))
set_option maxHeartbeats 4000000 in
set_option maxRecDepth 100000 in
theorem c_Md_isPension (l : Launch)  (p_0 : Int32) (p_1 : Int32)  : Met l y_Md_isPension (.code y_Md_isPension b_Md_isPension 2 (some .boolean) :: TB) ({ frames := 1, cells := 0, slots := 0, locals := 22 }) (va_Pc [.int p_0, .int p_1] (fun _ => True)) (vp_Si (fun r => r = f_Md_isPension p_0 p_1)) 0 0 (fun _ => False) := by
  refine Met.ofW (cc := b_Md_isPension) (maxL := 2) (ret := (some .boolean)) (by decide) rfl ?_
  intro p e s m args below meth c s₁ B hml hv
  obtain ⟨rfl, -⟩ := hv
  have hx := B.exec
  have hb := B.bytes
  have hr := B.returns
  have hts := atoms_spec (ws := (.code y_Md_isPension b_Md_isPension 2 (some .boolean) :: TB)) B.pre
  have htb := fun w (h : w ∈ TB) => hts w (List.mem_cons_of_mem _ h)
  have hown : s.vm.findClass R_Md = some m.cls := findClass_of_methodNamed B.named
  have hlocks := B.notSynchronized
  have hl := lv_entry ([.int p_0, .int p_1]) (n := 2) (Nat.le_of_ble_eq_true rfl)
  rw [lg_entry_eq]
  generalize (lg_sl ([.int p_0, .int p_1]) ++ List.replicate (2 - (lg_sl ([.int p_0, .int p_1])).length) Slot.unset).toArray = ls at hl ⊢
  have hl : lv_has ls 2 [(0, .int p_0), (1, .int p_1)] := hl
  refine lv_iload_n hx hb d_Md_isPension_0 rfl (lv_at hl 0 rfl) ?_
  refine lv_iconst (v := 1) hx hb d_Md_isPension_1 (by decide +kernel) ?_
  refine lv_sipush (v := 10000) hx hb d_Md_isPension_2 (by decide +kernel) ?_
  refine vp_callSi (va_Run.run (va_runS (As := [.int p_0, .int 1, .int 10000]) (rest := []) ⟨hx, hb, hml, hown, htb⟩ (c_Md_in l p_0 1 10000) (cwS 3 htb (gd_S tw_408 tw_409 tw_407 tw_406) rfl rfl rfl (by decide +kernel) ⟨Nat.le_of_ble_eq_true rfl, Nat.le_of_ble_eq_true rfl⟩) ⟨fun _ _ _ _ h => h, fun U _ _ => ⟨rfl, trivial⟩⟩ rfl rfl hl.1 rfl (lv_room (Nat.le_of_ble_eq_true rfl)) d_Md_isPension_5 ⟨Nat.le_of_ble_eq_true rfl, Nat.le_of_ble_eq_true rfl⟩)) (fun r er => ?_)
  subst er
  by_cases c_2 : p_0 < 1
  · refine hb_ti 0 (by unfold f_Md_in; rw [if_pos c_2]) ?_
    refine lv_if_eq (tgt := 26) hx hb d_Md_isPension_8 (by decide) (fun _ => ?_) (fun h => absurd (by decide +kernel) h)
    refine lv_iconst (v := 0) hx hb d_Md_isPension_26 (by decide +kernel) ?_
    exact W.zret (v := 0) hx hb hr (by decide +kernel) (fun t ht hW => ⟨0, rfl, (by unfold f_Md_isPension; rw [if_pos c_2]), ht⟩) t_nil d_Md_isPension_27
  · by_cases c_3 : 10000 < p_0
    · refine hb_ti 0 (by unfold f_Md_in; rw [if_neg c_2, if_pos c_3]) ?_
      refine lv_if_eq (tgt := 26) hx hb d_Md_isPension_8 (by decide) (fun _ => ?_) (fun h => absurd (by decide +kernel) h)
      refine lv_iconst (v := 0) hx hb d_Md_isPension_26 (by decide +kernel) ?_
      exact W.zret (v := 0) hx hb hr (by decide +kernel) (fun t ht hW => ⟨0, rfl, (by unfold f_Md_isPension; rw [if_neg c_2, if_pos c_3]), ht⟩) t_nil d_Md_isPension_27
    · refine hb_ti 1 (by unfold f_Md_in; rw [if_neg c_2, if_neg c_3]) ?_
      refine lv_if_eq (tgt := 26) hx hb d_Md_isPension_8 (by decide) (fun h => absurd h (by decide +kernel)) (fun _ => ?_)
      refine lv_iload_n hx hb d_Md_isPension_11 rfl (lv_at hl 1 rfl) ?_
      refine lv_iconst (v := 0) hx hb d_Md_isPension_12 (by decide +kernel) ?_
      refine lv_sipush (v := 9999) hx hb d_Md_isPension_13 (by decide +kernel) ?_
      refine vp_callSi (va_Run.run (va_runS (As := [.int p_1, .int 0, .int 9999]) (rest := []) ⟨hx, hb, hml, hown, htb⟩ (c_Md_in l p_1 0 9999) (cwS 3 htb (gd_S tw_408 tw_409 tw_407 tw_406) rfl rfl rfl (by decide +kernel) ⟨Nat.le_of_ble_eq_true rfl, Nat.le_of_ble_eq_true rfl⟩) ⟨fun _ _ _ _ h => h, fun U _ _ => ⟨rfl, trivial⟩⟩ rfl rfl hl.1 rfl (lv_room (Nat.le_of_ble_eq_true rfl)) d_Md_isPension_16 ⟨Nat.le_of_ble_eq_true rfl, Nat.le_of_ble_eq_true rfl⟩)) (fun r er => ?_)
      subst er
      by_cases c_5 : p_1 < 0
      · refine hb_ti 0 (by unfold f_Md_in; rw [if_pos c_5]) ?_
        refine lv_if_eq (tgt := 26) hx hb d_Md_isPension_19 (by decide) (fun _ => ?_) (fun h => absurd (by decide +kernel) h)
        refine lv_iconst (v := 0) hx hb d_Md_isPension_26 (by decide +kernel) ?_
        exact W.zret (v := 0) hx hb hr (by decide +kernel) (fun t ht hW => ⟨0, rfl, (by unfold f_Md_isPension; rw [if_neg c_2, if_neg c_3, if_pos c_5]), ht⟩) t_nil d_Md_isPension_27
      · by_cases c_6 : 9999 < p_1
        · refine hb_ti 0 (by unfold f_Md_in; rw [if_neg c_5, if_pos c_6]) ?_
          refine lv_if_eq (tgt := 26) hx hb d_Md_isPension_19 (by decide) (fun _ => ?_) (fun h => absurd (by decide +kernel) h)
          refine lv_iconst (v := 0) hx hb d_Md_isPension_26 (by decide +kernel) ?_
          exact W.zret (v := 0) hx hb hr (by decide +kernel) (fun t ht hW => ⟨0, rfl, (by unfold f_Md_isPension; rw [if_neg c_2, if_neg c_3, if_neg c_5, if_pos c_6]), ht⟩) t_nil d_Md_isPension_27
        · refine hb_ti 1 (by unfold f_Md_in; rw [if_neg c_5, if_neg c_6]) ?_
          refine lv_if_eq (tgt := 26) hx hb d_Md_isPension_19 (by decide) (fun h => absurd h (by decide +kernel)) (fun _ => ?_)
          refine lv_iconst (v := 1) hx hb d_Md_isPension_22 (by decide +kernel) ?_
          refine lv_goto (tgt := 27) hx hb d_Md_isPension_23 (by decide) ?_
          exact W.zret (v := 1) hx hb hr (by decide +kernel) (fun t ht hW => ⟨1, rfl, (by unfold f_Md_isPension; rw [if_neg c_2, if_neg c_3, if_neg c_5, if_neg c_6]), ht⟩) t_nil d_Md_isPension_27
def W_Md_newPensioner_t : List (Nat × Nat) := [(27, 60), (72, 1000), (73, 1000)]
set_option maxHeartbeats 4000000 in
set_option maxRecDepth 100000 in
theorem c_Md_newPensioner_t (l : Launch) (dC : Nat → ClassId) (dI : Nat → Nat → Nat) (ct : Nat → ClassId) (L : List Nat) (f : TF) (hO_0 : Ok L f) (q0 : Nat) (m0 : q0 ∈ L ∧ tk f q0 = 27) (sz : Nat) (p_0 : Int32) (p_1 : Int32)  (as_0 : ¬ (29 < (ti f q0 60))) : Met l y_Md_newPensioner (.code y_Md_newPensioner b_Md_newPensioner 3 (some .int) :: TB) ({ frames := 0, cells := 0, slots := 0, locals := 0 }) (va_Pc [.ref q0, .int p_0, .int p_1] (PC dC dI (TW ct L f) (TT ct) sz)) (va_Qi (fun r (u : TSt) => Ok u.1 u.2 ∧ Ext W_Md_newPensioner_t L f u.1 u.2 ∧ (True)) (fun (u : TSt) t => va_P (dC, dI) vwCl (TW ct u.1 u.2) t.heap ∧ va_K (dC, dI) vwCl (TT ct) t ∧ va_D (va_A (TW ct L f) sz) (TW ct u.1 u.2)) (va_A (TW ct L f) sz)) 0 0 (va_A (TW ct L f) sz) := by
  refine Met.ofW (cc := b_Md_newPensioner) (maxL := 3) (ret := (some .int)) (by decide) rfl ?_
  intro p e s m args below meth c s₁ B hml hv
  obtain ⟨rfl, hsz, hP, hK, hD0, hN⟩ := hv
  have hx := B.exec
  have hb := B.bytes
  have hr := B.returns
  have hts := atoms_spec (ws := (.code y_Md_newPensioner b_Md_newPensioner 3 (some .int) :: TB)) B.pre
  have htb := fun w (h : w ∈ TB) => hts w (List.mem_cons_of_mem _ h)
  have hown : s.vm.findClass R_Md = some m.cls := findClass_of_methodNamed B.named
  have hlocks := B.notSynchronized
  have hl := lv_entry ([.ref q0, .int p_0, .int p_1]) (n := 3) (Nat.le_of_ble_eq_true rfl)
  rw [lg_entry_eq]
  generalize (lg_sl ([.ref q0, .int p_0, .int p_1]) ++ List.replicate (3 - (lg_sl ([.ref q0, .int p_0, .int p_1])).length) Slot.unset).toArray = ls at hl ⊢
  have hl : lv_has ls 3 [(0, .ref q0), (1, .int p_0), (2, .int p_1)] := hl
  subst hsz
  have hD := hD0.self (sz := s.heap.size)
  obtain ⟨A, hAe⟩ : ∃ A, va_A (TW ct L f) s.heap.size = A := ⟨_, rfl⟩
  rw [hAe] at hD
  have hA : ∀ q : Nat, s.heap.size ≤ q → A q := fun q h => by rw [← hAe]; exact Or.inr h
  have hS : va_S A s.heap s.heap [] := va_S.rf
  have hA_0 : Ext [] L f L f := Ext.rf
  suffices hGo : ∀ (H : Heap) (locs : List Loc), va_P (dC, dI) vwCl (TW ct L f) H → va_S A s.heap H locs → W p l e (headSpec (.code y_Md_newPensioner b_Md_newPensioner 3 (some .int) :: TB) ({ frames := 0, cells := 0, slots := 0, locals := 0 })).room s m [.ref q0, .int p_0, .int p_1].toArray below meth c H locs 0 0 (MQ below (va_Qi (fun r (u : TSt) => Ok u.1 u.2 ∧ Ext W_Md_newPensioner_t L f u.1 u.2 ∧ (True)) (fun (u : TSt) t => va_P (dC, dI) vwCl (TW ct u.1 u.2) t.heap ∧ va_K (dC, dI) vwCl (TT ct) t ∧ va_D (va_A (TW ct L f) s.heap.size) (TW ct u.1 u.2)) (va_A (TW ct L f) s.heap.size)) [.ref q0, .int p_0, .int p_1].toArray s 0 0 (va_A (TW ct L f) s.heap.size)) (F0 m 0 ls []) from hGo _ _ hP hS
  clear hP hS
  intro H locs hP hS
  have bp_60 := hO_0.i m0 (show slotD 27 60 = some (.inl (0, 30)) from rfl)
  refine lv_aload_n hx hb d_Md_newPensioner_0 rfl (lv_at hl 0 rfl) ?_
  refine tw_getr (D := (dC, dI)) (C := R_Md) (T := F_Md) (N := 64) (ci := 7) (kd := 27) (ct := ct) hx hb htb i_Md hown hK hP hO_0 m0 rfl rfl 61 (by decide) (htb (.fieldLink R_Md 177 "WaterMenModel" "pensionOf" "[I") tw_574) (fun _ h9 => h9) rfl d_Md_newPensioner_1 (fun q_1 e_1 m_1 => ?_)
  refine lv_aload_n hx hb d_Md_newPensioner_4 rfl (lv_at hl 0 rfl) ?_
  refine tw_getI (x := (ti f q0 60)) (D := (dC, dI)) (C := R_Md) (T := F_Md) (N := 64) (ci := 7) (kd := 27) (ct := ct) hx hb htb i_Md hown hK hP m0 rfl rfl 60 rfl (by decide) (htb (.fieldLink R_Md 323 "WaterMenModel" "pensioners" "I") tw_572) (fun _ h9 => h9) rfl d_Md_newPensioner_5 ?_
  refine lv_iload_n hx hb d_Md_newPensioner_8 rfl (lv_at hl 1 rfl) ?_
  refine tw_astI (ct := ct) (x := p_0) hx hb hK hP hD hS hO_0 m_1 rfl (hb_inl bp_60.1 as_0 (by decide +kernel)) (i32_full _) d_Md_newPensioner_9 (fun f_1 H locs hP hD hS hO_1 hE_1 w_2 ow_2 => ?_)
  have hA_1 := hA_0.trans hE_1
  refine lv_aload_n hx hb d_Md_newPensioner_10 rfl (lv_at hl 0 rfl) ?_
  refine tw_getr (D := (dC, dI)) (C := R_Md) (T := F_Md) (N := 64) (ci := 7) (kd := 27) (ct := ct) hx hb htb i_Md hown hK hP hO_1 (hA_1.m m0) rfl rfl 62 (by decide) (htb (.fieldLink R_Md 180 "WaterMenModel" "pensionEnd" "[I") tw_573) (fun _ h9 => h9) rfl d_Md_newPensioner_11 (fun q_3 e_3 m_3 => ?_)
  refine lv_aload_n hx hb d_Md_newPensioner_14 rfl (lv_at hl 0 rfl) ?_
  refine tw_getI (x := (ti f q0 60)) (D := (dC, dI)) (C := R_Md) (T := F_Md) (N := 64) (ci := 7) (kd := 27) (ct := ct) hx hb htb i_Md hown hK hP (hA_1.m m0) rfl rfl 60 ((hA_1.ei m0 rfl).trans rfl) (by decide) (htb (.fieldLink R_Md 323 "WaterMenModel" "pensioners" "I") tw_572) (fun _ h9 => h9) rfl d_Md_newPensioner_15 ?_
  refine lv_iload_n hx hb d_Md_newPensioner_18 rfl (lv_at hl 2 rfl) ?_
  refine tw_astI (ct := ct) (x := p_1) hx hb hK hP hD hS hO_1 m_3 rfl (hb_inl bp_60.1 as_0 (by decide +kernel)) (i32_full _) d_Md_newPensioner_19 (fun f_2 H locs hP hD hS hO_2 hE_2 w_4 ow_4 => ?_)
  have hA_2 := hA_1.trans hE_2
  refine lv_aload_n hx hb d_Md_newPensioner_20 rfl (lv_at hl 0 rfl) ?_
  refine lv_dup hx hb d_Md_newPensioner_21 rfl ?_
  refine tw_getI (x := (ti f q0 60)) (D := (dC, dI)) (C := R_Md) (T := F_Md) (N := 64) (ci := 7) (kd := 27) (ct := ct) hx hb htb i_Md hown hK hP (hA_2.m m0) rfl rfl 60 ((hA_2.ei m0 rfl).trans rfl) (by decide) (htb (.fieldLink R_Md 323 "WaterMenModel" "pensioners" "I") tw_572) (fun _ h9 => h9) rfl d_Md_newPensioner_22 ?_
  refine lv_iconst (v := 1) hx hb d_Md_newPensioner_25 (by decide +kernel) ?_
  refine lv_iadd hx hb d_Md_newPensioner_26 ?_
  refine tw_puti (v := ((ti f q0 60) + 1)) (D := (dC, dI)) (C := R_Md) (T := F_Md) (N := 64) (ci := 7) (kd := 27) (ct := ct) (ty := .int) hx hb htb i_Md t_Md t_Md_ok n_Md hown hK hP hD hS hO_2 (hA_2.m m0) rfl rfl 60 (by decide) (htb (.fieldLink R_Md 323 "WaterMenModel" "pensioners" "I") tw_572) (fun _ h9 => h9) rfl (by decide +kernel) rfl rfl rfl ⟨(show ¬ (((ti f q0 60) + 1) < 0) from by have z0 : (0 : Int32).toInt = 0 := (by decide +kernel); have z1 : (1 : Int32).toInt = 1 := (by decide +kernel); have z2 : (30 : Int32).toInt = 30 := (by decide +kernel); have r0 := fb_rng (ti f q0 60); have e0 := bp_60.1; rw [Int32.lt_iff_toInt_lt, z0] at e0; have e1 := bp_60.2; rw [Int32.lt_iff_toInt_lt, z2] at e1; have s0 := fb_addI (x := (ti f q0 60)) (y := (1 : Int32)) (by (try rw [z1]); omega) (by (try rw [z1]); omega); rw [z1] at s0; rw [Int32.lt_iff_toInt_lt, z0]; omega), (show ¬ (30 < ((ti f q0 60) + 1)) from by have z0 : (1 : Int32).toInt = 1 := (by decide +kernel); have z1 : (29 : Int32).toInt = 29 := (by decide +kernel); have z2 : (30 : Int32).toInt = 30 := (by decide +kernel); have r0 := fb_rng (ti f q0 60); have e0 := as_0; rw [Int32.lt_iff_toInt_lt, z1] at e0; have s0 := fb_addI (x := (ti f q0 60)) (y := (1 : Int32)) (by (try rw [z0]); omega) (by (try rw [z0]); omega); rw [z0] at s0; rw [Int32.lt_iff_toInt_lt, z2]; omega)⟩ d_Md_newPensioner_27 (fun f_3 H locs hP hD hS hO_3 hE_3 w_5 => ?_)
  have hA_3 := hA_2.trans hE_3
  refine lv_aload_n hx hb d_Md_newPensioner_30 rfl (lv_at hl 0 rfl) ?_
  refine tw_getI (x := ((ti f q0 60) + 1)) (D := (dC, dI)) (C := R_Md) (T := F_Md) (N := 64) (ci := 7) (kd := 27) (ct := ct) hx hb htb i_Md hown hK hP (hA_3.m m0) rfl rfl 60 w_5 (by decide) (htb (.fieldLink R_Md 323 "WaterMenModel" "pensioners" "I") tw_572) (fun _ h9 => h9) rfl d_Md_newPensioner_31 ?_
  refine lv_iconst (v := 1) hx hb d_Md_newPensioner_34 (by decide +kernel) ?_
  refine lv_isub hx hb d_Md_newPensioner_35 ?_
  refine W.widen (k := 0) (n := 0) (Nat.le_of_ble_eq_true rfl) (Nat.le_of_ble_eq_true rfl) ?_
  exact W.iret (v := (((ti f q0 60) + 1) - 1)) hx hb hr (fun t ht hW => ⟨⟨(((ti f q0 60) + 1) - 1), (L, f_3), rfl, ⟨hO_3, hA_3.mono (by decide +kernel), trivial⟩, by rw [ht]; exact hP, va_K.moved hW.alike hK, by rw [hAe]; exact hD⟩, by rw [hAe]; exact hS.F ht⟩) (by rw [hAe]; exact hS.2.2) d_Md_newPensioner_36
def W_Md_sink_t : List (Nat × Nat) := [(27, 60), (33, 1000), (40, 1000), (48, 1000), (49, 1000), (70, 1000), (72, 1000), (73, 1000)]
set_option maxHeartbeats 4000000 in
set_option maxRecDepth 100000 in
theorem c_Md_sink_t (l : Launch) (dC : Nat → ClassId) (dI : Nat → Nat → Nat) (ct : Nat → ClassId) (L : List Nat) (f : TF) (hO_0 : Ok L f) (q0 : Nat) (m0 : q0 ∈ L ∧ tk f q0 = 27) (sz : Nat) (p_0 : Int32) (p_1 : Int32) (p_2 : Int32)   : Met l y_Md_sink (.code y_Md_sink b_Md_sink 5 (some .int) :: TB) ({ frames := 2, cells := 0, slots := 0, locals := 43 }) (va_Pc [.ref q0, .int p_0, .int p_1, .int p_2] (PC dC dI (TW ct L f) (TT ct) sz)) (va_Qi (fun r (u : TSt) => Ok u.1 u.2 ∧ Ext W_Md_sink_t L f u.1 u.2 ∧ (True)) (fun (u : TSt) t => va_P (dC, dI) vwCl (TW ct u.1 u.2) t.heap ∧ va_K (dC, dI) vwCl (TT ct) t ∧ va_D (va_A (TW ct L f) sz) (TW ct u.1 u.2)) (va_A (TW ct L f) sz)) 0 0 (va_A (TW ct L f) sz) := by
  refine Met.ofW (cc := b_Md_sink) (maxL := 5) (ret := (some .int)) (by decide) rfl ?_
  intro p e s m args below meth c s₁ B hml hv
  obtain ⟨rfl, hsz, hP, hK, hD0, hN⟩ := hv
  have hx := B.exec
  have hb := B.bytes
  have hr := B.returns
  have hts := atoms_spec (ws := (.code y_Md_sink b_Md_sink 5 (some .int) :: TB)) B.pre
  have htb := fun w (h : w ∈ TB) => hts w (List.mem_cons_of_mem _ h)
  have hown : s.vm.findClass R_Md = some m.cls := findClass_of_methodNamed B.named
  have hlocks := B.notSynchronized
  have hl := lv_entry ([.ref q0, .int p_0, .int p_1, .int p_2]) (n := 5) (Nat.le_of_ble_eq_true rfl)
  rw [lg_entry_eq]
  generalize (lg_sl ([.ref q0, .int p_0, .int p_1, .int p_2]) ++ List.replicate (5 - (lg_sl ([.ref q0, .int p_0, .int p_1, .int p_2])).length) Slot.unset).toArray = ls at hl ⊢
  have hl : lv_has ls 5 [(0, .ref q0), (1, .int p_0), (2, .int p_1), (3, .int p_2)] := hl
  subst hsz
  have hD := hD0.self (sz := s.heap.size)
  obtain ⟨A, hAe⟩ : ∃ A, va_A (TW ct L f) s.heap.size = A := ⟨_, rfl⟩
  rw [hAe] at hD
  have hA : ∀ q : Nat, s.heap.size ≤ q → A q := fun q h => by rw [← hAe]; exact Or.inr h
  have hS : va_S A s.heap s.heap [] := va_S.rf
  have hA_0 : Ext [] L f L f := Ext.rf
  suffices hGo : ∀ (H : Heap) (locs : List Loc), va_P (dC, dI) vwCl (TW ct L f) H → va_S A s.heap H locs → W p l e (headSpec (.code y_Md_sink b_Md_sink 5 (some .int) :: TB) ({ frames := 2, cells := 0, slots := 0, locals := 43 })).room s m [.ref q0, .int p_0, .int p_1, .int p_2].toArray below meth c H locs 0 0 (MQ below (va_Qi (fun r (u : TSt) => Ok u.1 u.2 ∧ Ext W_Md_sink_t L f u.1 u.2 ∧ (True)) (fun (u : TSt) t => va_P (dC, dI) vwCl (TW ct u.1 u.2) t.heap ∧ va_K (dC, dI) vwCl (TT ct) t ∧ va_D (va_A (TW ct L f) s.heap.size) (TW ct u.1 u.2)) (va_A (TW ct L f) s.heap.size)) [.ref q0, .int p_0, .int p_1, .int p_2].toArray s 0 0 (va_A (TW ct L f) s.heap.size)) (F0 m 0 ls []) from hGo _ _ hP hS
  clear hP hS
  intro H locs hP hS
  refine lv_aload_n hx hb d_Md_sink_0 rfl (lv_at hl 0 rfl) ?_
  refine lv_iload_n hx hb d_Md_sink_1 rfl (lv_at hl 1 rfl) ?_
  refine vp_callSi (va_Run.run (va_runV (As := [.int p_0]) (rest := []) ⟨hx, hb, hml, hown, htb⟩ (c_Md_isBoat_t l dC dI ct L f hO_0 q0 m0 p_0) (cwV 1 htb (gd_V tw_461 tw_462 tw_463 tw_407 tw_460) rfl rfl rfl (by decide +kernel) ⟨Nat.le_of_ble_eq_true rfl, Nat.le_of_ble_eq_true rfl⟩) ⟨pr_blind, tw_recv hK hP m0 rfl rfl, pr_pre hP hK hN⟩ rfl rfl hl.1 rfl (lv_room (Nat.le_of_ble_eq_true rfl)) d_Md_sink_2 ⟨Nat.le_of_ble_eq_true rfl, Nat.le_of_ble_eq_true rfl⟩)) (fun r_1 er_1 => ?_)
  rcases er_1 with ⟨rfl, -⟩ | ⟨rfl, po_2, po_3, -⟩
  · refine lv_if_eq (tgt := 16) hx hb d_Md_sink_5 (by decide) (fun _ => ?_) (fun h => absurd (by decide +kernel) h)
    refine lv_iconst (v := (-1)) hx hb d_Md_sink_16 (by decide +kernel) ?_
    refine W.widen (k := 0) (n := 0) (Nat.le_of_ble_eq_true rfl) (Nat.le_of_ble_eq_true rfl) ?_
    exact W.iret (v := (-1)) hx hb hr (fun t ht hW => ⟨⟨(-1), (L, f), rfl, ⟨hO_0, hA_0.mono (by decide +kernel), trivial⟩, by rw [ht]; exact hP, va_K.moved hW.alike hK, by rw [hAe]; exact hD⟩, by rw [hAe]; exact hS.F ht⟩) (by rw [hAe]; exact hS.2.2) d_Md_sink_17
  · refine lv_if_eq (tgt := 16) hx hb d_Md_sink_5 (by decide) (fun h => absurd h (by decide +kernel)) (fun _ => ?_)
    refine lv_iload_n hx hb d_Md_sink_8 rfl (lv_at hl 2 rfl) ?_
    refine lv_iload_n hx hb d_Md_sink_9 rfl (lv_at hl 3 rfl) ?_
    refine vp_callSi (va_Run.run (va_runS (As := [.int p_1, .int p_2]) (rest := []) ⟨hx, hb, hml, hown, htb⟩ (c_Md_isPension l p_1 p_2) (cwS 2 htb (gd_S tw_590 tw_591 tw_407 tw_589) rfl rfl rfl (by decide +kernel) ⟨Nat.le_of_ble_eq_true rfl, Nat.le_of_ble_eq_true rfl⟩) ⟨fun _ _ _ _ h => h, fun U _ _ => ⟨rfl, trivial⟩⟩ rfl rfl hl.1 rfl (lv_room (Nat.le_of_ble_eq_true rfl)) d_Md_sink_10 ⟨Nat.le_of_ble_eq_true rfl, Nat.le_of_ble_eq_true rfl⟩)) (fun r er => ?_)
    subst er
    by_cases c_5 : p_1 < 1
    · refine hb_ti 0 (by unfold f_Md_isPension; rw [if_pos c_5]; first | done | rfl) ?_
      refine lv_if_ne (tgt := 18) hx hb d_Md_sink_13 (by decide) (fun h => absurd (by decide +kernel) h) (fun _ => ?_)
      refine lv_iconst (v := (-1)) hx hb d_Md_sink_16 (by decide +kernel) ?_
      refine W.widen (k := 0) (n := 0) (Nat.le_of_ble_eq_true rfl) (Nat.le_of_ble_eq_true rfl) ?_
      exact W.iret (v := (-1)) hx hb hr (fun t ht hW => ⟨⟨(-1), (L, f), rfl, ⟨hO_0, hA_0.mono (by decide +kernel), trivial⟩, by rw [ht]; exact hP, va_K.moved hW.alike hK, by rw [hAe]; exact hD⟩, by rw [hAe]; exact hS.F ht⟩) (by rw [hAe]; exact hS.2.2) d_Md_sink_17
    · by_cases c_6 : 10000 < p_1
      · refine hb_ti 0 (by unfold f_Md_isPension; rw [if_neg c_5, if_pos c_6]; first | done | rfl) ?_
        refine lv_if_ne (tgt := 18) hx hb d_Md_sink_13 (by decide) (fun h => absurd (by decide +kernel) h) (fun _ => ?_)
        refine lv_iconst (v := (-1)) hx hb d_Md_sink_16 (by decide +kernel) ?_
        refine W.widen (k := 0) (n := 0) (Nat.le_of_ble_eq_true rfl) (Nat.le_of_ble_eq_true rfl) ?_
        exact W.iret (v := (-1)) hx hb hr (fun t ht hW => ⟨⟨(-1), (L, f), rfl, ⟨hO_0, hA_0.mono (by decide +kernel), trivial⟩, by rw [ht]; exact hP, va_K.moved hW.alike hK, by rw [hAe]; exact hD⟩, by rw [hAe]; exact hS.F ht⟩) (by rw [hAe]; exact hS.2.2) d_Md_sink_17
      · by_cases c_7 : p_2 < 0
        · refine hb_ti 0 (by unfold f_Md_isPension; rw [if_neg c_5, if_neg c_6, if_pos c_7]; first | done | rfl) ?_
          refine lv_if_ne (tgt := 18) hx hb d_Md_sink_13 (by decide) (fun h => absurd (by decide +kernel) h) (fun _ => ?_)
          refine lv_iconst (v := (-1)) hx hb d_Md_sink_16 (by decide +kernel) ?_
          refine W.widen (k := 0) (n := 0) (Nat.le_of_ble_eq_true rfl) (Nat.le_of_ble_eq_true rfl) ?_
          exact W.iret (v := (-1)) hx hb hr (fun t ht hW => ⟨⟨(-1), (L, f), rfl, ⟨hO_0, hA_0.mono (by decide +kernel), trivial⟩, by rw [ht]; exact hP, va_K.moved hW.alike hK, by rw [hAe]; exact hD⟩, by rw [hAe]; exact hS.F ht⟩) (by rw [hAe]; exact hS.2.2) d_Md_sink_17
        · by_cases c_8 : 9999 < p_2
          · refine hb_ti 0 (by unfold f_Md_isPension; rw [if_neg c_5, if_neg c_6, if_neg c_7, if_pos c_8]; first | done | rfl) ?_
            refine lv_if_ne (tgt := 18) hx hb d_Md_sink_13 (by decide) (fun h => absurd (by decide +kernel) h) (fun _ => ?_)
            refine lv_iconst (v := (-1)) hx hb d_Md_sink_16 (by decide +kernel) ?_
            refine W.widen (k := 0) (n := 0) (Nat.le_of_ble_eq_true rfl) (Nat.le_of_ble_eq_true rfl) ?_
            exact W.iret (v := (-1)) hx hb hr (fun t ht hW => ⟨⟨(-1), (L, f), rfl, ⟨hO_0, hA_0.mono (by decide +kernel), trivial⟩, by rw [ht]; exact hP, va_K.moved hW.alike hK, by rw [hAe]; exact hD⟩, by rw [hAe]; exact hS.F ht⟩) (by rw [hAe]; exact hS.2.2) d_Md_sink_17
          · refine hb_ti 1 (by unfold f_Md_isPension; rw [if_neg c_5, if_neg c_6, if_neg c_7, if_neg c_8]; first | done | rfl) ?_
            refine lv_if_ne (tgt := 18) hx hb d_Md_sink_13 (by decide) (fun _ => ?_) (fun h => absurd h (by decide +kernel))
            refine lv_aload_n hx hb d_Md_sink_18 rfl (lv_at hl 0 rfl) ?_
            refine tw_getr (D := (dC, dI)) (C := R_Md) (T := F_Md) (N := 64) (ci := 7) (kd := 27) (ct := ct) hx hb htb i_Md hown hK hP hO_0 m0 rfl rfl 25 (by decide) (htb (.fieldLink R_Md 103 "WaterMenModel" "boatTrip" "[I") tw_459) (fun _ h9 => h9) rfl d_Md_sink_19 (fun q_9 e_9 m_9 => ?_)
            refine lv_iload_n hx hb d_Md_sink_22 rfl (lv_at hl 1 rfl) ?_
            refine tw_aldI (ct := ct) hx hb hK hP hO_0 m_9 rfl (hb_inl po_2 po_3 (by decide +kernel)) d_Md_sink_23 (fun x_10 e_10 b_10 => ?_)
            refine lv_if_ge (tgt := 30) hx hb d_Md_sink_24 (by decide) (fun c_11 => ?_) (fun c_11 => ?_)
            · refine lv_aload_n hx hb d_Md_sink_30 rfl (lv_at hl 0 rfl) ?_
              refine tw_geti (D := (dC, dI)) (C := R_Md) (T := F_Md) (N := 64) (ci := 7) (kd := 27) (ct := ct) hx hb htb i_Md hown hK hP hO_0 m0 rfl rfl 60 (by decide) (htb (.fieldLink R_Md 323 "WaterMenModel" "pensioners" "I") tw_572) (fun _ h9 => h9) rfl d_Md_sink_31 (fun x_12 e_12 b_12 => ?_)
              refine lv_bipush (v := 30) hx hb d_Md_sink_34 (by decide +kernel) ?_
              refine lv_icmp_ne (tgt := 42) hx hb d_Md_sink_36 (by decide) (fun c_13 => ?_) (fun c_13 => ?_)
              · refine lv_aload_n hx hb d_Md_sink_42 rfl (lv_at hl 0 rfl) ?_
                refine tw_getR (D := (dC, dI)) (C := R_Md) (T := F_Md) (N := 64) (ci := 7) (kd := 27) (ct := ct) hx hb htb i_Md hown hK hP m0 rfl rfl 25 e_9 (by decide) (htb (.fieldLink R_Md 103 "WaterMenModel" "boatTrip" "[I") tw_459) (fun _ h9 => h9) rfl d_Md_sink_43 ?_
                refine hb_tv (.ref q_9) rfl ?_
                refine lv_iload_n hx hb d_Md_sink_46 rfl (lv_at hl 1 rfl) ?_
                refine tw_aldxI (ct := ct) (x := x_10) hx hb hK hP m_9 rfl (hb_inl po_2 po_3 (by decide +kernel)) e_10 d_Md_sink_47 ?_
                refine lv_istore (lv' := [(4, .int x_10), (0, .ref q0), (1, .int p_0), (2, .int p_1), (3, .int p_2)]) hx hb d_Md_sink_48 hl (by decide) rfl (fun ls hl => ?_)
                refine lv_aload_n hx hb d_Md_sink_50 rfl (lv_at hl 1 rfl) ?_
                refine tw_getr (D := (dC, dI)) (C := R_Md) (T := F_Md) (N := 64) (ci := 7) (kd := 27) (ct := ct) hx hb htb i_Md hown hK hP hO_0 m0 rfl rfl 55 (by decide) (htb (.fieldLink R_Md 170 "WaterMenModel" "sank" "[Z") tw_566) (fun _ h9 => h9) rfl d_Md_sink_51 (fun q_15 e_15 m_15 => ?_)
                refine lv_iload hx hb d_Md_sink_54 (lv_at hl 0 rfl) ?_
                refine lv_iconst (v := 1) hx hb d_Md_sink_56 (by decide +kernel) ?_
                refine tw_astZ (ct := ct) (x := 1) hx hb hK hP hD hS hO_0 m_15 rfl (by have z0 : (0 : Int32).toInt = 0 := (by decide +kernel); have z1 : (599 : Int32).toInt = 599 := (by decide +kernel); have r0 := fb_rng (x_10); have e0 := b_10.2; rw [Int32.lt_iff_toInt_lt, z1] at e0; have e1 := c_11; rw [Int32.le_iff_toInt_le, z0] at e1; rw [vp_in_iff]; omega) ⟨by decide +kernel, by decide +kernel⟩ d_Md_sink_57 (fun f_1 H locs hP hD hS hO_1 hE_1 w_16 ow_16 => ?_)
                have hA_1 := hA_0.trans hE_1
                refine lv_aload_n hx hb d_Md_sink_58 rfl (lv_at hl 1 rfl) ?_
                refine tw_getr (D := (dC, dI)) (C := R_Md) (T := F_Md) (N := 64) (ci := 7) (kd := 27) (ct := ct) hx hb htb i_Md hown hK hP hO_1 (hA_1.m m0) rfl rfl 26 (by decide) (htb (.fieldLink R_Md 106 "WaterMenModel" "sunk" "[Z") tw_465) (fun _ h9 => h9) rfl d_Md_sink_59 (fun q_17 e_17 m_17 => ?_)
                refine lv_iload_n hx hb d_Md_sink_62 rfl (lv_at hl 2 rfl) ?_
                refine lv_iconst (v := 1) hx hb d_Md_sink_63 (by decide +kernel) ?_
                refine tw_astZ (ct := ct) (x := 1) hx hb hK hP hD hS hO_1 m_17 rfl (hb_inl po_2 po_3 (by decide +kernel)) ⟨by decide +kernel, by decide +kernel⟩ d_Md_sink_64 (fun f_2 H locs hP hD hS hO_2 hE_2 w_18 ow_18 => ?_)
                have hA_2 := hA_1.trans hE_2
                refine lv_aload_n hx hb d_Md_sink_65 rfl (lv_at hl 1 rfl) ?_
                refine tw_getR (D := (dC, dI)) (C := R_Md) (T := F_Md) (N := 64) (ci := 7) (kd := 27) (ct := ct) hx hb htb i_Md hown hK hP (hA_2.m m0) rfl rfl 25 ((hA_2.er m0 rfl).trans e_9) (by decide) (htb (.fieldLink R_Md 103 "WaterMenModel" "boatTrip" "[I") tw_459) (fun _ h9 => h9) rfl d_Md_sink_66 ?_
                refine hb_tv (.ref q_9) rfl ?_
                refine lv_iload_n hx hb d_Md_sink_69 rfl (lv_at hl 2 rfl) ?_
                refine lv_iconst (v := (-1)) hx hb d_Md_sink_70 (by decide +kernel) ?_
                refine tw_astI (ct := ct) (x := (-1)) hx hb hK hP hD hS hO_2 (hA_2.m m_9) rfl (hb_inl po_2 po_3 (by decide +kernel)) ⟨by decide +kernel, by decide +kernel⟩ d_Md_sink_71 (fun f_3 H locs hP hD hS hO_3 hE_3 w_19 ow_19 => ?_)
                have hA_3 := hA_2.trans hE_3
                refine lv_aload_n hx hb d_Md_sink_72 rfl (lv_at hl 1 rfl) ?_
                refine tw_getr (D := (dC, dI)) (C := R_Md) (T := F_Md) (N := 64) (ci := 7) (kd := 27) (ct := ct) hx hb htb i_Md hown hK hP hO_3 (hA_3.m m0) rfl rfl 9 (by decide) (htb (.fieldLink R_Md 58 "WaterMenModel" "state" "[I") tw_434) (fun _ h9 => h9) rfl d_Md_sink_73 (fun q_20 e_20 m_20 => ?_)
                refine lv_aload_n hx hb d_Md_sink_76 rfl (lv_at hl 1 rfl) ?_
                refine tw_getr (D := (dC, dI)) (C := R_Md) (T := F_Md) (N := 64) (ci := 7) (kd := 27) (ct := ct) hx hb htb i_Md hown hK hP hO_3 (hA_3.m m0) rfl rfl 49 (by decide) (htb (.fieldLink R_Md 152 "WaterMenModel" "tripMan" "[I") tw_464) (fun _ h9 => h9) rfl d_Md_sink_77 (fun q_21 e_21 m_21 => ?_)
                refine lv_iload hx hb d_Md_sink_80 (lv_at hl 0 rfl) ?_
                refine tw_aldI (ct := ct) hx hb hK hP hO_3 m_21 rfl (by have z0 : (0 : Int32).toInt = 0 := (by decide +kernel); have z1 : (599 : Int32).toInt = 599 := (by decide +kernel); have r0 := fb_rng (x_10); have e0 := b_10.2; rw [Int32.lt_iff_toInt_lt, z1] at e0; have e1 := c_11; rw [Int32.le_iff_toInt_le, z0] at e1; rw [vp_in_iff]; omega) d_Md_sink_82 (fun x_22 e_22 b_22 => ?_)
                refine lv_iconst (v := 3) hx hb d_Md_sink_83 (by decide +kernel) ?_
                refine tw_astI (ct := ct) (x := 3) hx hb hK hP hD hS hO_3 m_20 rfl (hb_inl b_22.1 b_22.2 (by decide +kernel)) (i32_full _) d_Md_sink_84 (fun f_4 H locs hP hD hS hO_4 hE_4 w_23 ow_23 => ?_)
                have hA_4 := hA_3.trans hE_4
                refine lv_aload_n hx hb d_Md_sink_85 rfl (lv_at hl 1 rfl) ?_
                refine tw_getr (D := (dC, dI)) (C := R_Md) (T := F_Md) (N := 64) (ci := 7) (kd := 27) (ct := ct) hx hb htb i_Md hown hK hP hO_4 (hA_4.m m0) rfl rfl 16 (by decide) (htb (.fieldLink R_Md 79 "WaterMenModel" "wayOf" "[I") tw_454) (fun _ h9 => h9) rfl d_Md_sink_86 (fun q_24 e_24 m_24 => ?_)
                refine lv_aload_n hx hb d_Md_sink_89 rfl (lv_at hl 1 rfl) ?_
                refine tw_getR (D := (dC, dI)) (C := R_Md) (T := F_Md) (N := 64) (ci := 7) (kd := 27) (ct := ct) hx hb htb i_Md hown hK hP (hA_4.m m0) rfl rfl 49 ((hE_4.er (hA_3.m m0) rfl).trans e_21) (by decide) (htb (.fieldLink R_Md 152 "WaterMenModel" "tripMan" "[I") tw_464) (fun _ h9 => h9) rfl d_Md_sink_90 ?_
                refine hb_tv (.ref q_21) rfl ?_
                refine lv_iload hx hb d_Md_sink_93 (lv_at hl 0 rfl) ?_
                refine tw_aldxI (ct := ct) (x := x_22) hx hb hK hP (hE_4.m m_21) rfl (by have z0 : (0 : Int32).toInt = 0 := (by decide +kernel); have z1 : (599 : Int32).toInt = 599 := (by decide +kernel); have r0 := fb_rng (x_10); have e0 := b_10.2; rw [Int32.lt_iff_toInt_lt, z1] at e0; have e1 := c_11; rw [Int32.le_iff_toInt_le, z0] at e1; rw [vp_in_iff]; omega) ((hE_4.ei m_21 rfl).trans e_22) d_Md_sink_95 ?_
                refine lv_iconst (v := (-1)) hx hb d_Md_sink_96 (by decide +kernel) ?_
                refine tw_astI (ct := ct) (x := (-1)) hx hb hK hP hD hS hO_4 m_24 rfl (hb_inl b_22.1 b_22.2 (by decide +kernel)) (i32_full _) d_Md_sink_97 (fun f_5 H locs hP hD hS hO_5 hE_5 w_26 ow_26 => ?_)
                have hA_5 := hA_4.trans hE_5
                refine lv_aload_n hx hb d_Md_sink_98 rfl (lv_at hl 1 rfl) ?_
                refine lv_iload_n hx hb d_Md_sink_99 rfl (lv_at hl 3 rfl) ?_
                refine lv_iload_n hx hb d_Md_sink_100 rfl (lv_at hl 4 rfl) ?_
                have hFc := hb_free hD hS hA
                refine va_calli (va_runV (As := [.int p_1, .int p_2]) (rest := []) ⟨hx, hb, hml, hown, htb⟩ (c_Md_newPensioner_t l dC dI ct L f_5 hO_5 q0 (hA_5.m m0) _ p_1 p_2 (by rw [show ti f_5 q0 60 = x_12 from ((hA_5.ei m0 rfl).trans e_12)]; exact (show ¬ (29 < x_12) from by have z0 : (29 : Int32).toInt = 29 := (by decide +kernel); have z1 : (30 : Int32).toInt = 30 := (by decide +kernel); have r0 := fb_rng (x_12); have e0 := b_12.2; rw [Int32.lt_iff_toInt_lt, z1] at e0; have e1 := c_13; rw [← Int32.toInt_inj, z1] at e1; rw [Int32.lt_iff_toInt_lt, z0]; omega))) (cwV 2 htb (gd_V tw_593 tw_594 tw_595 tw_407 tw_592) rfl rfl rfl (by decide +kernel) ⟨Nat.le_of_ble_eq_true rfl, Nat.le_of_ble_eq_true rfl⟩) ⟨pc_blind, tw_recv hK hP (hA_5.m m0) rfl rfl, pc_pre hP hK hD hN⟩ rfl rfl hl.1 rfl (lv_room (Nat.le_of_ble_eq_true rfl)) d_Md_sink_101 ⟨Nat.le_of_ble_eq_true rfl, Nat.le_of_ble_eq_true rfl⟩) hS (fun q _ h => hFc q h) hFc (fun r_27 u t H locs ht hvm er hB hz1 hk1 hS => ?_)
                obtain ⟨L_6, f_6⟩ := u
                obtain ⟨hO_6, hE_6, er⟩ := er
                obtain ⟨hP, hK1, hD1⟩ := hB
                rw [ht] at hP
                have hP : va_P (dC, dI) vwCl (TW ct L_6 f_6) H := hP
                have hD : va_D A (TW ct L_6 f_6) := hD1.weaken (fun _ q _ h => hFc q.1 h)
                have hO_6 : Ok L_6 f_6 := hO_6
                have hE_6 : Ext W_Md_newPensioner_t L f_5 L_6 f_6 := hE_6
                clear hK1 hD1 ht hvm hz1 hk1
                have hA_6 := hA_5.trans hE_6
                clear er
                refine W.widen (k := 0) (n := 0) (Nat.le_of_ble_eq_true rfl) (Nat.le_of_ble_eq_true rfl) ?_
                exact W.iret (v := r_27) hx hb hr (fun t ht hW => ⟨⟨r_27, (L_6, f_6), rfl, ⟨hO_6, hA_6.mono (by decide +kernel), trivial⟩, by rw [ht]; exact hP, va_K.moved hW.alike hK, by rw [hAe]; exact hD⟩, by rw [hAe]; exact hS.F ht⟩) (by rw [hAe]; exact hS.2.2) d_Md_sink_104
              · refine lv_bipush (v := (-3)) hx hb d_Md_sink_39 (by decide +kernel) ?_
                refine W.widen (k := 0) (n := 0) (Nat.le_of_ble_eq_true rfl) (Nat.le_of_ble_eq_true rfl) ?_
                exact W.iret (v := (-3)) hx hb hr (fun t ht hW => ⟨⟨(-3), (L, f), rfl, ⟨hO_0, hA_0.mono (by decide +kernel), trivial⟩, by rw [ht]; exact hP, va_K.moved hW.alike hK, by rw [hAe]; exact hD⟩, by rw [hAe]; exact hS.F ht⟩) (by rw [hAe]; exact hS.2.2) d_Md_sink_41
            · refine lv_bipush (v := (-2)) hx hb d_Md_sink_27 (by decide +kernel) ?_
              refine W.widen (k := 0) (n := 0) (Nat.le_of_ble_eq_true rfl) (Nat.le_of_ble_eq_true rfl) ?_
              exact W.iret (v := (-2)) hx hb hr (fun t ht hW => ⟨⟨(-2), (L, f), rfl, ⟨hO_0, hA_0.mono (by decide +kernel), trivial⟩, by rw [ht]; exact hP, va_K.moved hW.alike hK, by rw [hAe]; exact hD⟩, by rw [hAe]; exact hS.F ht⟩) (by rw [hAe]; exact hS.2.2) d_Md_sink_29
