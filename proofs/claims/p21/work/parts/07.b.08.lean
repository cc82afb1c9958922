set_option maxHeartbeats 4000000 in
set_option maxRecDepth 100000 in
theorem c_Md_by_t (l : Launch) (dC : Nat → ClassId) (dI : Nat → Nat → Nat) (ct : Nat → ClassId) (L : List Nat) (f : TF) (hO_0 : Ok L f) (p_0 : Int32) (p_1 : Int32)   : Met l y_Md_by (.code y_Md_by b_Md_by 4 (some .int) :: TB) ({ frames := 0, cells := 0, slots := 0, locals := 0 }) (va_Pc [.int p_0, .int p_1] (PR dC dI (TW ct L f) (TT ct))) (vp_Si (fun r => True)) 0 0 (fun _ => False) := by
  refine Met.ofW (cc := b_Md_by) (maxL := 4) (ret := (some .int)) (by decide) rfl ?_
  intro p e s m args below meth c s₁ B hml hv
  obtain ⟨rfl, hP, hK, hN⟩ := hv
  have hx := B.exec
  have hb := B.bytes
  have hr := B.returns
  have hts := atoms_spec (ws := (.code y_Md_by b_Md_by 4 (some .int) :: TB)) B.pre
  have htb := fun w (h : w ∈ TB) => hts w (List.mem_cons_of_mem _ h)
  have hown : s.vm.findClass R_Md = some m.cls := findClass_of_methodNamed B.named
  have hlocks := B.notSynchronized
  have hl := lv_entry ([.int p_0, .int p_1]) (n := 4) (Nat.le_of_ble_eq_true rfl)
  rw [lg_entry_eq]
  generalize (lg_sl ([.int p_0, .int p_1]) ++ List.replicate (4 - (lg_sl ([.int p_0, .int p_1])).length) Slot.unset).toArray = ls at hl ⊢
  have hl : lv_has ls 4 [(0, .int p_0), (1, .int p_1)] := hl
  refine lv_iload_n hx hb d_Md_by_0 rfl (lv_at hl 0 rfl) ?_
  refine lv_i2l hx hb d_Md_by_1 rfl ?_
  refine lv_iload_n hx hb d_Md_by_2 rfl (lv_at hl 1 rfl) ?_
  refine lv_i2l hx hb d_Md_by_3 rfl ?_
  refine lv_lmul hx hb d_Md_by_4 ?_
  refine hb_anyl (fun y_1 => ?_)
  refine lv_ldc2 (v := 100) hx hb hown (htb (.constantLong R_Md 284 100) tw_614) d_Md_by_5 ?_
  refine lv_ldiv hx hb d_Md_by_8 (by decide) ?_
  refine hb_anyl (fun y_2 => ?_)
  refine lv_lstore_n (lv' := [(2, .long y_2), (0, .int p_0), (1, .int p_1)]) hx hb d_Md_by_9 rfl hl (by decide) rfl (fun ls hl => ?_)
  refine lv_lload_n hx hb d_Md_by_10 rfl (lv_at hl 0 rfl) ?_
  refine lv_ldc2 (v := 1000000) hx hb hown (htb (.constantLong R_Md 286 1000000) tw_615) d_Md_by_11 ?_
  refine W.lcmp hx hb d_Md_by_14 ?_
  refine hb_anyi (fun y_3 => ?_)
  refine lv_if_le (tgt := 24) hx hb d_Md_by_15 (by decide) (fun c_4 => ?_) (fun c_4 => ?_)
  · refine lv_lload_n hx hb d_Md_by_24 rfl (lv_at hl 0 rfl) ?_
    refine lv_l2i hx hb d_Md_by_25 rfl ?_
    refine hb_anyi (fun y_5 => ?_)
    exact W.iret (v := y_5) hx hb hr (fun t ht hW => ⟨y_5, rfl, trivial, ht⟩) t_nil d_Md_by_26
  · refine lv_ldcw (v := 1000000) hx hb hown (htb (.constant R_Md 288 1000000) tw_616) d_Md_by_18 ?_
    refine lv_goto (tgt := 26) hx hb d_Md_by_21 (by decide) ?_
    exact W.iret (v := 1000000) hx hb hr (fun t ht hW => ⟨1000000, rfl, trivial, ht⟩) t_nil d_Md_by_26
set_option maxHeartbeats 4000000 in
set_option maxRecDepth 100000 in
theorem c_Md_fareOf_t (l : Launch) (dC : Nat → ClassId) (dI : Nat → Nat → Nat) (ct : Nat → ClassId) (L : List Nat) (f : TF) (hO_0 : Ok L f) (q0 : Nat) (m0 : q0 ∈ L ∧ tk f q0 = 27) (p_0 : Int32) (p_1 : Int32) (p_2 : Int32) (p_3 : Int32) (p_4 : Int32) (p_5 : Int32)  (as_0 : ¬ (p_0 < 0)) (as_1 : ¬ (19 < p_0)) (as_2 : ¬ (p_1 < 0)) (as_3 : ¬ (11 < p_1)) (as_4 : ¬ (p_2 < 0)) (as_5 : ¬ (11 < p_2)) (as_6 : ¬ (p_3 < 0)) (as_7 : ¬ (499 < p_3)) (as_8 : ¬ (p_4 < 0)) (as_9 : ¬ (11 < p_4)) : Met l y_Md_fareOf (.code y_Md_fareOf b_Md_fareOf 13 (some .int) :: TB) ({ frames := 2, cells := 0, slots := 0, locals := 44 }) (va_Pc [.ref q0, .int p_0, .int p_1, .int p_2, .int p_3, .int p_4, .int p_5] (PR dC dI (TW ct L f) (TT ct))) (vp_Si (fun r => True)) 0 0 (fun _ => False) := by
  refine Met.ofW (cc := b_Md_fareOf) (maxL := 13) (ret := (some .int)) (by decide) rfl ?_
  intro p e s m args below meth c s₁ B hml hv
  obtain ⟨rfl, hP, hK, hN⟩ := hv
  have hx := B.exec
  have hb := B.bytes
  have hr := B.returns
  have hts := atoms_spec (ws := (.code y_Md_fareOf b_Md_fareOf 13 (some .int) :: TB)) B.pre
  have htb := fun w (h : w ∈ TB) => hts w (List.mem_cons_of_mem _ h)
  have hown : s.vm.findClass R_Md = some m.cls := findClass_of_methodNamed B.named
  have hlocks := B.notSynchronized
  have hl := lv_entry ([.ref q0, .int p_0, .int p_1, .int p_2, .int p_3, .int p_4, .int p_5]) (n := 13) (Nat.le_of_ble_eq_true rfl)
  rw [lg_entry_eq]
  generalize (lg_sl ([.ref q0, .int p_0, .int p_1, .int p_2, .int p_3, .int p_4, .int p_5]) ++ List.replicate (13 - (lg_sl ([.ref q0, .int p_0, .int p_1, .int p_2, .int p_3, .int p_4, .int p_5])).length) Slot.unset).toArray = ls at hl ⊢
  have hl : lv_has ls 13 [(0, .ref q0), (1, .int p_0), (2, .int p_1), (3, .int p_2), (4, .int p_3), (5, .int p_4), (6, .int p_5)] := hl
  have cut_1 : ∀ (n_1 : Nat) (v7_1 v8_1 v9_1 v10_1 : Int32) (ls : Array Slot), ¬ (v10_1 < 0) → ¬ (12 < v10_1) → (12 : Int32).toInt - (v10_1 : Int32).toInt ≤ (n_1 : Int) → lv_has ls 13 [(0, .ref q0), (1, .int p_0), (4, .int p_3), (5, .int p_4), (6, .int p_5), (7, .int v7_1), (8, .int v8_1), (9, .int v9_1), (10, .int v10_1)] → W p l e (headSpec (.code y_Md_fareOf b_Md_fareOf 13 (some .int) :: TB) ({ frames := 2, cells := 0, slots := 0, locals := 44 })).room s m [.ref q0, .int p_0, .int p_1, .int p_2, .int p_3, .int p_4, .int p_5].toArray below meth c s.heap [] 0 0 (MQ below (vp_Si (fun r => True)) [.ref q0, .int p_0, .int p_1, .int p_2, .int p_3, .int p_4, .int p_5].toArray s 0 0 (fun _ => False)) (F0 m 48 ls []) := by
    intro n_1
    induction n_1 using Nat.strongRecOn with
    | _ n_1 ih_1 =>
      intro v7_1 v8_1 v9_1 v10_1 ls iv0_1 iv1_1 hm_1 hl
      refine lv_iload hx hb d_Md_fareOf_48 (lv_at hl 8 rfl) ?_
      refine lv_aload_n hx hb d_Md_fareOf_50 rfl (lv_at hl 0 rfl) ?_
      refine tw_getr (D := (dC, dI)) (C := R_Md) (T := F_Md) (N := 64) (ci := 7) (kd := 27) (ct := ct) hx hb htb i_Md hown hK hP hO_0 m0 rfl rfl 32 (by decide) (htb (.fieldLink R_Md 119 "WaterMenModel" "fares" "[I") tw_595) (fun _ h9 => h9) rfl d_Md_fareOf_51 (fun q_2 e_2 m_2 => ?_)
      refine lv_iload_n hx hb d_Md_fareOf_54 rfl (lv_at hl 1 rfl) ?_
      refine tw_aldI (ct := ct) hx hb hK hP hO_0 m_2 rfl (hb_inl as_0 as_1 (by decide +kernel)) d_Md_fareOf_55 (fun x_3 e_3 b_3 => ?_)
      refine lv_icmp_ge (tgt := 116) hx hb d_Md_fareOf_56 (by decide) (fun c_4 => ?_) (fun c_4 => ?_)
      · have cut_5 : ∀ (n_5 : Nat) (v9_5 v12_5 : Int32) (ls : Array Slot), ¬ (v12_5 < 0) → ¬ (12 < v12_5) → (12 : Int32).toInt - (v12_5 : Int32).toInt ≤ (n_5 : Int) → lv_has ls 13 [(0, .ref q0), (1, .int p_0), (4, .int p_3), (5, .int p_4), (6, .int p_5), (9, .int v9_5), (12, .int v12_5)] → W p l e (headSpec (.code y_Md_fareOf b_Md_fareOf 13 (some .int) :: TB) ({ frames := 2, cells := 0, slots := 0, locals := 44 })).room s m [.ref q0, .int p_0, .int p_1, .int p_2, .int p_3, .int p_4, .int p_5].toArray below meth c s.heap [] 0 0 (MQ below (vp_Si (fun r => True)) [.ref q0, .int p_0, .int p_1, .int p_2, .int p_3, .int p_4, .int p_5].toArray s 0 0 (fun _ => False)) (F0 m 199 ls []) := by
          intro n_5
          induction n_5 using Nat.strongRecOn with
          | _ n_5 ih_5 =>
            intro v9_5 v12_5 ls iv0_5 iv1_5 hm_5 hl
            refine lv_iload hx hb d_Md_fareOf_199 (lv_at hl 6 rfl) ?_
            refine lv_aload_n hx hb d_Md_fareOf_201 rfl (lv_at hl 0 rfl) ?_
            refine tw_getr (D := (dC, dI)) (C := R_Md) (T := F_Md) (N := 64) (ci := 7) (kd := 27) (ct := ct) hx hb htb i_Md hown hK hP hO_0 m0 rfl rfl 36 (by decide) (htb (.fieldLink R_Md 131 "WaterMenModel" "hours" "[I") tw_591) (fun _ h9 => h9) rfl d_Md_fareOf_202 (fun q_6 e_6 m_6 => ?_)
            refine lv_iload_n hx hb d_Md_fareOf_205 rfl (lv_at hl 1 rfl) ?_
            refine tw_aldI (ct := ct) hx hb hK hP hO_0 m_6 rfl (hb_inl as_0 as_1 (by decide +kernel)) d_Md_fareOf_206 (fun x_7 e_7 b_7 => ?_)
            refine lv_icmp_ge (tgt := 267) hx hb d_Md_fareOf_207 (by decide) (fun c_8 => ?_) (fun c_8 => ?_)
            · refine lv_iload hx hb d_Md_fareOf_267 (lv_at hl 2 rfl) ?_
              refine lv_bipush (v := 7) hx hb d_Md_fareOf_269 (by decide +kernel) ?_
              refine lv_irem hx hb d_Md_fareOf_271 (by decide) ?_
              refine hb_remn (c := 7) (C1 := 6) (K := 2147483640) (by decide +kernel) (by decide +kernel) (by decide +kernel) as_6 (show ¬ (2147483640 < p_3) from by have e0 := as_6; rw [Int32.lt_iff_toInt_lt] at e0; have e1 := as_7; rw [Int32.lt_iff_toInt_lt] at e1; have z0 : (0 : Int32).toInt = 0 := (by decide +kernel); have z1 : (499 : Int32).toInt = 499 := (by decide +kernel); have z2 : (2147483640 : Int32).toInt = 2147483640 := (by decide +kernel); rw [Int32.lt_iff_toInt_lt]; omega) (fun y_9 qu_9 g1_9 g2_9 g3_9 g4_9 g5_9 g9_9 => ?_)
              refine lv_if_ne (tgt := 299) hx hb d_Md_fareOf_272 (by decide) (fun c_10 => ?_) (fun c_10 => ?_)
              · refine lv_iload hx hb d_Md_fareOf_299 (lv_at hl 4 rfl) ?_
                refine lv_iconst (v := 2) hx hb d_Md_fareOf_301 (by decide +kernel) ?_
                refine lv_icmp_ne (tgt := 329) hx hb d_Md_fareOf_302 (by decide) (fun c_11 => ?_) (fun c_11 => ?_)
                · refine lv_aload_n hx hb d_Md_fareOf_329 rfl (lv_at hl 0 rfl) ?_
                  refine lv_iload_n hx hb d_Md_fareOf_330 rfl (lv_at hl 1 rfl) ?_
                  refine lv_bipush (v := 15) hx hb d_Md_fareOf_331 (by decide +kernel) ?_
                  refine vp_callSi (va_Run.run (va_runV (As := [.int p_0, .int 15]) (rest := []) ⟨hx, hb, hml, hown, htb⟩ (c_Md_lineOf_t l dC dI ct L f hO_0 q0 m0 p_0 (15 : Int32) as_0 as_1 (by decide +kernel) (by decide +kernel)) (cwV 2 htb (gd_V tw_611 tw_612 tw_613 tw_479 tw_610) rfl rfl rfl (by decide +kernel) ⟨Nat.le_of_ble_eq_true rfl, Nat.le_of_ble_eq_true rfl⟩) ⟨pr_blind, tw_recv hK hP m0 rfl rfl, pr_pre hP hK hN⟩ rfl rfl hl.1 rfl (lv_room (Nat.le_of_ble_eq_true rfl)) d_Md_fareOf_333 ⟨Nat.le_of_ble_eq_true rfl, Nat.le_of_ble_eq_true rfl⟩)) (fun r_12 er_12 => ?_)
                  clear er_12
                  refine lv_iload hx hb d_Md_fareOf_336 (lv_at hl 5 rfl) ?_
                  refine lv_icmp_le (tgt := 351) hx hb d_Md_fareOf_338 (by decide) (fun c_13 => ?_) (fun c_13 => ?_)
                  · refine lv_iload hx hb d_Md_fareOf_351 (lv_at hl 5 rfl) ?_
                    exact W.iret (v := v9_5) hx hb hr (fun t ht hW => ⟨v9_5, rfl, trivial, ht⟩) t_nil d_Md_fareOf_353
                  · refine lv_aload_n hx hb d_Md_fareOf_341 rfl (lv_at hl 0 rfl) ?_
                    refine lv_iload_n hx hb d_Md_fareOf_342 rfl (lv_at hl 1 rfl) ?_
                    refine lv_bipush (v := 15) hx hb d_Md_fareOf_343 (by decide +kernel) ?_
                    refine vp_callSi (va_Run.run (va_runV (As := [.int p_0, .int 15]) (rest := []) ⟨hx, hb, hml, hown, htb⟩ (c_Md_lineOf_t l dC dI ct L f hO_0 q0 m0 p_0 (15 : Int32) as_0 as_1 (by decide +kernel) (by decide +kernel)) (cwV 2 htb (gd_V tw_611 tw_612 tw_613 tw_479 tw_610) rfl rfl rfl (by decide +kernel) ⟨Nat.le_of_ble_eq_true rfl, Nat.le_of_ble_eq_true rfl⟩) ⟨pr_blind, tw_recv hK hP m0 rfl rfl, pr_pre hP hK hN⟩ rfl rfl hl.1 rfl (lv_room (Nat.le_of_ble_eq_true rfl)) d_Md_fareOf_345 ⟨Nat.le_of_ble_eq_true rfl, Nat.le_of_ble_eq_true rfl⟩)) (fun r_14 er_14 => ?_)
                    clear er_14
                    refine lv_goto (tgt := 353) hx hb d_Md_fareOf_348 (by decide) ?_
                    exact W.iret (v := r_14) hx hb hr (fun t ht hW => ⟨r_14, rfl, trivial, ht⟩) t_nil d_Md_fareOf_353
                · refine lv_aload_n hx hb d_Md_fareOf_305 rfl (lv_at hl 0 rfl) ?_
                  refine lv_iload_n hx hb d_Md_fareOf_306 rfl (lv_at hl 1 rfl) ?_
                  refine lv_bipush (v := 18) hx hb d_Md_fareOf_307 (by decide +kernel) ?_
                  refine vp_callSi (va_Run.run (va_runV (As := [.int p_0, .int 18]) (rest := []) ⟨hx, hb, hml, hown, htb⟩ (c_Md_lineOf_t l dC dI ct L f hO_0 q0 m0 p_0 (18 : Int32) as_0 as_1 (by decide +kernel) (by decide +kernel)) (cwV 2 htb (gd_V tw_611 tw_612 tw_613 tw_479 tw_610) rfl rfl rfl (by decide +kernel) ⟨Nat.le_of_ble_eq_true rfl, Nat.le_of_ble_eq_true rfl⟩) ⟨pr_blind, tw_recv hK hP m0 rfl rfl, pr_pre hP hK hN⟩ rfl rfl hl.1 rfl (lv_room (Nat.le_of_ble_eq_true rfl)) d_Md_fareOf_309 ⟨Nat.le_of_ble_eq_true rfl, Nat.le_of_ble_eq_true rfl⟩)) (fun r_15 er_15 => ?_)
                  clear er_15
                  refine lv_if_lt (tgt := 329) hx hb d_Md_fareOf_312 (by decide) (fun c_16 => ?_) (fun c_16 => ?_)
                  · refine lv_aload_n hx hb d_Md_fareOf_329 rfl (lv_at hl 0 rfl) ?_
                    refine lv_iload_n hx hb d_Md_fareOf_330 rfl (lv_at hl 1 rfl) ?_
                    refine lv_bipush (v := 15) hx hb d_Md_fareOf_331 (by decide +kernel) ?_
                    refine vp_callSi (va_Run.run (va_runV (As := [.int p_0, .int 15]) (rest := []) ⟨hx, hb, hml, hown, htb⟩ (c_Md_lineOf_t l dC dI ct L f hO_0 q0 m0 p_0 (15 : Int32) as_0 as_1 (by decide +kernel) (by decide +kernel)) (cwV 2 htb (gd_V tw_611 tw_612 tw_613 tw_479 tw_610) rfl rfl rfl (by decide +kernel) ⟨Nat.le_of_ble_eq_true rfl, Nat.le_of_ble_eq_true rfl⟩) ⟨pr_blind, tw_recv hK hP m0 rfl rfl, pr_pre hP hK hN⟩ rfl rfl hl.1 rfl (lv_room (Nat.le_of_ble_eq_true rfl)) d_Md_fareOf_333 ⟨Nat.le_of_ble_eq_true rfl, Nat.le_of_ble_eq_true rfl⟩)) (fun r_17 er_17 => ?_)
                    clear er_17
                    refine lv_iload hx hb d_Md_fareOf_336 (lv_at hl 5 rfl) ?_
                    refine lv_icmp_le (tgt := 351) hx hb d_Md_fareOf_338 (by decide) (fun c_18 => ?_) (fun c_18 => ?_)
                    · refine lv_iload hx hb d_Md_fareOf_351 (lv_at hl 5 rfl) ?_
                      exact W.iret (v := v9_5) hx hb hr (fun t ht hW => ⟨v9_5, rfl, trivial, ht⟩) t_nil d_Md_fareOf_353
                    · refine lv_aload_n hx hb d_Md_fareOf_341 rfl (lv_at hl 0 rfl) ?_
                      refine lv_iload_n hx hb d_Md_fareOf_342 rfl (lv_at hl 1 rfl) ?_
                      refine lv_bipush (v := 15) hx hb d_Md_fareOf_343 (by decide +kernel) ?_
                      refine vp_callSi (va_Run.run (va_runV (As := [.int p_0, .int 15]) (rest := []) ⟨hx, hb, hml, hown, htb⟩ (c_Md_lineOf_t l dC dI ct L f hO_0 q0 m0 p_0 (15 : Int32) as_0 as_1 (by decide +kernel) (by decide +kernel)) (cwV 2 htb (gd_V tw_611 tw_612 tw_613 tw_479 tw_610) rfl rfl rfl (by decide +kernel) ⟨Nat.le_of_ble_eq_true rfl, Nat.le_of_ble_eq_true rfl⟩) ⟨pr_blind, tw_recv hK hP m0 rfl rfl, pr_pre hP hK hN⟩ rfl rfl hl.1 rfl (lv_room (Nat.le_of_ble_eq_true rfl)) d_Md_fareOf_345 ⟨Nat.le_of_ble_eq_true rfl, Nat.le_of_ble_eq_true rfl⟩)) (fun r_19 er_19 => ?_)
                      clear er_19
                      refine lv_goto (tgt := 353) hx hb d_Md_fareOf_348 (by decide) ?_
                      exact W.iret (v := r_19) hx hb hr (fun t ht hW => ⟨r_19, rfl, trivial, ht⟩) t_nil d_Md_fareOf_353
                  · refine lv_iload hx hb d_Md_fareOf_315 (lv_at hl 5 rfl) ?_
                    refine lv_aload_n hx hb d_Md_fareOf_317 rfl (lv_at hl 0 rfl) ?_
                    refine lv_iload_n hx hb d_Md_fareOf_318 rfl (lv_at hl 1 rfl) ?_
                    refine lv_bipush (v := 18) hx hb d_Md_fareOf_319 (by decide +kernel) ?_
                    refine vp_callSi (va_Run.run (va_runV (As := [.int p_0, .int 18]) (rest := [.int v9_5]) ⟨hx, hb, hml, hown, htb⟩ (c_Md_lineOf_t l dC dI ct L f hO_0 q0 m0 p_0 (18 : Int32) as_0 as_1 (by decide +kernel) (by decide +kernel)) (cwV 2 htb (gd_V tw_611 tw_612 tw_613 tw_479 tw_610) rfl rfl rfl (by decide +kernel) ⟨Nat.le_of_ble_eq_true rfl, Nat.le_of_ble_eq_true rfl⟩) ⟨pr_blind, tw_recv hK hP m0 rfl rfl, pr_pre hP hK hN⟩ rfl rfl hl.1 rfl (lv_room (Nat.le_of_ble_eq_true rfl)) d_Md_fareOf_321 ⟨Nat.le_of_ble_eq_true rfl, Nat.le_of_ble_eq_true rfl⟩)) (fun r_20 er_20 => ?_)
                    clear er_20
                    refine vp_callSi (va_Run.run (va_runS (As := [.int v9_5, .int r_20]) (rest := []) ⟨hx, hb, hml, hown, htb⟩ (c_Md_by_t l dC dI ct L f hO_0 v9_5 r_20) (cwS 2 htb (gd_S tw_618 tw_619 tw_479 tw_617) rfl rfl rfl (by decide +kernel) ⟨Nat.le_of_ble_eq_true rfl, Nat.le_of_ble_eq_true rfl⟩) ⟨pr_blind, pr_pre hP hK hN⟩ rfl rfl hl.1 rfl (lv_room (Nat.le_of_ble_eq_true rfl)) d_Md_fareOf_324 ⟨Nat.le_of_ble_eq_true rfl, Nat.le_of_ble_eq_true rfl⟩)) (fun r_21 er_21 => ?_)
                    clear er_21
                    refine lv_istore (lv' := [(9, .int r_21), (0, .ref q0), (1, .int p_0), (4, .int p_3), (5, .int p_4), (6, .int p_5), (12, .int v12_5)]) hx hb d_Md_fareOf_327 hl (by decide) rfl (fun ls hl => ?_)
                    refine lv_aload_n hx hb d_Md_fareOf_329 rfl (lv_at hl 1 rfl) ?_
                    refine lv_iload_n hx hb d_Md_fareOf_330 rfl (lv_at hl 2 rfl) ?_
                    refine lv_bipush (v := 15) hx hb d_Md_fareOf_331 (by decide +kernel) ?_
                    refine vp_callSi (va_Run.run (va_runV (As := [.int p_0, .int 15]) (rest := []) ⟨hx, hb, hml, hown, htb⟩ (c_Md_lineOf_t l dC dI ct L f hO_0 q0 m0 p_0 (15 : Int32) as_0 as_1 (by decide +kernel) (by decide +kernel)) (cwV 2 htb (gd_V tw_611 tw_612 tw_613 tw_479 tw_610) rfl rfl rfl (by decide +kernel) ⟨Nat.le_of_ble_eq_true rfl, Nat.le_of_ble_eq_true rfl⟩) ⟨pr_blind, tw_recv hK hP m0 rfl rfl, pr_pre hP hK hN⟩ rfl rfl hl.1 rfl (lv_room (Nat.le_of_ble_eq_true rfl)) d_Md_fareOf_333 ⟨Nat.le_of_ble_eq_true rfl, Nat.le_of_ble_eq_true rfl⟩)) (fun r_22 er_22 => ?_)
                    clear er_22
                    refine lv_iload hx hb d_Md_fareOf_336 (lv_at hl 0 rfl) ?_
                    refine lv_icmp_le (tgt := 351) hx hb d_Md_fareOf_338 (by decide) (fun c_23 => ?_) (fun c_23 => ?_)
                    · refine lv_iload hx hb d_Md_fareOf_351 (lv_at hl 0 rfl) ?_
                      exact W.iret (v := r_21) hx hb hr (fun t ht hW => ⟨r_21, rfl, trivial, ht⟩) t_nil d_Md_fareOf_353
                    · refine lv_aload_n hx hb d_Md_fareOf_341 rfl (lv_at hl 1 rfl) ?_
                      refine lv_iload_n hx hb d_Md_fareOf_342 rfl (lv_at hl 2 rfl) ?_
                      refine lv_bipush (v := 15) hx hb d_Md_fareOf_343 (by decide +kernel) ?_
                      refine vp_callSi (va_Run.run (va_runV (As := [.int p_0, .int 15]) (rest := []) ⟨hx, hb, hml, hown, htb⟩ (c_Md_lineOf_t l dC dI ct L f hO_0 q0 m0 p_0 (15 : Int32) as_0 as_1 (by decide +kernel) (by decide +kernel)) (cwV 2 htb (gd_V tw_611 tw_612 tw_613 tw_479 tw_610) rfl rfl rfl (by decide +kernel) ⟨Nat.le_of_ble_eq_true rfl, Nat.le_of_ble_eq_true rfl⟩) ⟨pr_blind, tw_recv hK hP m0 rfl rfl, pr_pre hP hK hN⟩ rfl rfl hl.1 rfl (lv_room (Nat.le_of_ble_eq_true rfl)) d_Md_fareOf_345 ⟨Nat.le_of_ble_eq_true rfl, Nat.le_of_ble_eq_true rfl⟩)) (fun r_24 er_24 => ?_)
                      clear er_24
                      refine lv_goto (tgt := 353) hx hb d_Md_fareOf_348 (by decide) ?_
                      exact W.iret (v := r_24) hx hb hr (fun t ht hW => ⟨r_24, rfl, trivial, ht⟩) t_nil d_Md_fareOf_353
              · refine lv_aload_n hx hb d_Md_fareOf_275 rfl (lv_at hl 0 rfl) ?_
                refine lv_iload_n hx hb d_Md_fareOf_276 rfl (lv_at hl 1 rfl) ?_
                refine lv_bipush (v := 14) hx hb d_Md_fareOf_277 (by decide +kernel) ?_
                refine vp_callSi (va_Run.run (va_runV (As := [.int p_0, .int 14]) (rest := []) ⟨hx, hb, hml, hown, htb⟩ (c_Md_lineOf_t l dC dI ct L f hO_0 q0 m0 p_0 (14 : Int32) as_0 as_1 (by decide +kernel) (by decide +kernel)) (cwV 2 htb (gd_V tw_611 tw_612 tw_613 tw_479 tw_610) rfl rfl rfl (by decide +kernel) ⟨Nat.le_of_ble_eq_true rfl, Nat.le_of_ble_eq_true rfl⟩) ⟨pr_blind, tw_recv hK hP m0 rfl rfl, pr_pre hP hK hN⟩ rfl rfl hl.1 rfl (lv_room (Nat.le_of_ble_eq_true rfl)) d_Md_fareOf_279 ⟨Nat.le_of_ble_eq_true rfl, Nat.le_of_ble_eq_true rfl⟩)) (fun r_25 er_25 => ?_)
                clear er_25
                refine lv_if_lt (tgt := 299) hx hb d_Md_fareOf_282 (by decide) (fun c_26 => ?_) (fun c_26 => ?_)
                · refine lv_iload hx hb d_Md_fareOf_299 (lv_at hl 4 rfl) ?_
                  refine lv_iconst (v := 2) hx hb d_Md_fareOf_301 (by decide +kernel) ?_
                  refine lv_icmp_ne (tgt := 329) hx hb d_Md_fareOf_302 (by decide) (fun c_27 => ?_) (fun c_27 => ?_)
                  · refine lv_aload_n hx hb d_Md_fareOf_329 rfl (lv_at hl 0 rfl) ?_
                    refine lv_iload_n hx hb d_Md_fareOf_330 rfl (lv_at hl 1 rfl) ?_
                    refine lv_bipush (v := 15) hx hb d_Md_fareOf_331 (by decide +kernel) ?_
                    refine vp_callSi (va_Run.run (va_runV (As := [.int p_0, .int 15]) (rest := []) ⟨hx, hb, hml, hown, htb⟩ (c_Md_lineOf_t l dC dI ct L f hO_0 q0 m0 p_0 (15 : Int32) as_0 as_1 (by decide +kernel) (by decide +kernel)) (cwV 2 htb (gd_V tw_611 tw_612 tw_613 tw_479 tw_610) rfl rfl rfl (by decide +kernel) ⟨Nat.le_of_ble_eq_true rfl, Nat.le_of_ble_eq_true rfl⟩) ⟨pr_blind, tw_recv hK hP m0 rfl rfl, pr_pre hP hK hN⟩ rfl rfl hl.1 rfl (lv_room (Nat.le_of_ble_eq_true rfl)) d_Md_fareOf_333 ⟨Nat.le_of_ble_eq_true rfl, Nat.le_of_ble_eq_true rfl⟩)) (fun r_28 er_28 => ?_)
                    clear er_28
                    refine lv_iload hx hb d_Md_fareOf_336 (lv_at hl 5 rfl) ?_
                    refine lv_icmp_le (tgt := 351) hx hb d_Md_fareOf_338 (by decide) (fun c_29 => ?_) (fun c_29 => ?_)
                    · refine lv_iload hx hb d_Md_fareOf_351 (lv_at hl 5 rfl) ?_
                      exact W.iret (v := v9_5) hx hb hr (fun t ht hW => ⟨v9_5, rfl, trivial, ht⟩) t_nil d_Md_fareOf_353
                    · refine lv_aload_n hx hb d_Md_fareOf_341 rfl (lv_at hl 0 rfl) ?_
                      refine lv_iload_n hx hb d_Md_fareOf_342 rfl (lv_at hl 1 rfl) ?_
                      refine lv_bipush (v := 15) hx hb d_Md_fareOf_343 (by decide +kernel) ?_
                      refine vp_callSi (va_Run.run (va_runV (As := [.int p_0, .int 15]) (rest := []) ⟨hx, hb, hml, hown, htb⟩ (c_Md_lineOf_t l dC dI ct L f hO_0 q0 m0 p_0 (15 : Int32) as_0 as_1 (by decide +kernel) (by decide +kernel)) (cwV 2 htb (gd_V tw_611 tw_612 tw_613 tw_479 tw_610) rfl rfl rfl (by decide +kernel) ⟨Nat.le_of_ble_eq_true rfl, Nat.le_of_ble_eq_true rfl⟩) ⟨pr_blind, tw_recv hK hP m0 rfl rfl, pr_pre hP hK hN⟩ rfl rfl hl.1 rfl (lv_room (Nat.le_of_ble_eq_true rfl)) d_Md_fareOf_345 ⟨Nat.le_of_ble_eq_true rfl, Nat.le_of_ble_eq_true rfl⟩)) (fun r_30 er_30 => ?_)
                      clear er_30
                      refine lv_goto (tgt := 353) hx hb d_Md_fareOf_348 (by decide) ?_
                      exact W.iret (v := r_30) hx hb hr (fun t ht hW => ⟨r_30, rfl, trivial, ht⟩) t_nil d_Md_fareOf_353
                  · refine lv_aload_n hx hb d_Md_fareOf_305 rfl (lv_at hl 0 rfl) ?_
                    refine lv_iload_n hx hb d_Md_fareOf_306 rfl (lv_at hl 1 rfl) ?_
                    refine lv_bipush (v := 18) hx hb d_Md_fareOf_307 (by decide +kernel) ?_
                    refine vp_callSi (va_Run.run (va_runV (As := [.int p_0, .int 18]) (rest := []) ⟨hx, hb, hml, hown, htb⟩ (c_Md_lineOf_t l dC dI ct L f hO_0 q0 m0 p_0 (18 : Int32) as_0 as_1 (by decide +kernel) (by decide +kernel)) (cwV 2 htb (gd_V tw_611 tw_612 tw_613 tw_479 tw_610) rfl rfl rfl (by decide +kernel) ⟨Nat.le_of_ble_eq_true rfl, Nat.le_of_ble_eq_true rfl⟩) ⟨pr_blind, tw_recv hK hP m0 rfl rfl, pr_pre hP hK hN⟩ rfl rfl hl.1 rfl (lv_room (Nat.le_of_ble_eq_true rfl)) d_Md_fareOf_309 ⟨Nat.le_of_ble_eq_true rfl, Nat.le_of_ble_eq_true rfl⟩)) (fun r_31 er_31 => ?_)
                    clear er_31
                    refine lv_if_lt (tgt := 329) hx hb d_Md_fareOf_312 (by decide) (fun c_32 => ?_) (fun c_32 => ?_)
                    · refine lv_aload_n hx hb d_Md_fareOf_329 rfl (lv_at hl 0 rfl) ?_
                      refine lv_iload_n hx hb d_Md_fareOf_330 rfl (lv_at hl 1 rfl) ?_
                      refine lv_bipush (v := 15) hx hb d_Md_fareOf_331 (by decide +kernel) ?_
                      refine vp_callSi (va_Run.run (va_runV (As := [.int p_0, .int 15]) (rest := []) ⟨hx, hb, hml, hown, htb⟩ (c_Md_lineOf_t l dC dI ct L f hO_0 q0 m0 p_0 (15 : Int32) as_0 as_1 (by decide +kernel) (by decide +kernel)) (cwV 2 htb (gd_V tw_611 tw_612 tw_613 tw_479 tw_610) rfl rfl rfl (by decide +kernel) ⟨Nat.le_of_ble_eq_true rfl, Nat.le_of_ble_eq_true rfl⟩) ⟨pr_blind, tw_recv hK hP m0 rfl rfl, pr_pre hP hK hN⟩ rfl rfl hl.1 rfl (lv_room (Nat.le_of_ble_eq_true rfl)) d_Md_fareOf_333 ⟨Nat.le_of_ble_eq_true rfl, Nat.le_of_ble_eq_true rfl⟩)) (fun r_33 er_33 => ?_)
                      clear er_33
                      refine lv_iload hx hb d_Md_fareOf_336 (lv_at hl 5 rfl) ?_
                      refine lv_icmp_le (tgt := 351) hx hb d_Md_fareOf_338 (by decide) (fun c_34 => ?_) (fun c_34 => ?_)
                      · refine lv_iload hx hb d_Md_fareOf_351 (lv_at hl 5 rfl) ?_
                        exact W.iret (v := v9_5) hx hb hr (fun t ht hW => ⟨v9_5, rfl, trivial, ht⟩) t_nil d_Md_fareOf_353
                      · refine lv_aload_n hx hb d_Md_fareOf_341 rfl (lv_at hl 0 rfl) ?_
                        refine lv_iload_n hx hb d_Md_fareOf_342 rfl (lv_at hl 1 rfl) ?_
                        refine lv_bipush (v := 15) hx hb d_Md_fareOf_343 (by decide +kernel) ?_
                        refine vp_callSi (va_Run.run (va_runV (As := [.int p_0, .int 15]) (rest := []) ⟨hx, hb, hml, hown, htb⟩ (c_Md_lineOf_t l dC dI ct L f hO_0 q0 m0 p_0 (15 : Int32) as_0 as_1 (by decide +kernel) (by decide +kernel)) (cwV 2 htb (gd_V tw_611 tw_612 tw_613 tw_479 tw_610) rfl rfl rfl (by decide +kernel) ⟨Nat.le_of_ble_eq_true rfl, Nat.le_of_ble_eq_true rfl⟩) ⟨pr_blind, tw_recv hK hP m0 rfl rfl, pr_pre hP hK hN⟩ rfl rfl hl.1 rfl (lv_room (Nat.le_of_ble_eq_true rfl)) d_Md_fareOf_345 ⟨Nat.le_of_ble_eq_true rfl, Nat.le_of_ble_eq_true rfl⟩)) (fun r_35 er_35 => ?_)
                        clear er_35
                        refine lv_goto (tgt := 353) hx hb d_Md_fareOf_348 (by decide) ?_
                        exact W.iret (v := r_35) hx hb hr (fun t ht hW => ⟨r_35, rfl, trivial, ht⟩) t_nil d_Md_fareOf_353
                    · refine lv_iload hx hb d_Md_fareOf_315 (lv_at hl 5 rfl) ?_
                      refine lv_aload_n hx hb d_Md_fareOf_317 rfl (lv_at hl 0 rfl) ?_
                      refine lv_iload_n hx hb d_Md_fareOf_318 rfl (lv_at hl 1 rfl) ?_
                      refine lv_bipush (v := 18) hx hb d_Md_fareOf_319 (by decide +kernel) ?_
                      refine vp_callSi (va_Run.run (va_runV (As := [.int p_0, .int 18]) (rest := [.int v9_5]) ⟨hx, hb, hml, hown, htb⟩ (c_Md_lineOf_t l dC dI ct L f hO_0 q0 m0 p_0 (18 : Int32) as_0 as_1 (by decide +kernel) (by decide +kernel)) (cwV 2 htb (gd_V tw_611 tw_612 tw_613 tw_479 tw_610) rfl rfl rfl (by decide +kernel) ⟨Nat.le_of_ble_eq_true rfl, Nat.le_of_ble_eq_true rfl⟩) ⟨pr_blind, tw_recv hK hP m0 rfl rfl, pr_pre hP hK hN⟩ rfl rfl hl.1 rfl (lv_room (Nat.le_of_ble_eq_true rfl)) d_Md_fareOf_321 ⟨Nat.le_of_ble_eq_true rfl, Nat.le_of_ble_eq_true rfl⟩)) (fun r_36 er_36 => ?_)
                      clear er_36
                      refine vp_callSi (va_Run.run (va_runS (As := [.int v9_5, .int r_36]) (rest := []) ⟨hx, hb, hml, hown, htb⟩ (c_Md_by_t l dC dI ct L f hO_0 v9_5 r_36) (cwS 2 htb (gd_S tw_618 tw_619 tw_479 tw_617) rfl rfl rfl (by decide +kernel) ⟨Nat.le_of_ble_eq_true rfl, Nat.le_of_ble_eq_true rfl⟩) ⟨pr_blind, pr_pre hP hK hN⟩ rfl rfl hl.1 rfl (lv_room (Nat.le_of_ble_eq_true rfl)) d_Md_fareOf_324 ⟨Nat.le_of_ble_eq_true rfl, Nat.le_of_ble_eq_true rfl⟩)) (fun r_37 er_37 => ?_)
                      clear er_37
                      refine lv_istore (lv' := [(9, .int r_37), (0, .ref q0), (1, .int p_0), (4, .int p_3), (5, .int p_4), (6, .int p_5), (12, .int v12_5)]) hx hb d_Md_fareOf_327 hl (by decide) rfl (fun ls hl => ?_)
                      refine lv_aload_n hx hb d_Md_fareOf_329 rfl (lv_at hl 1 rfl) ?_
                      refine lv_iload_n hx hb d_Md_fareOf_330 rfl (lv_at hl 2 rfl) ?_
                      refine lv_bipush (v := 15) hx hb d_Md_fareOf_331 (by decide +kernel) ?_
                      refine vp_callSi (va_Run.run (va_runV (As := [.int p_0, .int 15]) (rest := []) ⟨hx, hb, hml, hown, htb⟩ (c_Md_lineOf_t l dC dI ct L f hO_0 q0 m0 p_0 (15 : Int32) as_0 as_1 (by decide +kernel) (by decide +kernel)) (cwV 2 htb (gd_V tw_611 tw_612 tw_613 tw_479 tw_610) rfl rfl rfl (by decide +kernel) ⟨Nat.le_of_ble_eq_true rfl, Nat.le_of_ble_eq_true rfl⟩) ⟨pr_blind, tw_recv hK hP m0 rfl rfl, pr_pre hP hK hN⟩ rfl rfl hl.1 rfl (lv_room (Nat.le_of_ble_eq_true rfl)) d_Md_fareOf_333 ⟨Nat.le_of_ble_eq_true rfl, Nat.le_of_ble_eq_true rfl⟩)) (fun r_38 er_38 => ?_)
                      clear er_38
                      refine lv_iload hx hb d_Md_fareOf_336 (lv_at hl 0 rfl) ?_
                      refine lv_icmp_le (tgt := 351) hx hb d_Md_fareOf_338 (by decide) (fun c_39 => ?_) (fun c_39 => ?_)
                      · refine lv_iload hx hb d_Md_fareOf_351 (lv_at hl 0 rfl) ?_
                        exact W.iret (v := r_37) hx hb hr (fun t ht hW => ⟨r_37, rfl, trivial, ht⟩) t_nil d_Md_fareOf_353
                      · refine lv_aload_n hx hb d_Md_fareOf_341 rfl (lv_at hl 1 rfl) ?_
                        refine lv_iload_n hx hb d_Md_fareOf_342 rfl (lv_at hl 2 rfl) ?_
                        refine lv_bipush (v := 15) hx hb d_Md_fareOf_343 (by decide +kernel) ?_
                        refine vp_callSi (va_Run.run (va_runV (As := [.int p_0, .int 15]) (rest := []) ⟨hx, hb, hml, hown, htb⟩ (c_Md_lineOf_t l dC dI ct L f hO_0 q0 m0 p_0 (15 : Int32) as_0 as_1 (by decide +kernel) (by decide +kernel)) (cwV 2 htb (gd_V tw_611 tw_612 tw_613 tw_479 tw_610) rfl rfl rfl (by decide +kernel) ⟨Nat.le_of_ble_eq_true rfl, Nat.le_of_ble_eq_true rfl⟩) ⟨pr_blind, tw_recv hK hP m0 rfl rfl, pr_pre hP hK hN⟩ rfl rfl hl.1 rfl (lv_room (Nat.le_of_ble_eq_true rfl)) d_Md_fareOf_345 ⟨Nat.le_of_ble_eq_true rfl, Nat.le_of_ble_eq_true rfl⟩)) (fun r_40 er_40 => ?_)
                        clear er_40
                        refine lv_goto (tgt := 353) hx hb d_Md_fareOf_348 (by decide) ?_
                        exact W.iret (v := r_40) hx hb hr (fun t ht hW => ⟨r_40, rfl, trivial, ht⟩) t_nil d_Md_fareOf_353
                · refine lv_iload hx hb d_Md_fareOf_285 (lv_at hl 5 rfl) ?_
                  refine lv_aload_n hx hb d_Md_fareOf_287 rfl (lv_at hl 0 rfl) ?_
                  refine lv_iload_n hx hb d_Md_fareOf_288 rfl (lv_at hl 1 rfl) ?_
                  refine lv_bipush (v := 14) hx hb d_Md_fareOf_289 (by decide +kernel) ?_
                  refine vp_callSi (va_Run.run (va_runV (As := [.int p_0, .int 14]) (rest := [.int v9_5]) ⟨hx, hb, hml, hown, htb⟩ (c_Md_lineOf_t l dC dI ct L f hO_0 q0 m0 p_0 (14 : Int32) as_0 as_1 (by decide +kernel) (by decide +kernel)) (cwV 2 htb (gd_V tw_611 tw_612 tw_613 tw_479 tw_610) rfl rfl rfl (by decide +kernel) ⟨Nat.le_of_ble_eq_true rfl, Nat.le_of_ble_eq_true rfl⟩) ⟨pr_blind, tw_recv hK hP m0 rfl rfl, pr_pre hP hK hN⟩ rfl rfl hl.1 rfl (lv_room (Nat.le_of_ble_eq_true rfl)) d_Md_fareOf_291 ⟨Nat.le_of_ble_eq_true rfl, Nat.le_of_ble_eq_true rfl⟩)) (fun r_41 er_41 => ?_)
                  clear er_41
                  refine vp_callSi (va_Run.run (va_runS (As := [.int v9_5, .int r_41]) (rest := []) ⟨hx, hb, hml, hown, htb⟩ (c_Md_by_t l dC dI ct L f hO_0 v9_5 r_41) (cwS 2 htb (gd_S tw_618 tw_619 tw_479 tw_617) rfl rfl rfl (by decide +kernel) ⟨Nat.le_of_ble_eq_true rfl, Nat.le_of_ble_eq_true rfl⟩) ⟨pr_blind, pr_pre hP hK hN⟩ rfl rfl hl.1 rfl (lv_room (Nat.le_of_ble_eq_true rfl)) d_Md_fareOf_294 ⟨Nat.le_of_ble_eq_true rfl, Nat.le_of_ble_eq_true rfl⟩)) (fun r_42 er_42 => ?_)
                  clear er_42
                  refine lv_istore (lv' := [(9, .int r_42), (0, .ref q0), (1, .int p_0), (4, .int p_3), (5, .int p_4), (6, .int p_5), (12, .int v12_5)]) hx hb d_Md_fareOf_297 hl (by decide) rfl (fun ls hl => ?_)
                  refine lv_iload hx hb d_Md_fareOf_299 (lv_at hl 5 rfl) ?_
                  refine lv_iconst (v := 2) hx hb d_Md_fareOf_301 (by decide +kernel) ?_
                  refine lv_icmp_ne (tgt := 329) hx hb d_Md_fareOf_302 (by decide) (fun c_43 => ?_) (fun c_43 => ?_)
                  · refine lv_aload_n hx hb d_Md_fareOf_329 rfl (lv_at hl 1 rfl) ?_
                    refine lv_iload_n hx hb d_Md_fareOf_330 rfl (lv_at hl 2 rfl) ?_
                    refine lv_bipush (v := 15) hx hb d_Md_fareOf_331 (by decide +kernel) ?_
                    refine vp_callSi (va_Run.run (va_runV (As := [.int p_0, .int 15]) (rest := []) ⟨hx, hb, hml, hown, htb⟩ (c_Md_lineOf_t l dC dI ct L f hO_0 q0 m0 p_0 (15 : Int32) as_0 as_1 (by decide +kernel) (by decide +kernel)) (cwV 2 htb (gd_V tw_611 tw_612 tw_613 tw_479 tw_610) rfl rfl rfl (by decide +kernel) ⟨Nat.le_of_ble_eq_true rfl, Nat.le_of_ble_eq_true rfl⟩) ⟨pr_blind, tw_recv hK hP m0 rfl rfl, pr_pre hP hK hN⟩ rfl rfl hl.1 rfl (lv_room (Nat.le_of_ble_eq_true rfl)) d_Md_fareOf_333 ⟨Nat.le_of_ble_eq_true rfl, Nat.le_of_ble_eq_true rfl⟩)) (fun r_44 er_44 => ?_)
                    clear er_44
                    refine lv_iload hx hb d_Md_fareOf_336 (lv_at hl 0 rfl) ?_
                    refine lv_icmp_le (tgt := 351) hx hb d_Md_fareOf_338 (by decide) (fun c_45 => ?_) (fun c_45 => ?_)
                    · refine lv_iload hx hb d_Md_fareOf_351 (lv_at hl 0 rfl) ?_
                      exact W.iret (v := r_42) hx hb hr (fun t ht hW => ⟨r_42, rfl, trivial, ht⟩) t_nil d_Md_fareOf_353
                    · refine lv_aload_n hx hb d_Md_fareOf_341 rfl (lv_at hl 1 rfl) ?_
                      refine lv_iload_n hx hb d_Md_fareOf_342 rfl (lv_at hl 2 rfl) ?_
                      refine lv_bipush (v := 15) hx hb d_Md_fareOf_343 (by decide +kernel) ?_
                      refine vp_callSi (va_Run.run (va_runV (As := [.int p_0, .int 15]) (rest := []) ⟨hx, hb, hml, hown, htb⟩ (c_Md_lineOf_t l dC dI ct L f hO_0 q0 m0 p_0 (15 : Int32) as_0 as_1 (by decide +kernel) (by decide +kernel)) (cwV 2 htb (gd_V tw_611 tw_612 tw_613 tw_479 tw_610) rfl rfl rfl (by decide +kernel) ⟨Nat.le_of_ble_eq_true rfl, Nat.le_of_ble_eq_true rfl⟩) ⟨pr_blind, tw_recv hK hP m0 rfl rfl, pr_pre hP hK hN⟩ rfl rfl hl.1 rfl (lv_room (Nat.le_of_ble_eq_true rfl)) d_Md_fareOf_345 ⟨Nat.le_of_ble_eq_true rfl, Nat.le_of_ble_eq_true rfl⟩)) (fun r_46 er_46 => ?_)
                      clear er_46
                      refine lv_goto (tgt := 353) hx hb d_Md_fareOf_348 (by decide) ?_
                      exact W.iret (v := r_46) hx hb hr (fun t ht hW => ⟨r_46, rfl, trivial, ht⟩) t_nil d_Md_fareOf_353
                  · refine lv_aload_n hx hb d_Md_fareOf_305 rfl (lv_at hl 1 rfl) ?_
                    refine lv_iload_n hx hb d_Md_fareOf_306 rfl (lv_at hl 2 rfl) ?_
                    refine lv_bipush (v := 18) hx hb d_Md_fareOf_307 (by decide +kernel) ?_
                    refine vp_callSi (va_Run.run (va_runV (As := [.int p_0, .int 18]) (rest := []) ⟨hx, hb, hml, hown, htb⟩ (c_Md_lineOf_t l dC dI ct L f hO_0 q0 m0 p_0 (18 : Int32) as_0 as_1 (by decide +kernel) (by decide +kernel)) (cwV 2 htb (gd_V tw_611 tw_612 tw_613 tw_479 tw_610) rfl rfl rfl (by decide +kernel) ⟨Nat.le_of_ble_eq_true rfl, Nat.le_of_ble_eq_true rfl⟩) ⟨pr_blind, tw_recv hK hP m0 rfl rfl, pr_pre hP hK hN⟩ rfl rfl hl.1 rfl (lv_room (Nat.le_of_ble_eq_true rfl)) d_Md_fareOf_309 ⟨Nat.le_of_ble_eq_true rfl, Nat.le_of_ble_eq_true rfl⟩)) (fun r_47 er_47 => ?_)
                    clear er_47
                    refine lv_if_lt (tgt := 329) hx hb d_Md_fareOf_312 (by decide) (fun c_48 => ?_) (fun c_48 => ?_)
                    · refine lv_aload_n hx hb d_Md_fareOf_329 rfl (lv_at hl 1 rfl) ?_
                      refine lv_iload_n hx hb d_Md_fareOf_330 rfl (lv_at hl 2 rfl) ?_
                      refine lv_bipush (v := 15) hx hb d_Md_fareOf_331 (by decide +kernel) ?_
                      refine vp_callSi (va_Run.run (va_runV (As := [.int p_0, .int 15]) (rest := []) ⟨hx, hb, hml, hown, htb⟩ (c_Md_lineOf_t l dC dI ct L f hO_0 q0 m0 p_0 (15 : Int32) as_0 as_1 (by decide +kernel) (by decide +kernel)) (cwV 2 htb (gd_V tw_611 tw_612 tw_613 tw_479 tw_610) rfl rfl rfl (by decide +kernel) ⟨Nat.le_of_ble_eq_true rfl, Nat.le_of_ble_eq_true rfl⟩) ⟨pr_blind, tw_recv hK hP m0 rfl rfl, pr_pre hP hK hN⟩ rfl rfl hl.1 rfl (lv_room (Nat.le_of_ble_eq_true rfl)) d_Md_fareOf_333 ⟨Nat.le_of_ble_eq_true rfl, Nat.le_of_ble_eq_true rfl⟩)) (fun r_49 er_49 => ?_)
                      clear er_49
                      refine lv_iload hx hb d_Md_fareOf_336 (lv_at hl 0 rfl) ?_
                      refine lv_icmp_le (tgt := 351) hx hb d_Md_fareOf_338 (by decide) (fun c_50 => ?_) (fun c_50 => ?_)
                      · refine lv_iload hx hb d_Md_fareOf_351 (lv_at hl 0 rfl) ?_
                        exact W.iret (v := r_42) hx hb hr (fun t ht hW => ⟨r_42, rfl, trivial, ht⟩) t_nil d_Md_fareOf_353
                      · refine lv_aload_n hx hb d_Md_fareOf_341 rfl (lv_at hl 1 rfl) ?_
                        refine lv_iload_n hx hb d_Md_fareOf_342 rfl (lv_at hl 2 rfl) ?_
                        refine lv_bipush (v := 15) hx hb d_Md_fareOf_343 (by decide +kernel) ?_
                        refine vp_callSi (va_Run.run (va_runV (As := [.int p_0, .int 15]) (rest := []) ⟨hx, hb, hml, hown, htb⟩ (c_Md_lineOf_t l dC dI ct L f hO_0 q0 m0 p_0 (15 : Int32) as_0 as_1 (by decide +kernel) (by decide +kernel)) (cwV 2 htb (gd_V tw_611 tw_612 tw_613 tw_479 tw_610) rfl rfl rfl (by decide +kernel) ⟨Nat.le_of_ble_eq_true rfl, Nat.le_of_ble_eq_true rfl⟩) ⟨pr_blind, tw_recv hK hP m0 rfl rfl, pr_pre hP hK hN⟩ rfl rfl hl.1 rfl (lv_room (Nat.le_of_ble_eq_true rfl)) d_Md_fareOf_345 ⟨Nat.le_of_ble_eq_true rfl, Nat.le_of_ble_eq_true rfl⟩)) (fun r_51 er_51 => ?_)
                        clear er_51
                        refine lv_goto (tgt := 353) hx hb d_Md_fareOf_348 (by decide) ?_
                        exact W.iret (v := r_51) hx hb hr (fun t ht hW => ⟨r_51, rfl, trivial, ht⟩) t_nil d_Md_fareOf_353
                    · refine lv_iload hx hb d_Md_fareOf_315 (lv_at hl 0 rfl) ?_
                      refine lv_aload_n hx hb d_Md_fareOf_317 rfl (lv_at hl 1 rfl) ?_
                      refine lv_iload_n hx hb d_Md_fareOf_318 rfl (lv_at hl 2 rfl) ?_
                      refine lv_bipush (v := 18) hx hb d_Md_fareOf_319 (by decide +kernel) ?_
                      refine vp_callSi (va_Run.run (va_runV (As := [.int p_0, .int 18]) (rest := [.int r_42]) ⟨hx, hb, hml, hown, htb⟩ (c_Md_lineOf_t l dC dI ct L f hO_0 q0 m0 p_0 (18 : Int32) as_0 as_1 (by decide +kernel) (by decide +kernel)) (cwV 2 htb (gd_V tw_611 tw_612 tw_613 tw_479 tw_610) rfl rfl rfl (by decide +kernel) ⟨Nat.le_of_ble_eq_true rfl, Nat.le_of_ble_eq_true rfl⟩) ⟨pr_blind, tw_recv hK hP m0 rfl rfl, pr_pre hP hK hN⟩ rfl rfl hl.1 rfl (lv_room (Nat.le_of_ble_eq_true rfl)) d_Md_fareOf_321 ⟨Nat.le_of_ble_eq_true rfl, Nat.le_of_ble_eq_true rfl⟩)) (fun r_52 er_52 => ?_)
                      clear er_52
                      refine vp_callSi (va_Run.run (va_runS (As := [.int r_42, .int r_52]) (rest := []) ⟨hx, hb, hml, hown, htb⟩ (c_Md_by_t l dC dI ct L f hO_0 r_42 r_52) (cwS 2 htb (gd_S tw_618 tw_619 tw_479 tw_617) rfl rfl rfl (by decide +kernel) ⟨Nat.le_of_ble_eq_true rfl, Nat.le_of_ble_eq_true rfl⟩) ⟨pr_blind, pr_pre hP hK hN⟩ rfl rfl hl.1 rfl (lv_room (Nat.le_of_ble_eq_true rfl)) d_Md_fareOf_324 ⟨Nat.le_of_ble_eq_true rfl, Nat.le_of_ble_eq_true rfl⟩)) (fun r_53 er_53 => ?_)
                      clear er_53
                      refine lv_istore (lv' := [(9, .int r_53), (0, .ref q0), (1, .int p_0), (4, .int p_3), (5, .int p_4), (6, .int p_5), (12, .int v12_5)]) hx hb d_Md_fareOf_327 hl (by decide) rfl (fun ls hl => ?_)
                      refine lv_aload_n hx hb d_Md_fareOf_329 rfl (lv_at hl 1 rfl) ?_
                      refine lv_iload_n hx hb d_Md_fareOf_330 rfl (lv_at hl 2 rfl) ?_
                      refine lv_bipush (v := 15) hx hb d_Md_fareOf_331 (by decide +kernel) ?_
                      refine vp_callSi (va_Run.run (va_runV (As := [.int p_0, .int 15]) (rest := []) ⟨hx, hb, hml, hown, htb⟩ (c_Md_lineOf_t l dC dI ct L f hO_0 q0 m0 p_0 (15 : Int32) as_0 as_1 (by decide +kernel) (by decide +kernel)) (cwV 2 htb (gd_V tw_611 tw_612 tw_613 tw_479 tw_610) rfl rfl rfl (by decide +kernel) ⟨Nat.le_of_ble_eq_true rfl, Nat.le_of_ble_eq_true rfl⟩) ⟨pr_blind, tw_recv hK hP m0 rfl rfl, pr_pre hP hK hN⟩ rfl rfl hl.1 rfl (lv_room (Nat.le_of_ble_eq_true rfl)) d_Md_fareOf_333 ⟨Nat.le_of_ble_eq_true rfl, Nat.le_of_ble_eq_true rfl⟩)) (fun r_54 er_54 => ?_)
                      clear er_54
                      refine lv_iload hx hb d_Md_fareOf_336 (lv_at hl 0 rfl) ?_
                      refine lv_icmp_le (tgt := 351) hx hb d_Md_fareOf_338 (by decide) (fun c_55 => ?_) (fun c_55 => ?_)
                      · refine lv_iload hx hb d_Md_fareOf_351 (lv_at hl 0 rfl) ?_
                        exact W.iret (v := r_53) hx hb hr (fun t ht hW => ⟨r_53, rfl, trivial, ht⟩) t_nil d_Md_fareOf_353
                      · refine lv_aload_n hx hb d_Md_fareOf_341 rfl (lv_at hl 1 rfl) ?_
                        refine lv_iload_n hx hb d_Md_fareOf_342 rfl (lv_at hl 2 rfl) ?_
                        refine lv_bipush (v := 15) hx hb d_Md_fareOf_343 (by decide +kernel) ?_
                        refine vp_callSi (va_Run.run (va_runV (As := [.int p_0, .int 15]) (rest := []) ⟨hx, hb, hml, hown, htb⟩ (c_Md_lineOf_t l dC dI ct L f hO_0 q0 m0 p_0 (15 : Int32) as_0 as_1 (by decide +kernel) (by decide +kernel)) (cwV 2 htb (gd_V tw_611 tw_612 tw_613 tw_479 tw_610) rfl rfl rfl (by decide +kernel) ⟨Nat.le_of_ble_eq_true rfl, Nat.le_of_ble_eq_true rfl⟩) ⟨pr_blind, tw_recv hK hP m0 rfl rfl, pr_pre hP hK hN⟩ rfl rfl hl.1 rfl (lv_room (Nat.le_of_ble_eq_true rfl)) d_Md_fareOf_345 ⟨Nat.le_of_ble_eq_true rfl, Nat.le_of_ble_eq_true rfl⟩)) (fun r_56 er_56 => ?_)
                        clear er_56
                        refine lv_goto (tgt := 353) hx hb d_Md_fareOf_348 (by decide) ?_
                        exact W.iret (v := r_56) hx hb hr (fun t ht hW => ⟨r_56, rfl, trivial, ht⟩) t_nil d_Md_fareOf_353
            · refine lv_iload hx hb d_Md_fareOf_210 (lv_at hl 3 rfl) ?_
              refine lv_aload_n hx hb d_Md_fareOf_212 rfl (lv_at hl 0 rfl) ?_
              refine tw_getr (D := (dC, dI)) (C := R_Md) (T := F_Md) (N := 64) (ci := 7) (kd := 27) (ct := ct) hx hb htb i_Md hown hK hP hO_0 m0 rfl rfl 37 (by decide) (htb (.fieldLink R_Md 134 "WaterMenModel" "hourLow" "[I") tw_592) (fun _ h9 => h9) rfl d_Md_fareOf_213 (fun q_57 e_57 m_57 => ?_)
              refine lv_bipush (v := 12) hx hb d_Md_fareOf_216 (by decide +kernel) ?_
              refine lv_iload_n hx hb d_Md_fareOf_218 rfl (lv_at hl 1 rfl) ?_
              refine lv_imul hx hb d_Md_fareOf_219 ?_
              refine lv_iload hx hb d_Md_fareOf_220 (lv_at hl 6 rfl) ?_
              refine lv_iadd hx hb d_Md_fareOf_222 ?_
              refine tw_aldI (ct := ct) hx hb hK hP hO_0 m_57 rfl ((fun (a_0 : Int32) (a_1 : Int32) (a_2 : Int32) (k_0 : ¬ (a_0 < 0)) (k_1 : ¬ (19 < a_0)) (k_2 : ¬ (a_1 < 0)) (k_3 : ¬ (a_2 ≤ a_1)) (k_4 : ¬ (12 < a_2)) => (show vp_in (((12 * a_0) + a_1)) 240 from by have z0 : (0 : Int32).toInt = 0 := (by decide +kernel); have z1 : (12 : Int32).toInt = 12 := (by decide +kernel); have z2 : (19 : Int32).toInt = 19 := (by decide +kernel); have r0 := fb_rng (a_0); have r1 := fb_rng (a_1); have r2 := fb_rng (a_2); have e0 := k_0; rw [Int32.lt_iff_toInt_lt, z0] at e0; have e1 := k_1; rw [Int32.lt_iff_toInt_lt, z2] at e1; have e2 := k_2; rw [Int32.lt_iff_toInt_lt, z0] at e2; have e3 := k_3; rw [Int32.le_iff_toInt_le] at e3; have e4 := k_4; rw [Int32.lt_iff_toInt_lt, z1] at e4; obtain ⟨n_0, hn_0, s0⟩ := nd_mul (x := (12 : Int32)) (y := (a_0)) (by (try rw [z1]); omega) (by (try rw [z1]); omega); rw [z1] at s0; obtain ⟨n_1, hn_1, s1⟩ := nd_add (x := n_0) (y := (a_1)) (by omega) (by omega); rw [hn_0, hn_1, vp_in_iff]; omega)) p_0 v12_5 x_7 as_0 as_1 iv0_5 c_8 b_7.2) d_Md_fareOf_223 (fun x_58 e_58 b_58 => ?_)
              refine lv_aload_n hx hb d_Md_fareOf_224 rfl (lv_at hl 0 rfl) ?_
              refine tw_getr (D := (dC, dI)) (C := R_Md) (T := F_Md) (N := 64) (ci := 7) (kd := 27) (ct := ct) hx hb htb i_Md hown hK hP hO_0 m0 rfl rfl 38 (by decide) (htb (.fieldLink R_Md 137 "WaterMenModel" "hourHigh" "[I") tw_593) (fun _ h9 => h9) rfl d_Md_fareOf_225 (fun q_59 e_59 m_59 => ?_)
              refine lv_bipush (v := 12) hx hb d_Md_fareOf_228 (by decide +kernel) ?_
              refine lv_iload_n hx hb d_Md_fareOf_230 rfl (lv_at hl 1 rfl) ?_
              refine lv_imul hx hb d_Md_fareOf_231 ?_
              refine lv_iload hx hb d_Md_fareOf_232 (lv_at hl 6 rfl) ?_
              refine lv_iadd hx hb d_Md_fareOf_234 ?_
              refine tw_aldI (ct := ct) hx hb hK hP hO_0 m_59 rfl ((fun (a_0 : Int32) (a_1 : Int32) (a_2 : Int32) (k_0 : ¬ (a_0 < 0)) (k_1 : ¬ (19 < a_0)) (k_2 : ¬ (a_1 < 0)) (k_3 : ¬ (a_2 ≤ a_1)) (k_4 : ¬ (12 < a_2)) => (show vp_in (((12 * a_0) + a_1)) 240 from by have z0 : (0 : Int32).toInt = 0 := (by decide +kernel); have z1 : (12 : Int32).toInt = 12 := (by decide +kernel); have z2 : (19 : Int32).toInt = 19 := (by decide +kernel); have r0 := fb_rng (a_0); have r1 := fb_rng (a_1); have r2 := fb_rng (a_2); have e0 := k_0; rw [Int32.lt_iff_toInt_lt, z0] at e0; have e1 := k_1; rw [Int32.lt_iff_toInt_lt, z2] at e1; have e2 := k_2; rw [Int32.lt_iff_toInt_lt, z0] at e2; have e3 := k_3; rw [Int32.le_iff_toInt_le] at e3; have e4 := k_4; rw [Int32.lt_iff_toInt_lt, z1] at e4; obtain ⟨n_0, hn_0, s0⟩ := nd_mul (x := (12 : Int32)) (y := (a_0)) (by (try rw [z1]); omega) (by (try rw [z1]); omega); rw [z1] at s0; obtain ⟨n_1, hn_1, s1⟩ := nd_add (x := n_0) (y := (a_1)) (by omega) (by omega); rw [hn_0, hn_1, vp_in_iff]; omega)) p_0 v12_5 x_7 as_0 as_1 iv0_5 c_8 b_7.2) d_Md_fareOf_235 (fun x_60 e_60 b_60 => ?_)
              refine vp_callSi (va_Run.run (va_runS (As := [.int p_4, .int x_58, .int x_60]) (rest := []) ⟨hx, hb, hml, hown, htb⟩ (c_Md_in l p_4 x_58 x_60) (cwS 3 htb (gd_S tw_480 tw_481 tw_479 tw_478) rfl rfl rfl (by decide +kernel) ⟨Nat.le_of_ble_eq_true rfl, Nat.le_of_ble_eq_true rfl⟩) ⟨fun _ _ _ _ h => h, fun U _ _ => ⟨rfl, trivial⟩⟩ rfl rfl hl.1 rfl (lv_room (Nat.le_of_ble_eq_true rfl)) d_Md_fareOf_236 ⟨Nat.le_of_ble_eq_true rfl, Nat.le_of_ble_eq_true rfl⟩)) (fun r er => ?_)
              subst er
              by_cases c_62 : p_4 < x_58
              · refine hb_ti 0 (by unfold f_Md_in; rw [if_pos c_62]; first | done | rfl) ?_
                refine lv_if_eq (tgt := 261) hx hb d_Md_fareOf_239 (by decide) (fun _ => ?_) (fun h => absurd (by decide +kernel) h)
                refine lv_iinc (v := (v12_5 + 1)) (lv' := [(12, .int (v12_5 + 1)), (0, .ref q0), (1, .int p_0), (4, .int p_3), (5, .int p_4), (6, .int p_5), (9, .int v9_5)]) hx hb d_Md_fareOf_261 hl (k := 6) rfl rfl (by decide) rfl (fun ls hl => ?_)
                refine lv_goto (tgt := 199) hx hb d_Md_fareOf_264 (by decide) ?_
                exact ih_5 (n_5 - 1) (ms_1 ((fun (a_0 : Int32) (a_1 : Int32) (k_0 : ¬ (a_1 ≤ a_0)) (k_1 : ¬ (12 < a_1)) => (show 1 ≤ (12 : Int32).toInt - (a_0).toInt ∧ (12 : Int32).toInt - ((a_0) + (1 : Int32)).toInt + 1 ≤ (12 : Int32).toInt - (a_0).toInt from by have z0 : (1 : Int32).toInt = 1 := (by decide +kernel); have z1 : (12 : Int32).toInt = 12 := (by decide +kernel); have r0 := fb_rng (a_0); have r1 := fb_rng (a_1); have e0 := k_0; rw [Int32.le_iff_toInt_le] at e0; have e1 := k_1; rw [Int32.lt_iff_toInt_lt, z1] at e1; obtain ⟨n_0, hn_0, s0⟩ := nd_add (x := (a_0)) (y := (1 : Int32)) (by (try rw [z0]); omega) (by (try rw [z0]); omega); rw [z0] at s0; rw [hn_0]; (try rw [z1]); omega)) v12_5 x_7 c_8 b_7.2) hm_5) v9_5 (v12_5 + 1) _ (show ¬ ((v12_5 + 1) < 0) from by have e0 := iv0_5; rw [Int32.lt_iff_toInt_lt] at e0; have e1 := iv1_5; rw [Int32.lt_iff_toInt_lt] at e1; have z0 : (0 : Int32).toInt = 0 := (by decide +kernel); have z1 : (1 : Int32).toInt = 1 := (by decide +kernel); have z2 : (12 : Int32).toInt = 12 := (by decide +kernel); have ss := fb_addI (x := v12_5) (y := 1) (by omega) (by omega); rw [Int32.lt_iff_toInt_lt]; omega) (show ¬ (12 < (v12_5 + 1)) from ((fun (a_0 : Int32) (a_1 : Int32) (k_0 : ¬ (a_1 ≤ a_0)) (k_1 : ¬ (12 < a_1)) => (show ¬ (12 < (a_0 + 1)) from by have z0 : (1 : Int32).toInt = 1 := (by decide +kernel); have z1 : (12 : Int32).toInt = 12 := (by decide +kernel); have r0 := fb_rng (a_0); have r1 := fb_rng (a_1); have e0 := k_0; rw [Int32.le_iff_toInt_le] at e0; have e1 := k_1; rw [Int32.lt_iff_toInt_lt, z1] at e1; obtain ⟨n_0, hn_0, s0⟩ := nd_add (x := (a_0)) (y := (1 : Int32)) (by (try rw [z0]); omega) (by (try rw [z0]); omega); rw [z0] at s0; rw [hn_0, Int32.lt_iff_toInt_lt, z1]; omega)) v12_5 x_7 c_8 b_7.2)) (by exact ms_2 ((fun (a_0 : Int32) (a_1 : Int32) (k_0 : ¬ (a_1 ≤ a_0)) (k_1 : ¬ (12 < a_1)) => (show 1 ≤ (12 : Int32).toInt - (a_0).toInt ∧ (12 : Int32).toInt - ((a_0) + (1 : Int32)).toInt + 1 ≤ (12 : Int32).toInt - (a_0).toInt from by have z0 : (1 : Int32).toInt = 1 := (by decide +kernel); have z1 : (12 : Int32).toInt = 12 := (by decide +kernel); have r0 := fb_rng (a_0); have r1 := fb_rng (a_1); have e0 := k_0; rw [Int32.le_iff_toInt_le] at e0; have e1 := k_1; rw [Int32.lt_iff_toInt_lt, z1] at e1; obtain ⟨n_0, hn_0, s0⟩ := nd_add (x := (a_0)) (y := (1 : Int32)) (by (try rw [z0]); omega) (by (try rw [z0]); omega); rw [z0] at s0; rw [hn_0]; (try rw [z1]); omega)) v12_5 x_7 c_8 b_7.2) hm_5) (lv_sub hl [1, 2, 3, 4, 5, 6, 0] rfl)
              · by_cases c_63 : x_60 < p_4
                · refine hb_ti 0 (by unfold f_Md_in; rw [if_neg c_62, if_pos c_63]; first | done | rfl) ?_
                  refine lv_if_eq (tgt := 261) hx hb d_Md_fareOf_239 (by decide) (fun _ => ?_) (fun h => absurd (by decide +kernel) h)
                  refine lv_iinc (v := (v12_5 + 1)) (lv' := [(12, .int (v12_5 + 1)), (0, .ref q0), (1, .int p_0), (4, .int p_3), (5, .int p_4), (6, .int p_5), (9, .int v9_5)]) hx hb d_Md_fareOf_261 hl (k := 6) rfl rfl (by decide) rfl (fun ls hl => ?_)
                  refine lv_goto (tgt := 199) hx hb d_Md_fareOf_264 (by decide) ?_
                  exact ih_5 (n_5 - 1) (ms_1 ((fun (a_0 : Int32) (a_1 : Int32) (k_0 : ¬ (a_1 ≤ a_0)) (k_1 : ¬ (12 < a_1)) => (show 1 ≤ (12 : Int32).toInt - (a_0).toInt ∧ (12 : Int32).toInt - ((a_0) + (1 : Int32)).toInt + 1 ≤ (12 : Int32).toInt - (a_0).toInt from by have z0 : (1 : Int32).toInt = 1 := (by decide +kernel); have z1 : (12 : Int32).toInt = 12 := (by decide +kernel); have r0 := fb_rng (a_0); have r1 := fb_rng (a_1); have e0 := k_0; rw [Int32.le_iff_toInt_le] at e0; have e1 := k_1; rw [Int32.lt_iff_toInt_lt, z1] at e1; obtain ⟨n_0, hn_0, s0⟩ := nd_add (x := (a_0)) (y := (1 : Int32)) (by (try rw [z0]); omega) (by (try rw [z0]); omega); rw [z0] at s0; rw [hn_0]; (try rw [z1]); omega)) v12_5 x_7 c_8 b_7.2) hm_5) v9_5 (v12_5 + 1) _ (show ¬ ((v12_5 + 1) < 0) from by have e0 := iv0_5; rw [Int32.lt_iff_toInt_lt] at e0; have e1 := iv1_5; rw [Int32.lt_iff_toInt_lt] at e1; have z0 : (0 : Int32).toInt = 0 := (by decide +kernel); have z1 : (1 : Int32).toInt = 1 := (by decide +kernel); have z2 : (12 : Int32).toInt = 12 := (by decide +kernel); have ss := fb_addI (x := v12_5) (y := 1) (by omega) (by omega); rw [Int32.lt_iff_toInt_lt]; omega) (show ¬ (12 < (v12_5 + 1)) from ((fun (a_0 : Int32) (a_1 : Int32) (k_0 : ¬ (a_1 ≤ a_0)) (k_1 : ¬ (12 < a_1)) => (show ¬ (12 < (a_0 + 1)) from by have z0 : (1 : Int32).toInt = 1 := (by decide +kernel); have z1 : (12 : Int32).toInt = 12 := (by decide +kernel); have r0 := fb_rng (a_0); have r1 := fb_rng (a_1); have e0 := k_0; rw [Int32.le_iff_toInt_le] at e0; have e1 := k_1; rw [Int32.lt_iff_toInt_lt, z1] at e1; obtain ⟨n_0, hn_0, s0⟩ := nd_add (x := (a_0)) (y := (1 : Int32)) (by (try rw [z0]); omega) (by (try rw [z0]); omega); rw [z0] at s0; rw [hn_0, Int32.lt_iff_toInt_lt, z1]; omega)) v12_5 x_7 c_8 b_7.2)) (by exact ms_2 ((fun (a_0 : Int32) (a_1 : Int32) (k_0 : ¬ (a_1 ≤ a_0)) (k_1 : ¬ (12 < a_1)) => (show 1 ≤ (12 : Int32).toInt - (a_0).toInt ∧ (12 : Int32).toInt - ((a_0) + (1 : Int32)).toInt + 1 ≤ (12 : Int32).toInt - (a_0).toInt from by have z0 : (1 : Int32).toInt = 1 := (by decide +kernel); have z1 : (12 : Int32).toInt = 12 := (by decide +kernel); have r0 := fb_rng (a_0); have r1 := fb_rng (a_1); have e0 := k_0; rw [Int32.le_iff_toInt_le] at e0; have e1 := k_1; rw [Int32.lt_iff_toInt_lt, z1] at e1; obtain ⟨n_0, hn_0, s0⟩ := nd_add (x := (a_0)) (y := (1 : Int32)) (by (try rw [z0]); omega) (by (try rw [z0]); omega); rw [z0] at s0; rw [hn_0]; (try rw [z1]); omega)) v12_5 x_7 c_8 b_7.2) hm_5) (lv_sub hl [1, 2, 3, 4, 5, 6, 0] rfl)
                · refine hb_ti 1 (by unfold f_Md_in; rw [if_neg c_62, if_neg c_63]; first | done | rfl) ?_
                  refine lv_if_eq (tgt := 261) hx hb d_Md_fareOf_239 (by decide) (fun h => absurd h (by decide +kernel)) (fun _ => ?_)
                  refine lv_iload hx hb d_Md_fareOf_242 (lv_at hl 5 rfl) ?_
                  refine lv_aload_n hx hb d_Md_fareOf_244 rfl (lv_at hl 0 rfl) ?_
                  refine tw_getr (D := (dC, dI)) (C := R_Md) (T := F_Md) (N := 64) (ci := 7) (kd := 27) (ct := ct) hx hb htb i_Md hown hK hP hO_0 m0 rfl rfl 39 (by decide) (htb (.fieldLink R_Md 140 "WaterMenModel" "hourIs" "[I") tw_594) (fun _ h9 => h9) rfl d_Md_fareOf_245 (fun q_64 e_64 m_64 => ?_)
                  refine lv_bipush (v := 12) hx hb d_Md_fareOf_248 (by decide +kernel) ?_
                  refine lv_iload_n hx hb d_Md_fareOf_250 rfl (lv_at hl 1 rfl) ?_
                  refine lv_imul hx hb d_Md_fareOf_251 ?_
                  refine lv_iload hx hb d_Md_fareOf_252 (lv_at hl 6 rfl) ?_
                  refine lv_iadd hx hb d_Md_fareOf_254 ?_
                  refine tw_aldI (ct := ct) hx hb hK hP hO_0 m_64 rfl ((fun (a_0 : Int32) (a_1 : Int32) (a_2 : Int32) (k_0 : ¬ (a_0 < 0)) (k_1 : ¬ (19 < a_0)) (k_2 : ¬ (a_1 < 0)) (k_3 : ¬ (a_2 ≤ a_1)) (k_4 : ¬ (12 < a_2)) => (show vp_in (((12 * a_0) + a_1)) 240 from by have z0 : (0 : Int32).toInt = 0 := (by decide +kernel); have z1 : (12 : Int32).toInt = 12 := (by decide +kernel); have z2 : (19 : Int32).toInt = 19 := (by decide +kernel); have r0 := fb_rng (a_0); have r1 := fb_rng (a_1); have r2 := fb_rng (a_2); have e0 := k_0; rw [Int32.lt_iff_toInt_lt, z0] at e0; have e1 := k_1; rw [Int32.lt_iff_toInt_lt, z2] at e1; have e2 := k_2; rw [Int32.lt_iff_toInt_lt, z0] at e2; have e3 := k_3; rw [Int32.le_iff_toInt_le] at e3; have e4 := k_4; rw [Int32.lt_iff_toInt_lt, z1] at e4; obtain ⟨n_0, hn_0, s0⟩ := nd_mul (x := (12 : Int32)) (y := (a_0)) (by (try rw [z1]); omega) (by (try rw [z1]); omega); rw [z1] at s0; obtain ⟨n_1, hn_1, s1⟩ := nd_add (x := n_0) (y := (a_1)) (by omega) (by omega); rw [hn_0, hn_1, vp_in_iff]; omega)) p_0 v12_5 x_7 as_0 as_1 iv0_5 c_8 b_7.2) d_Md_fareOf_255 (fun x_65 e_65 b_65 => ?_)
                  refine vp_callSi (va_Run.run (va_runS (As := [.int v9_5, .int x_65]) (rest := []) ⟨hx, hb, hml, hown, htb⟩ (c_Md_by_t l dC dI ct L f hO_0 v9_5 x_65) (cwS 2 htb (gd_S tw_618 tw_619 tw_479 tw_617) rfl rfl rfl (by decide +kernel) ⟨Nat.le_of_ble_eq_true rfl, Nat.le_of_ble_eq_true rfl⟩) ⟨pr_blind, pr_pre hP hK hN⟩ rfl rfl hl.1 rfl (lv_room (Nat.le_of_ble_eq_true rfl)) d_Md_fareOf_256 ⟨Nat.le_of_ble_eq_true rfl, Nat.le_of_ble_eq_true rfl⟩)) (fun r_66 er_66 => ?_)
                  clear er_66
                  refine lv_istore (lv' := [(9, .int r_66), (0, .ref q0), (1, .int p_0), (4, .int p_3), (5, .int p_4), (6, .int p_5), (12, .int v12_5)]) hx hb d_Md_fareOf_259 hl (by decide) rfl (fun ls hl => ?_)
                  refine lv_iinc (v := (v12_5 + 1)) (lv' := [(12, .int (v12_5 + 1)), (9, .int r_66), (0, .ref q0), (1, .int p_0), (4, .int p_3), (5, .int p_4), (6, .int p_5)]) hx hb d_Md_fareOf_261 hl (k := 6) rfl rfl (by decide) rfl (fun ls hl => ?_)
                  refine lv_goto (tgt := 199) hx hb d_Md_fareOf_264 (by decide) ?_
                  exact ih_5 (n_5 - 1) (ms_1 ((fun (a_0 : Int32) (a_1 : Int32) (k_0 : ¬ (a_1 ≤ a_0)) (k_1 : ¬ (12 < a_1)) => (show 1 ≤ (12 : Int32).toInt - (a_0).toInt ∧ (12 : Int32).toInt - ((a_0) + (1 : Int32)).toInt + 1 ≤ (12 : Int32).toInt - (a_0).toInt from by have z0 : (1 : Int32).toInt = 1 := (by decide +kernel); have z1 : (12 : Int32).toInt = 12 := (by decide +kernel); have r0 := fb_rng (a_0); have r1 := fb_rng (a_1); have e0 := k_0; rw [Int32.le_iff_toInt_le] at e0; have e1 := k_1; rw [Int32.lt_iff_toInt_lt, z1] at e1; obtain ⟨n_0, hn_0, s0⟩ := nd_add (x := (a_0)) (y := (1 : Int32)) (by (try rw [z0]); omega) (by (try rw [z0]); omega); rw [z0] at s0; rw [hn_0]; (try rw [z1]); omega)) v12_5 x_7 c_8 b_7.2) hm_5) r_66 (v12_5 + 1) _ (show ¬ ((v12_5 + 1) < 0) from by have e0 := iv0_5; rw [Int32.lt_iff_toInt_lt] at e0; have e1 := iv1_5; rw [Int32.lt_iff_toInt_lt] at e1; have z0 : (0 : Int32).toInt = 0 := (by decide +kernel); have z1 : (1 : Int32).toInt = 1 := (by decide +kernel); have z2 : (12 : Int32).toInt = 12 := (by decide +kernel); have ss := fb_addI (x := v12_5) (y := 1) (by omega) (by omega); rw [Int32.lt_iff_toInt_lt]; omega) (show ¬ (12 < (v12_5 + 1)) from ((fun (a_0 : Int32) (a_1 : Int32) (k_0 : ¬ (a_1 ≤ a_0)) (k_1 : ¬ (12 < a_1)) => (show ¬ (12 < (a_0 + 1)) from by have z0 : (1 : Int32).toInt = 1 := (by decide +kernel); have z1 : (12 : Int32).toInt = 12 := (by decide +kernel); have r0 := fb_rng (a_0); have r1 := fb_rng (a_1); have e0 := k_0; rw [Int32.le_iff_toInt_le] at e0; have e1 := k_1; rw [Int32.lt_iff_toInt_lt, z1] at e1; obtain ⟨n_0, hn_0, s0⟩ := nd_add (x := (a_0)) (y := (1 : Int32)) (by (try rw [z0]); omega) (by (try rw [z0]); omega); rw [z0] at s0; rw [hn_0, Int32.lt_iff_toInt_lt, z1]; omega)) v12_5 x_7 c_8 b_7.2)) (by exact ms_2 ((fun (a_0 : Int32) (a_1 : Int32) (k_0 : ¬ (a_1 ≤ a_0)) (k_1 : ¬ (12 < a_1)) => (show 1 ≤ (12 : Int32).toInt - (a_0).toInt ∧ (12 : Int32).toInt - ((a_0) + (1 : Int32)).toInt + 1 ≤ (12 : Int32).toInt - (a_0).toInt from by have z0 : (1 : Int32).toInt = 1 := (by decide +kernel); have z1 : (12 : Int32).toInt = 12 := (by decide +kernel); have r0 := fb_rng (a_0); have r1 := fb_rng (a_1); have e0 := k_0; rw [Int32.le_iff_toInt_le] at e0; have e1 := k_1; rw [Int32.lt_iff_toInt_lt, z1] at e1; obtain ⟨n_0, hn_0, s0⟩ := nd_add (x := (a_0)) (y := (1 : Int32)) (by (try rw [z0]); omega) (by (try rw [z0]); omega); rw [z0] at s0; rw [hn_0]; (try rw [z1]); omega)) v12_5 x_7 c_8 b_7.2) hm_5) (lv_sub hl [2, 3, 4, 5, 6, 1, 0] rfl)
        refine lv_iload hx hb d_Md_fareOf_116 (lv_at hl 7 rfl) ?_
        refine lv_if_ge (tgt := 124) hx hb d_Md_fareOf_118 (by decide) (fun c_67 => ?_) (fun c_67 => ?_)
        · refine lv_aload_n hx hb d_Md_fareOf_124 rfl (lv_at hl 0 rfl) ?_
          refine lv_iload hx hb d_Md_fareOf_125 (lv_at hl 2 rfl) ?_
          refine lv_iload hx hb d_Md_fareOf_127 (lv_at hl 3 rfl) ?_
          refine vp_callSi (va_Run.run (va_runV (As := [.int p_3, .int p_4]) (rest := []) ⟨hx, hb, hml, hown, htb⟩ (c_Md_flowOf_t l dC dI ct L f hO_0 q0 m0 p_3 p_4 as_6 as_7 as_8 as_9) (cwV 2 htb (gd_V tw_495 tw_496 tw_497 tw_479 tw_494) rfl rfl rfl (by decide +kernel) ⟨Nat.le_of_ble_eq_true rfl, Nat.le_of_ble_eq_true rfl⟩) ⟨pr_blind, tw_recv hK hP m0 rfl rfl, pr_pre hP hK hN⟩ rfl rfl hl.1 rfl (lv_room (Nat.le_of_ble_eq_true rfl)) d_Md_fareOf_129 ⟨Nat.le_of_ble_eq_true rfl, Nat.le_of_ble_eq_true rfl⟩)) (fun r_68 er_68 => ?_)
          clear er_68
          refine lv_istore (lv' := [(10, .int r_68), (0, .ref q0), (1, .int p_0), (4, .int p_3), (5, .int p_4), (6, .int p_5), (7, .int v7_1), (8, .int v8_1), (9, .int v9_1)]) hx hb d_Md_fareOf_132 hl (by decide) rfl (fun ls hl => ?_)
          refine lv_iload hx hb d_Md_fareOf_134 (lv_at hl 0 rfl) ?_
          refine lv_if_ne (tgt := 143) hx hb d_Md_fareOf_136 (by decide) (fun c_69 => ?_) (fun c_69 => ?_)
          · refine lv_iload hx hb d_Md_fareOf_143 (lv_at hl 0 rfl) ?_
            refine lv_if_le (tgt := 152) hx hb d_Md_fareOf_145 (by decide) (fun c_70 => ?_) (fun c_70 => ?_)
            · refine lv_iconst (v := 0) hx hb d_Md_fareOf_152 (by decide +kernel) ?_
              refine lv_iload hx hb d_Md_fareOf_153 (lv_at hl 7 rfl) ?_
              refine lv_icmp_ne (tgt := 163) hx hb d_Md_fareOf_155 (by decide) (fun c_71 => ?_) (fun c_71 => ?_)
              · refine lv_bipush (v := 13) hx hb d_Md_fareOf_163 (by decide +kernel) ?_
                refine lv_istore (lv' := [(11, .int 13), (10, .int r_68), (0, .ref q0), (1, .int p_0), (4, .int p_3), (5, .int p_4), (6, .int p_5), (7, .int v7_1), (8, .int v8_1), (9, .int v9_1)]) hx hb d_Md_fareOf_165 hl (by decide) rfl (fun ls hl => ?_)
                refine lv_iload hx hb d_Md_fareOf_167 (lv_at hl 0 rfl) ?_
                refine lv_if_le (tgt := 196) hx hb d_Md_fareOf_169 (by decide) (fun h => absurd h (by decide +kernel)) (fun _ => ?_)
                refine lv_aload_n hx hb d_Md_fareOf_172 rfl (lv_at hl 2 rfl) ?_
                refine lv_iload_n hx hb d_Md_fareOf_173 rfl (lv_at hl 3 rfl) ?_
                refine lv_iload hx hb d_Md_fareOf_174 (lv_at hl 0 rfl) ?_
                refine vp_callSi (va_Run.run (va_runV (As := [.int p_0, .int 13]) (rest := []) ⟨hx, hb, hml, hown, htb⟩ (c_Md_lineOf_t l dC dI ct L f hO_0 q0 m0 p_0 (13 : Int32) as_0 as_1 (by decide +kernel) (by decide +kernel)) (cwV 2 htb (gd_V tw_611 tw_612 tw_613 tw_479 tw_610) rfl rfl rfl (by decide +kernel) ⟨Nat.le_of_ble_eq_true rfl, Nat.le_of_ble_eq_true rfl⟩) ⟨pr_blind, tw_recv hK hP m0 rfl rfl, pr_pre hP hK hN⟩ rfl rfl hl.1 rfl (lv_room (Nat.le_of_ble_eq_true rfl)) d_Md_fareOf_176 ⟨Nat.le_of_ble_eq_true rfl, Nat.le_of_ble_eq_true rfl⟩)) (fun r_72 er_72 => ?_)
                clear er_72
                refine lv_if_lt (tgt := 196) hx hb d_Md_fareOf_179 (by decide) (fun c_73 => ?_) (fun c_73 => ?_)
                · refine lv_iconst (v := 0) hx hb d_Md_fareOf_196 (by decide +kernel) ?_
                  refine lv_istore (lv' := [(12, .int 0), (11, .int 13), (10, .int r_68), (0, .ref q0), (1, .int p_0), (4, .int p_3), (5, .int p_4), (6, .int p_5), (7, .int v7_1), (8, .int v8_1), (9, .int v9_1)]) hx hb d_Md_fareOf_197 hl (by decide) rfl (fun ls hl => ?_)
                  exact cut_5 4294967296 v9_1 (0 : Int32) _ (by decide +kernel) (by decide +kernel) (by exact ms_0 _ _) (lv_sub hl [3, 4, 5, 6, 7, 10, 0] rfl)
                · refine lv_iload hx hb d_Md_fareOf_182 (lv_at hl 9 rfl) ?_
                  refine lv_aload_n hx hb d_Md_fareOf_184 rfl (lv_at hl 2 rfl) ?_
                  refine lv_iload_n hx hb d_Md_fareOf_185 rfl (lv_at hl 3 rfl) ?_
                  refine lv_iload hx hb d_Md_fareOf_186 (lv_at hl 0 rfl) ?_
                  refine vp_callSi (va_Run.run (va_runV (As := [.int p_0, .int 13]) (rest := [.int v9_1]) ⟨hx, hb, hml, hown, htb⟩ (c_Md_lineOf_t l dC dI ct L f hO_0 q0 m0 p_0 (13 : Int32) as_0 as_1 (by decide +kernel) (by decide +kernel)) (cwV 2 htb (gd_V tw_611 tw_612 tw_613 tw_479 tw_610) rfl rfl rfl (by decide +kernel) ⟨Nat.le_of_ble_eq_true rfl, Nat.le_of_ble_eq_true rfl⟩) ⟨pr_blind, tw_recv hK hP m0 rfl rfl, pr_pre hP hK hN⟩ rfl rfl hl.1 rfl (lv_room (Nat.le_of_ble_eq_true rfl)) d_Md_fareOf_188 ⟨Nat.le_of_ble_eq_true rfl, Nat.le_of_ble_eq_true rfl⟩)) (fun r_74 er_74 => ?_)
                  clear er_74
                  refine vp_callSi (va_Run.run (va_runS (As := [.int v9_1, .int r_74]) (rest := []) ⟨hx, hb, hml, hown, htb⟩ (c_Md_by_t l dC dI ct L f hO_0 v9_1 r_74) (cwS 2 htb (gd_S tw_618 tw_619 tw_479 tw_617) rfl rfl rfl (by decide +kernel) ⟨Nat.le_of_ble_eq_true rfl, Nat.le_of_ble_eq_true rfl⟩) ⟨pr_blind, pr_pre hP hK hN⟩ rfl rfl hl.1 rfl (lv_room (Nat.le_of_ble_eq_true rfl)) d_Md_fareOf_191 ⟨Nat.le_of_ble_eq_true rfl, Nat.le_of_ble_eq_true rfl⟩)) (fun r_75 er_75 => ?_)
                  clear er_75
                  refine lv_istore (lv' := [(9, .int r_75), (11, .int 13), (10, .int r_68), (0, .ref q0), (1, .int p_0), (4, .int p_3), (5, .int p_4), (6, .int p_5), (7, .int v7_1), (8, .int v8_1)]) hx hb d_Md_fareOf_194 hl (by decide) rfl (fun ls hl => ?_)
                  refine lv_iconst (v := 0) hx hb d_Md_fareOf_196 (by decide +kernel) ?_
                  refine lv_istore (lv' := [(12, .int 0), (9, .int r_75), (11, .int 13), (10, .int r_68), (0, .ref q0), (1, .int p_0), (4, .int p_3), (5, .int p_4), (6, .int p_5), (7, .int v7_1), (8, .int v8_1)]) hx hb d_Md_fareOf_197 hl (by decide) rfl (fun ls hl => ?_)
                  exact cut_5 4294967296 r_75 (0 : Int32) _ (by decide +kernel) (by decide +kernel) (by exact ms_0 _ _) (lv_sub hl [4, 5, 6, 7, 8, 1, 0] rfl)
              · refine lv_bipush (v := 12) hx hb d_Md_fareOf_158 (by decide +kernel) ?_
                refine lv_goto (tgt := 165) hx hb d_Md_fareOf_160 (by decide) ?_
                refine lv_istore (lv' := [(11, .int 12), (10, .int r_68), (0, .ref q0), (1, .int p_0), (4, .int p_3), (5, .int p_4), (6, .int p_5), (7, .int v7_1), (8, .int v8_1), (9, .int v9_1)]) hx hb d_Md_fareOf_165 hl (by decide) rfl (fun ls hl => ?_)
                refine lv_iload hx hb d_Md_fareOf_167 (lv_at hl 0 rfl) ?_
                refine lv_if_le (tgt := 196) hx hb d_Md_fareOf_169 (by decide) (fun h => absurd h (by decide +kernel)) (fun _ => ?_)
                refine lv_aload_n hx hb d_Md_fareOf_172 rfl (lv_at hl 2 rfl) ?_
                refine lv_iload_n hx hb d_Md_fareOf_173 rfl (lv_at hl 3 rfl) ?_
                refine lv_iload hx hb d_Md_fareOf_174 (lv_at hl 0 rfl) ?_
                refine vp_callSi (va_Run.run (va_runV (As := [.int p_0, .int 12]) (rest := []) ⟨hx, hb, hml, hown, htb⟩ (c_Md_lineOf_t l dC dI ct L f hO_0 q0 m0 p_0 (12 : Int32) as_0 as_1 (by decide +kernel) (by decide +kernel)) (cwV 2 htb (gd_V tw_611 tw_612 tw_613 tw_479 tw_610) rfl rfl rfl (by decide +kernel) ⟨Nat.le_of_ble_eq_true rfl, Nat.le_of_ble_eq_true rfl⟩) ⟨pr_blind, tw_recv hK hP m0 rfl rfl, pr_pre hP hK hN⟩ rfl rfl hl.1 rfl (lv_room (Nat.le_of_ble_eq_true rfl)) d_Md_fareOf_176 ⟨Nat.le_of_ble_eq_true rfl, Nat.le_of_ble_eq_true rfl⟩)) (fun r_76 er_76 => ?_)
                clear er_76
                refine lv_if_lt (tgt := 196) hx hb d_Md_fareOf_179 (by decide) (fun c_77 => ?_) (fun c_77 => ?_)
                · refine lv_iconst (v := 0) hx hb d_Md_fareOf_196 (by decide +kernel) ?_
                  refine lv_istore (lv' := [(12, .int 0), (11, .int 12), (10, .int r_68), (0, .ref q0), (1, .int p_0), (4, .int p_3), (5, .int p_4), (6, .int p_5), (7, .int v7_1), (8, .int v8_1), (9, .int v9_1)]) hx hb d_Md_fareOf_197 hl (by decide) rfl (fun ls hl => ?_)
                  exact cut_5 4294967296 v9_1 (0 : Int32) _ (by decide +kernel) (by decide +kernel) (by exact ms_0 _ _) (lv_sub hl [3, 4, 5, 6, 7, 10, 0] rfl)
                · refine lv_iload hx hb d_Md_fareOf_182 (lv_at hl 9 rfl) ?_
                  refine lv_aload_n hx hb d_Md_fareOf_184 rfl (lv_at hl 2 rfl) ?_
                  refine lv_iload_n hx hb d_Md_fareOf_185 rfl (lv_at hl 3 rfl) ?_
                  refine lv_iload hx hb d_Md_fareOf_186 (lv_at hl 0 rfl) ?_
                  refine vp_callSi (va_Run.run (va_runV (As := [.int p_0, .int 12]) (rest := [.int v9_1]) ⟨hx, hb, hml, hown, htb⟩ (c_Md_lineOf_t l dC dI ct L f hO_0 q0 m0 p_0 (12 : Int32) as_0 as_1 (by decide +kernel) (by decide +kernel)) (cwV 2 htb (gd_V tw_611 tw_612 tw_613 tw_479 tw_610) rfl rfl rfl (by decide +kernel) ⟨Nat.le_of_ble_eq_true rfl, Nat.le_of_ble_eq_true rfl⟩) ⟨pr_blind, tw_recv hK hP m0 rfl rfl, pr_pre hP hK hN⟩ rfl rfl hl.1 rfl (lv_room (Nat.le_of_ble_eq_true rfl)) d_Md_fareOf_188 ⟨Nat.le_of_ble_eq_true rfl, Nat.le_of_ble_eq_true rfl⟩)) (fun r_78 er_78 => ?_)
                  clear er_78
                  refine vp_callSi (va_Run.run (va_runS (As := [.int v9_1, .int r_78]) (rest := []) ⟨hx, hb, hml, hown, htb⟩ (c_Md_by_t l dC dI ct L f hO_0 v9_1 r_78) (cwS 2 htb (gd_S tw_618 tw_619 tw_479 tw_617) rfl rfl rfl (by decide +kernel) ⟨Nat.le_of_ble_eq_true rfl, Nat.le_of_ble_eq_true rfl⟩) ⟨pr_blind, pr_pre hP hK hN⟩ rfl rfl hl.1 rfl (lv_room (Nat.le_of_ble_eq_true rfl)) d_Md_fareOf_191 ⟨Nat.le_of_ble_eq_true rfl, Nat.le_of_ble_eq_true rfl⟩)) (fun r_79 er_79 => ?_)
                  clear er_79
                  refine lv_istore (lv' := [(9, .int r_79), (11, .int 12), (10, .int r_68), (0, .ref q0), (1, .int p_0), (4, .int p_3), (5, .int p_4), (6, .int p_5), (7, .int v7_1), (8, .int v8_1)]) hx hb d_Md_fareOf_194 hl (by decide) rfl (fun ls hl => ?_)
                  refine lv_iconst (v := 0) hx hb d_Md_fareOf_196 (by decide +kernel) ?_
                  refine lv_istore (lv' := [(12, .int 0), (9, .int r_79), (11, .int 12), (10, .int r_68), (0, .ref q0), (1, .int p_0), (4, .int p_3), (5, .int p_4), (6, .int p_5), (7, .int v7_1), (8, .int v8_1)]) hx hb d_Md_fareOf_197 hl (by decide) rfl (fun ls hl => ?_)
                  exact cut_5 4294967296 r_79 (0 : Int32) _ (by decide +kernel) (by decide +kernel) (by exact ms_0 _ _) (lv_sub hl [4, 5, 6, 7, 8, 1, 0] rfl)
            · refine lv_iconst (v := 1) hx hb d_Md_fareOf_148 (by decide +kernel) ?_
              refine lv_goto (tgt := 153) hx hb d_Md_fareOf_149 (by decide) ?_
              refine lv_iload hx hb d_Md_fareOf_153 (lv_at hl 7 rfl) ?_
              refine lv_icmp_ne (tgt := 163) hx hb d_Md_fareOf_155 (by decide) (fun c_80 => ?_) (fun c_80 => ?_)
              · refine lv_bipush (v := 13) hx hb d_Md_fareOf_163 (by decide +kernel) ?_
                refine lv_istore (lv' := [(11, .int 13), (10, .int r_68), (0, .ref q0), (1, .int p_0), (4, .int p_3), (5, .int p_4), (6, .int p_5), (7, .int v7_1), (8, .int v8_1), (9, .int v9_1)]) hx hb d_Md_fareOf_165 hl (by decide) rfl (fun ls hl => ?_)
                refine lv_iload hx hb d_Md_fareOf_167 (lv_at hl 0 rfl) ?_
                refine lv_if_le (tgt := 196) hx hb d_Md_fareOf_169 (by decide) (fun h => absurd h (by decide +kernel)) (fun _ => ?_)
                refine lv_aload_n hx hb d_Md_fareOf_172 rfl (lv_at hl 2 rfl) ?_
                refine lv_iload_n hx hb d_Md_fareOf_173 rfl (lv_at hl 3 rfl) ?_
                refine lv_iload hx hb d_Md_fareOf_174 (lv_at hl 0 rfl) ?_
                refine vp_callSi (va_Run.run (va_runV (As := [.int p_0, .int 13]) (rest := []) ⟨hx, hb, hml, hown, htb⟩ (c_Md_lineOf_t l dC dI ct L f hO_0 q0 m0 p_0 (13 : Int32) as_0 as_1 (by decide +kernel) (by decide +kernel)) (cwV 2 htb (gd_V tw_611 tw_612 tw_613 tw_479 tw_610) rfl rfl rfl (by decide +kernel) ⟨Nat.le_of_ble_eq_true rfl, Nat.le_of_ble_eq_true rfl⟩) ⟨pr_blind, tw_recv hK hP m0 rfl rfl, pr_pre hP hK hN⟩ rfl rfl hl.1 rfl (lv_room (Nat.le_of_ble_eq_true rfl)) d_Md_fareOf_176 ⟨Nat.le_of_ble_eq_true rfl, Nat.le_of_ble_eq_true rfl⟩)) (fun r_81 er_81 => ?_)
                clear er_81
                refine lv_if_lt (tgt := 196) hx hb d_Md_fareOf_179 (by decide) (fun c_82 => ?_) (fun c_82 => ?_)
                · refine lv_iconst (v := 0) hx hb d_Md_fareOf_196 (by decide +kernel) ?_
                  refine lv_istore (lv' := [(12, .int 0), (11, .int 13), (10, .int r_68), (0, .ref q0), (1, .int p_0), (4, .int p_3), (5, .int p_4), (6, .int p_5), (7, .int v7_1), (8, .int v8_1), (9, .int v9_1)]) hx hb d_Md_fareOf_197 hl (by decide) rfl (fun ls hl => ?_)
                  exact cut_5 4294967296 v9_1 (0 : Int32) _ (by decide +kernel) (by decide +kernel) (by exact ms_0 _ _) (lv_sub hl [3, 4, 5, 6, 7, 10, 0] rfl)
                · refine lv_iload hx hb d_Md_fareOf_182 (lv_at hl 9 rfl) ?_
                  refine lv_aload_n hx hb d_Md_fareOf_184 rfl (lv_at hl 2 rfl) ?_
                  refine lv_iload_n hx hb d_Md_fareOf_185 rfl (lv_at hl 3 rfl) ?_
                  refine lv_iload hx hb d_Md_fareOf_186 (lv_at hl 0 rfl) ?_
                  refine vp_callSi (va_Run.run (va_runV (As := [.int p_0, .int 13]) (rest := [.int v9_1]) ⟨hx, hb, hml, hown, htb⟩ (c_Md_lineOf_t l dC dI ct L f hO_0 q0 m0 p_0 (13 : Int32) as_0 as_1 (by decide +kernel) (by decide +kernel)) (cwV 2 htb (gd_V tw_611 tw_612 tw_613 tw_479 tw_610) rfl rfl rfl (by decide +kernel) ⟨Nat.le_of_ble_eq_true rfl, Nat.le_of_ble_eq_true rfl⟩) ⟨pr_blind, tw_recv hK hP m0 rfl rfl, pr_pre hP hK hN⟩ rfl rfl hl.1 rfl (lv_room (Nat.le_of_ble_eq_true rfl)) d_Md_fareOf_188 ⟨Nat.le_of_ble_eq_true rfl, Nat.le_of_ble_eq_true rfl⟩)) (fun r_83 er_83 => ?_)
                  clear er_83
                  refine vp_callSi (va_Run.run (va_runS (As := [.int v9_1, .int r_83]) (rest := []) ⟨hx, hb, hml, hown, htb⟩ (c_Md_by_t l dC dI ct L f hO_0 v9_1 r_83) (cwS 2 htb (gd_S tw_618 tw_619 tw_479 tw_617) rfl rfl rfl (by decide +kernel) ⟨Nat.le_of_ble_eq_true rfl, Nat.le_of_ble_eq_true rfl⟩) ⟨pr_blind, pr_pre hP hK hN⟩ rfl rfl hl.1 rfl (lv_room (Nat.le_of_ble_eq_true rfl)) d_Md_fareOf_191 ⟨Nat.le_of_ble_eq_true rfl, Nat.le_of_ble_eq_true rfl⟩)) (fun r_84 er_84 => ?_)
                  clear er_84
                  refine lv_istore (lv' := [(9, .int r_84), (11, .int 13), (10, .int r_68), (0, .ref q0), (1, .int p_0), (4, .int p_3), (5, .int p_4), (6, .int p_5), (7, .int v7_1), (8, .int v8_1)]) hx hb d_Md_fareOf_194 hl (by decide) rfl (fun ls hl => ?_)
                  refine lv_iconst (v := 0) hx hb d_Md_fareOf_196 (by decide +kernel) ?_
                  refine lv_istore (lv' := [(12, .int 0), (9, .int r_84), (11, .int 13), (10, .int r_68), (0, .ref q0), (1, .int p_0), (4, .int p_3), (5, .int p_4), (6, .int p_5), (7, .int v7_1), (8, .int v8_1)]) hx hb d_Md_fareOf_197 hl (by decide) rfl (fun ls hl => ?_)
                  exact cut_5 4294967296 r_84 (0 : Int32) _ (by decide +kernel) (by decide +kernel) (by exact ms_0 _ _) (lv_sub hl [4, 5, 6, 7, 8, 1, 0] rfl)
              · refine lv_bipush (v := 12) hx hb d_Md_fareOf_158 (by decide +kernel) ?_
                refine lv_goto (tgt := 165) hx hb d_Md_fareOf_160 (by decide) ?_
                refine lv_istore (lv' := [(11, .int 12), (10, .int r_68), (0, .ref q0), (1, .int p_0), (4, .int p_3), (5, .int p_4), (6, .int p_5), (7, .int v7_1), (8, .int v8_1), (9, .int v9_1)]) hx hb d_Md_fareOf_165 hl (by decide) rfl (fun ls hl => ?_)
                refine lv_iload hx hb d_Md_fareOf_167 (lv_at hl 0 rfl) ?_
                refine lv_if_le (tgt := 196) hx hb d_Md_fareOf_169 (by decide) (fun h => absurd h (by decide +kernel)) (fun _ => ?_)
                refine lv_aload_n hx hb d_Md_fareOf_172 rfl (lv_at hl 2 rfl) ?_
                refine lv_iload_n hx hb d_Md_fareOf_173 rfl (lv_at hl 3 rfl) ?_
                refine lv_iload hx hb d_Md_fareOf_174 (lv_at hl 0 rfl) ?_
                refine vp_callSi (va_Run.run (va_runV (As := [.int p_0, .int 12]) (rest := []) ⟨hx, hb, hml, hown, htb⟩ (c_Md_lineOf_t l dC dI ct L f hO_0 q0 m0 p_0 (12 : Int32) as_0 as_1 (by decide +kernel) (by decide +kernel)) (cwV 2 htb (gd_V tw_611 tw_612 tw_613 tw_479 tw_610) rfl rfl rfl (by decide +kernel) ⟨Nat.le_of_ble_eq_true rfl, Nat.le_of_ble_eq_true rfl⟩) ⟨pr_blind, tw_recv hK hP m0 rfl rfl, pr_pre hP hK hN⟩ rfl rfl hl.1 rfl (lv_room (Nat.le_of_ble_eq_true rfl)) d_Md_fareOf_176 ⟨Nat.le_of_ble_eq_true rfl, Nat.le_of_ble_eq_true rfl⟩)) (fun r_85 er_85 => ?_)
                clear er_85
                refine lv_if_lt (tgt := 196) hx hb d_Md_fareOf_179 (by decide) (fun c_86 => ?_) (fun c_86 => ?_)
                · refine lv_iconst (v := 0) hx hb d_Md_fareOf_196 (by decide +kernel) ?_
                  refine lv_istore (lv' := [(12, .int 0), (11, .int 12), (10, .int r_68), (0, .ref q0), (1, .int p_0), (4, .int p_3), (5, .int p_4), (6, .int p_5), (7, .int v7_1), (8, .int v8_1), (9, .int v9_1)]) hx hb d_Md_fareOf_197 hl (by decide) rfl (fun ls hl => ?_)
                  exact cut_5 4294967296 v9_1 (0 : Int32) _ (by decide +kernel) (by decide +kernel) (by exact ms_0 _ _) (lv_sub hl [3, 4, 5, 6, 7, 10, 0] rfl)
                · refine lv_iload hx hb d_Md_fareOf_182 (lv_at hl 9 rfl) ?_
                  refine lv_aload_n hx hb d_Md_fareOf_184 rfl (lv_at hl 2 rfl) ?_
                  refine lv_iload_n hx hb d_Md_fareOf_185 rfl (lv_at hl 3 rfl) ?_
                  refine lv_iload hx hb d_Md_fareOf_186 (lv_at hl 0 rfl) ?_
                  refine vp_callSi (va_Run.run (va_runV (As := [.int p_0, .int 12]) (rest := [.int v9_1]) ⟨hx, hb, hml, hown, htb⟩ (c_Md_lineOf_t l dC dI ct L f hO_0 q0 m0 p_0 (12 : Int32) as_0 as_1 (by decide +kernel) (by decide +kernel)) (cwV 2 htb (gd_V tw_611 tw_612 tw_613 tw_479 tw_610) rfl rfl rfl (by decide +kernel) ⟨Nat.le_of_ble_eq_true rfl, Nat.le_of_ble_eq_true rfl⟩) ⟨pr_blind, tw_recv hK hP m0 rfl rfl, pr_pre hP hK hN⟩ rfl rfl hl.1 rfl (lv_room (Nat.le_of_ble_eq_true rfl)) d_Md_fareOf_188 ⟨Nat.le_of_ble_eq_true rfl, Nat.le_of_ble_eq_true rfl⟩)) (fun r_87 er_87 => ?_)
                  clear er_87
                  refine vp_callSi (va_Run.run (va_runS (As := [.int v9_1, .int r_87]) (rest := []) ⟨hx, hb, hml, hown, htb⟩ (c_Md_by_t l dC dI ct L f hO_0 v9_1 r_87) (cwS 2 htb (gd_S tw_618 tw_619 tw_479 tw_617) rfl rfl rfl (by decide +kernel) ⟨Nat.le_of_ble_eq_true rfl, Nat.le_of_ble_eq_true rfl⟩) ⟨pr_blind, pr_pre hP hK hN⟩ rfl rfl hl.1 rfl (lv_room (Nat.le_of_ble_eq_true rfl)) d_Md_fareOf_191 ⟨Nat.le_of_ble_eq_true rfl, Nat.le_of_ble_eq_true rfl⟩)) (fun r_88 er_88 => ?_)
                  clear er_88
                  refine lv_istore (lv' := [(9, .int r_88), (11, .int 12), (10, .int r_68), (0, .ref q0), (1, .int p_0), (4, .int p_3), (5, .int p_4), (6, .int p_5), (7, .int v7_1), (8, .int v8_1)]) hx hb d_Md_fareOf_194 hl (by decide) rfl (fun ls hl => ?_)
                  refine lv_iconst (v := 0) hx hb d_Md_fareOf_196 (by decide +kernel) ?_
                  refine lv_istore (lv' := [(12, .int 0), (9, .int r_88), (11, .int 12), (10, .int r_68), (0, .ref q0), (1, .int p_0), (4, .int p_3), (5, .int p_4), (6, .int p_5), (7, .int v7_1), (8, .int v8_1)]) hx hb d_Md_fareOf_197 hl (by decide) rfl (fun ls hl => ?_)
                  exact cut_5 4294967296 r_88 (0 : Int32) _ (by decide +kernel) (by decide +kernel) (by exact ms_0 _ _) (lv_sub hl [4, 5, 6, 7, 8, 1, 0] rfl)
          · refine lv_iconst (v := 0) hx hb d_Md_fareOf_139 (by decide +kernel) ?_
            refine lv_goto (tgt := 165) hx hb d_Md_fareOf_140 (by decide) ?_
            refine lv_istore (lv' := [(11, .int 0), (10, .int r_68), (0, .ref q0), (1, .int p_0), (4, .int p_3), (5, .int p_4), (6, .int p_5), (7, .int v7_1), (8, .int v8_1), (9, .int v9_1)]) hx hb d_Md_fareOf_165 hl (by decide) rfl (fun ls hl => ?_)
            refine lv_iload hx hb d_Md_fareOf_167 (lv_at hl 0 rfl) ?_
            refine lv_if_le (tgt := 196) hx hb d_Md_fareOf_169 (by decide) (fun _ => ?_) (fun h => absurd (by decide +kernel) h)
            refine lv_iconst (v := 0) hx hb d_Md_fareOf_196 (by decide +kernel) ?_
            refine lv_istore (lv' := [(12, .int 0), (11, .int 0), (10, .int r_68), (0, .ref q0), (1, .int p_0), (4, .int p_3), (5, .int p_4), (6, .int p_5), (7, .int v7_1), (8, .int v8_1), (9, .int v9_1)]) hx hb d_Md_fareOf_197 hl (by decide) rfl (fun ls hl => ?_)
            exact cut_5 4294967296 v9_1 (0 : Int32) _ (by decide +kernel) (by decide +kernel) (by exact ms_0 _ _) (lv_sub hl [3, 4, 5, 6, 7, 10, 0] rfl)
        · refine lv_bipush (v := (-2)) hx hb d_Md_fareOf_121 (by decide +kernel) ?_
          exact W.iret (v := (-2)) hx hb hr (fun t ht hW => ⟨(-2), rfl, trivial, ht⟩) t_nil d_Md_fareOf_123
      · refine lv_iload hx hb d_Md_fareOf_59 (lv_at hl 7 rfl) ?_
        refine lv_if_ge (tgt := 116) hx hb d_Md_fareOf_61 (by decide) (fun c_89 => ?_) (fun c_89 => ?_)
        · have cut_90 : ∀ (n_90 : Nat) (v9_90 v12_90 : Int32) (ls : Array Slot), ¬ (v12_90 < 0) → ¬ (12 < v12_90) → (12 : Int32).toInt - (v12_90 : Int32).toInt ≤ (n_90 : Int) → lv_has ls 13 [(0, .ref q0), (1, .int p_0), (4, .int p_3), (5, .int p_4), (6, .int p_5), (9, .int v9_90), (12, .int v12_90)] → W p l e (headSpec (.code y_Md_fareOf b_Md_fareOf 13 (some .int) :: TB) ({ frames := 2, cells := 0, slots := 0, locals := 44 })).room s m [.ref q0, .int p_0, .int p_1, .int p_2, .int p_3, .int p_4, .int p_5].toArray below meth c s.heap [] 0 0 (MQ below (vp_Si (fun r => True)) [.ref q0, .int p_0, .int p_1, .int p_2, .int p_3, .int p_4, .int p_5].toArray s 0 0 (fun _ => False)) (F0 m 199 ls []) := by
            intro n_90
            induction n_90 using Nat.strongRecOn with
            | _ n_90 ih_90 =>
              intro v9_90 v12_90 ls iv0_90 iv1_90 hm_90 hl
              refine lv_iload hx hb d_Md_fareOf_199 (lv_at hl 6 rfl) ?_
              refine lv_aload_n hx hb d_Md_fareOf_201 rfl (lv_at hl 0 rfl) ?_
              refine tw_getr (D := (dC, dI)) (C := R_Md) (T := F_Md) (N := 64) (ci := 7) (kd := 27) (ct := ct) hx hb htb i_Md hown hK hP hO_0 m0 rfl rfl 36 (by decide) (htb (.fieldLink R_Md 131 "WaterMenModel" "hours" "[I") tw_591) (fun _ h9 => h9) rfl d_Md_fareOf_202 (fun q_91 e_91 m_91 => ?_)
              refine lv_iload_n hx hb d_Md_fareOf_205 rfl (lv_at hl 1 rfl) ?_
              refine tw_aldI (ct := ct) hx hb hK hP hO_0 m_91 rfl (hb_inl as_0 as_1 (by decide +kernel)) d_Md_fareOf_206 (fun x_92 e_92 b_92 => ?_)
              refine lv_icmp_ge (tgt := 267) hx hb d_Md_fareOf_207 (by decide) (fun c_93 => ?_) (fun c_93 => ?_)
              · refine lv_iload hx hb d_Md_fareOf_267 (lv_at hl 2 rfl) ?_
                refine lv_bipush (v := 7) hx hb d_Md_fareOf_269 (by decide +kernel) ?_
                refine lv_irem hx hb d_Md_fareOf_271 (by decide) ?_
                refine hb_remn (c := 7) (C1 := 6) (K := 2147483640) (by decide +kernel) (by decide +kernel) (by decide +kernel) as_6 (show ¬ (2147483640 < p_3) from by have e0 := as_6; rw [Int32.lt_iff_toInt_lt] at e0; have e1 := as_7; rw [Int32.lt_iff_toInt_lt] at e1; have z0 : (0 : Int32).toInt = 0 := (by decide +kernel); have z1 : (499 : Int32).toInt = 499 := (by decide +kernel); have z2 : (2147483640 : Int32).toInt = 2147483640 := (by decide +kernel); rw [Int32.lt_iff_toInt_lt]; omega) (fun y_94 qu_94 g1_94 g2_94 g3_94 g4_94 g5_94 g9_94 => ?_)
                refine lv_if_ne (tgt := 299) hx hb d_Md_fareOf_272 (by decide) (fun c_95 => ?_) (fun c_95 => ?_)
                · refine lv_iload hx hb d_Md_fareOf_299 (lv_at hl 4 rfl) ?_
                  refine lv_iconst (v := 2) hx hb d_Md_fareOf_301 (by decide +kernel) ?_
                  refine lv_icmp_ne (tgt := 329) hx hb d_Md_fareOf_302 (by decide) (fun c_96 => ?_) (fun c_96 => ?_)
                  · refine lv_aload_n hx hb d_Md_fareOf_329 rfl (lv_at hl 0 rfl) ?_
                    refine lv_iload_n hx hb d_Md_fareOf_330 rfl (lv_at hl 1 rfl) ?_
                    refine lv_bipush (v := 15) hx hb d_Md_fareOf_331 (by decide +kernel) ?_
                    refine vp_callSi (va_Run.run (va_runV (As := [.int p_0, .int 15]) (rest := []) ⟨hx, hb, hml, hown, htb⟩ (c_Md_lineOf_t l dC dI ct L f hO_0 q0 m0 p_0 (15 : Int32) as_0 as_1 (by decide +kernel) (by decide +kernel)) (cwV 2 htb (gd_V tw_611 tw_612 tw_613 tw_479 tw_610) rfl rfl rfl (by decide +kernel) ⟨Nat.le_of_ble_eq_true rfl, Nat.le_of_ble_eq_true rfl⟩) ⟨pr_blind, tw_recv hK hP m0 rfl rfl, pr_pre hP hK hN⟩ rfl rfl hl.1 rfl (lv_room (Nat.le_of_ble_eq_true rfl)) d_Md_fareOf_333 ⟨Nat.le_of_ble_eq_true rfl, Nat.le_of_ble_eq_true rfl⟩)) (fun r_97 er_97 => ?_)
                    clear er_97
                    refine lv_iload hx hb d_Md_fareOf_336 (lv_at hl 5 rfl) ?_
                    refine lv_icmp_le (tgt := 351) hx hb d_Md_fareOf_338 (by decide) (fun c_98 => ?_) (fun c_98 => ?_)
                    · refine lv_iload hx hb d_Md_fareOf_351 (lv_at hl 5 rfl) ?_
                      exact W.iret (v := v9_90) hx hb hr (fun t ht hW => ⟨v9_90, rfl, trivial, ht⟩) t_nil d_Md_fareOf_353
                    · refine lv_aload_n hx hb d_Md_fareOf_341 rfl (lv_at hl 0 rfl) ?_
                      refine lv_iload_n hx hb d_Md_fareOf_342 rfl (lv_at hl 1 rfl) ?_
                      refine lv_bipush (v := 15) hx hb d_Md_fareOf_343 (by decide +kernel) ?_
                      refine vp_callSi (va_Run.run (va_runV (As := [.int p_0, .int 15]) (rest := []) ⟨hx, hb, hml, hown, htb⟩ (c_Md_lineOf_t l dC dI ct L f hO_0 q0 m0 p_0 (15 : Int32) as_0 as_1 (by decide +kernel) (by decide +kernel)) (cwV 2 htb (gd_V tw_611 tw_612 tw_613 tw_479 tw_610) rfl rfl rfl (by decide +kernel) ⟨Nat.le_of_ble_eq_true rfl, Nat.le_of_ble_eq_true rfl⟩) ⟨pr_blind, tw_recv hK hP m0 rfl rfl, pr_pre hP hK hN⟩ rfl rfl hl.1 rfl (lv_room (Nat.le_of_ble_eq_true rfl)) d_Md_fareOf_345 ⟨Nat.le_of_ble_eq_true rfl, Nat.le_of_ble_eq_true rfl⟩)) (fun r_99 er_99 => ?_)
                      clear er_99
                      refine lv_goto (tgt := 353) hx hb d_Md_fareOf_348 (by decide) ?_
                      exact W.iret (v := r_99) hx hb hr (fun t ht hW => ⟨r_99, rfl, trivial, ht⟩) t_nil d_Md_fareOf_353
                  · refine lv_aload_n hx hb d_Md_fareOf_305 rfl (lv_at hl 0 rfl) ?_
                    refine lv_iload_n hx hb d_Md_fareOf_306 rfl (lv_at hl 1 rfl) ?_
                    refine lv_bipush (v := 18) hx hb d_Md_fareOf_307 (by decide +kernel) ?_
                    refine vp_callSi (va_Run.run (va_runV (As := [.int p_0, .int 18]) (rest := []) ⟨hx, hb, hml, hown, htb⟩ (c_Md_lineOf_t l dC dI ct L f hO_0 q0 m0 p_0 (18 : Int32) as_0 as_1 (by decide +kernel) (by decide +kernel)) (cwV 2 htb (gd_V tw_611 tw_612 tw_613 tw_479 tw_610) rfl rfl rfl (by decide +kernel) ⟨Nat.le_of_ble_eq_true rfl, Nat.le_of_ble_eq_true rfl⟩) ⟨pr_blind, tw_recv hK hP m0 rfl rfl, pr_pre hP hK hN⟩ rfl rfl hl.1 rfl (lv_room (Nat.le_of_ble_eq_true rfl)) d_Md_fareOf_309 ⟨Nat.le_of_ble_eq_true rfl, Nat.le_of_ble_eq_true rfl⟩)) (fun r_100 er_100 => ?_)
                    clear er_100
                    refine lv_if_lt (tgt := 329) hx hb d_Md_fareOf_312 (by decide) (fun c_101 => ?_) (fun c_101 => ?_)
                    · refine lv_aload_n hx hb d_Md_fareOf_329 rfl (lv_at hl 0 rfl) ?_
                      refine lv_iload_n hx hb d_Md_fareOf_330 rfl (lv_at hl 1 rfl) ?_
                      refine lv_bipush (v := 15) hx hb d_Md_fareOf_331 (by decide +kernel) ?_
                      refine vp_callSi (va_Run.run (va_runV (As := [.int p_0, .int 15]) (rest := []) ⟨hx, hb, hml, hown, htb⟩ (c_Md_lineOf_t l dC dI ct L f hO_0 q0 m0 p_0 (15 : Int32) as_0 as_1 (by decide +kernel) (by decide +kernel)) (cwV 2 htb (gd_V tw_611 tw_612 tw_613 tw_479 tw_610) rfl rfl rfl (by decide +kernel) ⟨Nat.le_of_ble_eq_true rfl, Nat.le_of_ble_eq_true rfl⟩) ⟨pr_blind, tw_recv hK hP m0 rfl rfl, pr_pre hP hK hN⟩ rfl rfl hl.1 rfl (lv_room (Nat.le_of_ble_eq_true rfl)) d_Md_fareOf_333 ⟨Nat.le_of_ble_eq_true rfl, Nat.le_of_ble_eq_true rfl⟩)) (fun r_102 er_102 => ?_)
                      clear er_102
                      refine lv_iload hx hb d_Md_fareOf_336 (lv_at hl 5 rfl) ?_
                      refine lv_icmp_le (tgt := 351) hx hb d_Md_fareOf_338 (by decide) (fun c_103 => ?_) (fun c_103 => ?_)
                      · refine lv_iload hx hb d_Md_fareOf_351 (lv_at hl 5 rfl) ?_
                        exact W.iret (v := v9_90) hx hb hr (fun t ht hW => ⟨v9_90, rfl, trivial, ht⟩) t_nil d_Md_fareOf_353
                      · refine lv_aload_n hx hb d_Md_fareOf_341 rfl (lv_at hl 0 rfl) ?_
                        refine lv_iload_n hx hb d_Md_fareOf_342 rfl (lv_at hl 1 rfl) ?_
                        refine lv_bipush (v := 15) hx hb d_Md_fareOf_343 (by decide +kernel) ?_
                        refine vp_callSi (va_Run.run (va_runV (As := [.int p_0, .int 15]) (rest := []) ⟨hx, hb, hml, hown, htb⟩ (c_Md_lineOf_t l dC dI ct L f hO_0 q0 m0 p_0 (15 : Int32) as_0 as_1 (by decide +kernel) (by decide +kernel)) (cwV 2 htb (gd_V tw_611 tw_612 tw_613 tw_479 tw_610) rfl rfl rfl (by decide +kernel) ⟨Nat.le_of_ble_eq_true rfl, Nat.le_of_ble_eq_true rfl⟩) ⟨pr_blind, tw_recv hK hP m0 rfl rfl, pr_pre hP hK hN⟩ rfl rfl hl.1 rfl (lv_room (Nat.le_of_ble_eq_true rfl)) d_Md_fareOf_345 ⟨Nat.le_of_ble_eq_true rfl, Nat.le_of_ble_eq_true rfl⟩)) (fun r_104 er_104 => ?_)
                        clear er_104
                        refine lv_goto (tgt := 353) hx hb d_Md_fareOf_348 (by decide) ?_
                        exact W.iret (v := r_104) hx hb hr (fun t ht hW => ⟨r_104, rfl, trivial, ht⟩) t_nil d_Md_fareOf_353
                    · refine lv_iload hx hb d_Md_fareOf_315 (lv_at hl 5 rfl) ?_
                      refine lv_aload_n hx hb d_Md_fareOf_317 rfl (lv_at hl 0 rfl) ?_
                      refine lv_iload_n hx hb d_Md_fareOf_318 rfl (lv_at hl 1 rfl) ?_
                      refine lv_bipush (v := 18) hx hb d_Md_fareOf_319 (by decide +kernel) ?_
                      refine vp_callSi (va_Run.run (va_runV (As := [.int p_0, .int 18]) (rest := [.int v9_90]) ⟨hx, hb, hml, hown, htb⟩ (c_Md_lineOf_t l dC dI ct L f hO_0 q0 m0 p_0 (18 : Int32) as_0 as_1 (by decide +kernel) (by decide +kernel)) (cwV 2 htb (gd_V tw_611 tw_612 tw_613 tw_479 tw_610) rfl rfl rfl (by decide +kernel) ⟨Nat.le_of_ble_eq_true rfl, Nat.le_of_ble_eq_true rfl⟩) ⟨pr_blind, tw_recv hK hP m0 rfl rfl, pr_pre hP hK hN⟩ rfl rfl hl.1 rfl (lv_room (Nat.le_of_ble_eq_true rfl)) d_Md_fareOf_321 ⟨Nat.le_of_ble_eq_true rfl, Nat.le_of_ble_eq_true rfl⟩)) (fun r_105 er_105 => ?_)
                      clear er_105
                      refine vp_callSi (va_Run.run (va_runS (As := [.int v9_90, .int r_105]) (rest := []) ⟨hx, hb, hml, hown, htb⟩ (c_Md_by_t l dC dI ct L f hO_0 v9_90 r_105) (cwS 2 htb (gd_S tw_618 tw_619 tw_479 tw_617) rfl rfl rfl (by decide +kernel) ⟨Nat.le_of_ble_eq_true rfl, Nat.le_of_ble_eq_true rfl⟩) ⟨pr_blind, pr_pre hP hK hN⟩ rfl rfl hl.1 rfl (lv_room (Nat.le_of_ble_eq_true rfl)) d_Md_fareOf_324 ⟨Nat.le_of_ble_eq_true rfl, Nat.le_of_ble_eq_true rfl⟩)) (fun r_106 er_106 => ?_)
                      clear er_106
                      refine lv_istore (lv' := [(9, .int r_106), (0, .ref q0), (1, .int p_0), (4, .int p_3), (5, .int p_4), (6, .int p_5), (12, .int v12_90)]) hx hb d_Md_fareOf_327 hl (by decide) rfl (fun ls hl => ?_)
                      refine lv_aload_n hx hb d_Md_fareOf_329 rfl (lv_at hl 1 rfl) ?_
                      refine lv_iload_n hx hb d_Md_fareOf_330 rfl (lv_at hl 2 rfl) ?_
                      refine lv_bipush (v := 15) hx hb d_Md_fareOf_331 (by decide +kernel) ?_
                      refine vp_callSi (va_Run.run (va_runV (As := [.int p_0, .int 15]) (rest := []) ⟨hx, hb, hml, hown, htb⟩ (c_Md_lineOf_t l dC dI ct L f hO_0 q0 m0 p_0 (15 : Int32) as_0 as_1 (by decide +kernel) (by decide +kernel)) (cwV 2 htb (gd_V tw_611 tw_612 tw_613 tw_479 tw_610) rfl rfl rfl (by decide +kernel) ⟨Nat.le_of_ble_eq_true rfl, Nat.le_of_ble_eq_true rfl⟩) ⟨pr_blind, tw_recv hK hP m0 rfl rfl, pr_pre hP hK hN⟩ rfl rfl hl.1 rfl (lv_room (Nat.le_of_ble_eq_true rfl)) d_Md_fareOf_333 ⟨Nat.le_of_ble_eq_true rfl, Nat.le_of_ble_eq_true rfl⟩)) (fun r_107 er_107 => ?_)
                      clear er_107
                      refine lv_iload hx hb d_Md_fareOf_336 (lv_at hl 0 rfl) ?_
                      refine lv_icmp_le (tgt := 351) hx hb d_Md_fareOf_338 (by decide) (fun c_108 => ?_) (fun c_108 => ?_)
                      · refine lv_iload hx hb d_Md_fareOf_351 (lv_at hl 0 rfl) ?_
                        exact W.iret (v := r_106) hx hb hr (fun t ht hW => ⟨r_106, rfl, trivial, ht⟩) t_nil d_Md_fareOf_353
                      · refine lv_aload_n hx hb d_Md_fareOf_341 rfl (lv_at hl 1 rfl) ?_
                        refine lv_iload_n hx hb d_Md_fareOf_342 rfl (lv_at hl 2 rfl) ?_
                        refine lv_bipush (v := 15) hx hb d_Md_fareOf_343 (by decide +kernel) ?_
                        refine vp_callSi (va_Run.run (va_runV (As := [.int p_0, .int 15]) (rest := []) ⟨hx, hb, hml, hown, htb⟩ (c_Md_lineOf_t l dC dI ct L f hO_0 q0 m0 p_0 (15 : Int32) as_0 as_1 (by decide +kernel) (by decide +kernel)) (cwV 2 htb (gd_V tw_611 tw_612 tw_613 tw_479 tw_610) rfl rfl rfl (by decide +kernel) ⟨Nat.le_of_ble_eq_true rfl, Nat.le_of_ble_eq_true rfl⟩) ⟨pr_blind, tw_recv hK hP m0 rfl rfl, pr_pre hP hK hN⟩ rfl rfl hl.1 rfl (lv_room (Nat.le_of_ble_eq_true rfl)) d_Md_fareOf_345 ⟨Nat.le_of_ble_eq_true rfl, Nat.le_of_ble_eq_true rfl⟩)) (fun r_109 er_109 => ?_)
                        clear er_109
                        refine lv_goto (tgt := 353) hx hb d_Md_fareOf_348 (by decide) ?_
                        exact W.iret (v := r_109) hx hb hr (fun t ht hW => ⟨r_109, rfl, trivial, ht⟩) t_nil d_Md_fareOf_353
                · refine lv_aload_n hx hb d_Md_fareOf_275 rfl (lv_at hl 0 rfl) ?_
                  refine lv_iload_n hx hb d_Md_fareOf_276 rfl (lv_at hl 1 rfl) ?_
                  refine lv_bipush (v := 14) hx hb d_Md_fareOf_277 (by decide +kernel) ?_
                  refine vp_callSi (va_Run.run (va_runV (As := [.int p_0, .int 14]) (rest := []) ⟨hx, hb, hml, hown, htb⟩ (c_Md_lineOf_t l dC dI ct L f hO_0 q0 m0 p_0 (14 : Int32) as_0 as_1 (by decide +kernel) (by decide +kernel)) (cwV 2 htb (gd_V tw_611 tw_612 tw_613 tw_479 tw_610) rfl rfl rfl (by decide +kernel) ⟨Nat.le_of_ble_eq_true rfl, Nat.le_of_ble_eq_true rfl⟩) ⟨pr_blind, tw_recv hK hP m0 rfl rfl, pr_pre hP hK hN⟩ rfl rfl hl.1 rfl (lv_room (Nat.le_of_ble_eq_true rfl)) d_Md_fareOf_279 ⟨Nat.le_of_ble_eq_true rfl, Nat.le_of_ble_eq_true rfl⟩)) (fun r_110 er_110 => ?_)
                  clear er_110
                  refine lv_if_lt (tgt := 299) hx hb d_Md_fareOf_282 (by decide) (fun c_111 => ?_) (fun c_111 => ?_)
                  · refine lv_iload hx hb d_Md_fareOf_299 (lv_at hl 4 rfl) ?_
                    refine lv_iconst (v := 2) hx hb d_Md_fareOf_301 (by decide +kernel) ?_
                    refine lv_icmp_ne (tgt := 329) hx hb d_Md_fareOf_302 (by decide) (fun c_112 => ?_) (fun c_112 => ?_)
                    · refine lv_aload_n hx hb d_Md_fareOf_329 rfl (lv_at hl 0 rfl) ?_
                      refine lv_iload_n hx hb d_Md_fareOf_330 rfl (lv_at hl 1 rfl) ?_
                      refine lv_bipush (v := 15) hx hb d_Md_fareOf_331 (by decide +kernel) ?_
                      refine vp_callSi (va_Run.run (va_runV (As := [.int p_0, .int 15]) (rest := []) ⟨hx, hb, hml, hown, htb⟩ (c_Md_lineOf_t l dC dI ct L f hO_0 q0 m0 p_0 (15 : Int32) as_0 as_1 (by decide +kernel) (by decide +kernel)) (cwV 2 htb (gd_V tw_611 tw_612 tw_613 tw_479 tw_610) rfl rfl rfl (by decide +kernel) ⟨Nat.le_of_ble_eq_true rfl, Nat.le_of_ble_eq_true rfl⟩) ⟨pr_blind, tw_recv hK hP m0 rfl rfl, pr_pre hP hK hN⟩ rfl rfl hl.1 rfl (lv_room (Nat.le_of_ble_eq_true rfl)) d_Md_fareOf_333 ⟨Nat.le_of_ble_eq_true rfl, Nat.le_of_ble_eq_true rfl⟩)) (fun r_113 er_113 => ?_)
                      clear er_113
                      refine lv_iload hx hb d_Md_fareOf_336 (lv_at hl 5 rfl) ?_
                      refine lv_icmp_le (tgt := 351) hx hb d_Md_fareOf_338 (by decide) (fun c_114 => ?_) (fun c_114 => ?_)
                      · refine lv_iload hx hb d_Md_fareOf_351 (lv_at hl 5 rfl) ?_
                        exact W.iret (v := v9_90) hx hb hr (fun t ht hW => ⟨v9_90, rfl, trivial, ht⟩) t_nil d_Md_fareOf_353
                      · refine lv_aload_n hx hb d_Md_fareOf_341 rfl (lv_at hl 0 rfl) ?_
                        refine lv_iload_n hx hb d_Md_fareOf_342 rfl (lv_at hl 1 rfl) ?_
                        refine lv_bipush (v := 15) hx hb d_Md_fareOf_343 (by decide +kernel) ?_
                        refine vp_callSi (va_Run.run (va_runV (As := [.int p_0, .int 15]) (rest := []) ⟨hx, hb, hml, hown, htb⟩ (c_Md_lineOf_t l dC dI ct L f hO_0 q0 m0 p_0 (15 : Int32) as_0 as_1 (by decide +kernel) (by decide +kernel)) (cwV 2 htb (gd_V tw_611 tw_612 tw_613 tw_479 tw_610) rfl rfl rfl (by decide +kernel) ⟨Nat.le_of_ble_eq_true rfl, Nat.le_of_ble_eq_true rfl⟩) ⟨pr_blind, tw_recv hK hP m0 rfl rfl, pr_pre hP hK hN⟩ rfl rfl hl.1 rfl (lv_room (Nat.le_of_ble_eq_true rfl)) d_Md_fareOf_345 ⟨Nat.le_of_ble_eq_true rfl, Nat.le_of_ble_eq_true rfl⟩)) (fun r_115 er_115 => ?_)
                        clear er_115
                        refine lv_goto (tgt := 353) hx hb d_Md_fareOf_348 (by decide) ?_
                        exact W.iret (v := r_115) hx hb hr (fun t ht hW => ⟨r_115, rfl, trivial, ht⟩) t_nil d_Md_fareOf_353
                    · refine lv_aload_n hx hb d_Md_fareOf_305 rfl (lv_at hl 0 rfl) ?_
                      refine lv_iload_n hx hb d_Md_fareOf_306 rfl (lv_at hl 1 rfl) ?_
                      refine lv_bipush (v := 18) hx hb d_Md_fareOf_307 (by decide +kernel) ?_
                      refine vp_callSi (va_Run.run (va_runV (As := [.int p_0, .int 18]) (rest := []) ⟨hx, hb, hml, hown, htb⟩ (c_Md_lineOf_t l dC dI ct L f hO_0 q0 m0 p_0 (18 : Int32) as_0 as_1 (by decide +kernel) (by decide +kernel)) (cwV 2 htb (gd_V tw_611 tw_612 tw_613 tw_479 tw_610) rfl rfl rfl (by decide +kernel) ⟨Nat.le_of_ble_eq_true rfl, Nat.le_of_ble_eq_true rfl⟩) ⟨pr_blind, tw_recv hK hP m0 rfl rfl, pr_pre hP hK hN⟩ rfl rfl hl.1 rfl (lv_room (Nat.le_of_ble_eq_true rfl)) d_Md_fareOf_309 ⟨Nat.le_of_ble_eq_true rfl, Nat.le_of_ble_eq_true rfl⟩)) (fun r_116 er_116 => ?_)
                      clear er_116
                      refine lv_if_lt (tgt := 329) hx hb d_Md_fareOf_312 (by decide) (fun c_117 => ?_) (fun c_117 => ?_)
                      · refine lv_aload_n hx hb d_Md_fareOf_329 rfl (lv_at hl 0 rfl) ?_
                        refine lv_iload_n hx hb d_Md_fareOf_330 rfl (lv_at hl 1 rfl) ?_
                        refine lv_bipush (v := 15) hx hb d_Md_fareOf_331 (by decide +kernel) ?_
                        refine vp_callSi (va_Run.run (va_runV (As := [.int p_0, .int 15]) (rest := []) ⟨hx, hb, hml, hown, htb⟩ (c_Md_lineOf_t l dC dI ct L f hO_0 q0 m0 p_0 (15 : Int32) as_0 as_1 (by decide +kernel) (by decide +kernel)) (cwV 2 htb (gd_V tw_611 tw_612 tw_613 tw_479 tw_610) rfl rfl rfl (by decide +kernel) ⟨Nat.le_of_ble_eq_true rfl, Nat.le_of_ble_eq_true rfl⟩) ⟨pr_blind, tw_recv hK hP m0 rfl rfl, pr_pre hP hK hN⟩ rfl rfl hl.1 rfl (lv_room (Nat.le_of_ble_eq_true rfl)) d_Md_fareOf_333 ⟨Nat.le_of_ble_eq_true rfl, Nat.le_of_ble_eq_true rfl⟩)) (fun r_118 er_118 => ?_)
                        clear er_118
                        refine lv_iload hx hb d_Md_fareOf_336 (lv_at hl 5 rfl) ?_
                        refine lv_icmp_le (tgt := 351) hx hb d_Md_fareOf_338 (by decide) (fun c_119 => ?_) (fun c_119 => ?_)
                        · refine lv_iload hx hb d_Md_fareOf_351 (lv_at hl 5 rfl) ?_
                          exact W.iret (v := v9_90) hx hb hr (fun t ht hW => ⟨v9_90, rfl, trivial, ht⟩) t_nil d_Md_fareOf_353
                        · refine lv_aload_n hx hb d_Md_fareOf_341 rfl (lv_at hl 0 rfl) ?_
                          refine lv_iload_n hx hb d_Md_fareOf_342 rfl (lv_at hl 1 rfl) ?_
                          refine lv_bipush (v := 15) hx hb d_Md_fareOf_343 (by decide +kernel) ?_
                          refine vp_callSi (va_Run.run (va_runV (As := [.int p_0, .int 15]) (rest := []) ⟨hx, hb, hml, hown, htb⟩ (c_Md_lineOf_t l dC dI ct L f hO_0 q0 m0 p_0 (15 : Int32) as_0 as_1 (by decide +kernel) (by decide +kernel)) (cwV 2 htb (gd_V tw_611 tw_612 tw_613 tw_479 tw_610) rfl rfl rfl (by decide +kernel) ⟨Nat.le_of_ble_eq_true rfl, Nat.le_of_ble_eq_true rfl⟩) ⟨pr_blind, tw_recv hK hP m0 rfl rfl, pr_pre hP hK hN⟩ rfl rfl hl.1 rfl (lv_room (Nat.le_of_ble_eq_true rfl)) d_Md_fareOf_345 ⟨Nat.le_of_ble_eq_true rfl, Nat.le_of_ble_eq_true rfl⟩)) (fun r_120 er_120 => ?_)
                          clear er_120
                          refine lv_goto (tgt := 353) hx hb d_Md_fareOf_348 (by decide) ?_
                          exact W.iret (v := r_120) hx hb hr (fun t ht hW => ⟨r_120, rfl, trivial, ht⟩) t_nil d_Md_fareOf_353
                      · refine lv_iload hx hb d_Md_fareOf_315 (lv_at hl 5 rfl) ?_
                        refine lv_aload_n hx hb d_Md_fareOf_317 rfl (lv_at hl 0 rfl) ?_
                        refine lv_iload_n hx hb d_Md_fareOf_318 rfl (lv_at hl 1 rfl) ?_
                        refine lv_bipush (v := 18) hx hb d_Md_fareOf_319 (by decide +kernel) ?_
                        refine vp_callSi (va_Run.run (va_runV (As := [.int p_0, .int 18]) (rest := [.int v9_90]) ⟨hx, hb, hml, hown, htb⟩ (c_Md_lineOf_t l dC dI ct L f hO_0 q0 m0 p_0 (18 : Int32) as_0 as_1 (by decide +kernel) (by decide +kernel)) (cwV 2 htb (gd_V tw_611 tw_612 tw_613 tw_479 tw_610) rfl rfl rfl (by decide +kernel) ⟨Nat.le_of_ble_eq_true rfl, Nat.le_of_ble_eq_true rfl⟩) ⟨pr_blind, tw_recv hK hP m0 rfl rfl, pr_pre hP hK hN⟩ rfl rfl hl.1 rfl (lv_room (Nat.le_of_ble_eq_true rfl)) d_Md_fareOf_321 ⟨Nat.le_of_ble_eq_true rfl, Nat.le_of_ble_eq_true rfl⟩)) (fun r_121 er_121 => ?_)
                        clear er_121
                        refine vp_callSi (va_Run.run (va_runS (As := [.int v9_90, .int r_121]) (rest := []) ⟨hx, hb, hml, hown, htb⟩ (c_Md_by_t l dC dI ct L f hO_0 v9_90 r_121) (cwS 2 htb (gd_S tw_618 tw_619 tw_479 tw_617) rfl rfl rfl (by decide +kernel) ⟨Nat.le_of_ble_eq_true rfl, Nat.le_of_ble_eq_true rfl⟩) ⟨pr_blind, pr_pre hP hK hN⟩ rfl rfl hl.1 rfl (lv_room (Nat.le_of_ble_eq_true rfl)) d_Md_fareOf_324 ⟨Nat.le_of_ble_eq_true rfl, Nat.le_of_ble_eq_true rfl⟩)) (fun r_122 er_122 => ?_)
                        clear er_122
                        refine lv_istore (lv' := [(9, .int r_122), (0, .ref q0), (1, .int p_0), (4, .int p_3), (5, .int p_4), (6, .int p_5), (12, .int v12_90)]) hx hb d_Md_fareOf_327 hl (by decide) rfl (fun ls hl => ?_)
                        refine lv_aload_n hx hb d_Md_fareOf_329 rfl (lv_at hl 1 rfl) ?_
                        refine lv_iload_n hx hb d_Md_fareOf_330 rfl (lv_at hl 2 rfl) ?_
                        refine lv_bipush (v := 15) hx hb d_Md_fareOf_331 (by decide +kernel) ?_
                        refine vp_callSi (va_Run.run (va_runV (As := [.int p_0, .int 15]) (rest := []) ⟨hx, hb, hml, hown, htb⟩ (c_Md_lineOf_t l dC dI ct L f hO_0 q0 m0 p_0 (15 : Int32) as_0 as_1 (by decide +kernel) (by decide +kernel)) (cwV 2 htb (gd_V tw_611 tw_612 tw_613 tw_479 tw_610) rfl rfl rfl (by decide +kernel) ⟨Nat.le_of_ble_eq_true rfl, Nat.le_of_ble_eq_true rfl⟩) ⟨pr_blind, tw_recv hK hP m0 rfl rfl, pr_pre hP hK hN⟩ rfl rfl hl.1 rfl (lv_room (Nat.le_of_ble_eq_true rfl)) d_Md_fareOf_333 ⟨Nat.le_of_ble_eq_true rfl, Nat.le_of_ble_eq_true rfl⟩)) (fun r_123 er_123 => ?_)
                        clear er_123
                        refine lv_iload hx hb d_Md_fareOf_336 (lv_at hl 0 rfl) ?_
                        refine lv_icmp_le (tgt := 351) hx hb d_Md_fareOf_338 (by decide) (fun c_124 => ?_) (fun c_124 => ?_)
                        · refine lv_iload hx hb d_Md_fareOf_351 (lv_at hl 0 rfl) ?_
                          exact W.iret (v := r_122) hx hb hr (fun t ht hW => ⟨r_122, rfl, trivial, ht⟩) t_nil d_Md_fareOf_353
                        · refine lv_aload_n hx hb d_Md_fareOf_341 rfl (lv_at hl 1 rfl) ?_
                          refine lv_iload_n hx hb d_Md_fareOf_342 rfl (lv_at hl 2 rfl) ?_
                          refine lv_bipush (v := 15) hx hb d_Md_fareOf_343 (by decide +kernel) ?_
                          refine vp_callSi (va_Run.run (va_runV (As := [.int p_0, .int 15]) (rest := []) ⟨hx, hb, hml, hown, htb⟩ (c_Md_lineOf_t l dC dI ct L f hO_0 q0 m0 p_0 (15 : Int32) as_0 as_1 (by decide +kernel) (by decide +kernel)) (cwV 2 htb (gd_V tw_611 tw_612 tw_613 tw_479 tw_610) rfl rfl rfl (by decide +kernel) ⟨Nat.le_of_ble_eq_true rfl, Nat.le_of_ble_eq_true rfl⟩) ⟨pr_blind, tw_recv hK hP m0 rfl rfl, pr_pre hP hK hN⟩ rfl rfl hl.1 rfl (lv_room (Nat.le_of_ble_eq_true rfl)) d_Md_fareOf_345 ⟨Nat.le_of_ble_eq_true rfl, Nat.le_of_ble_eq_true rfl⟩)) (fun r_125 er_125 => ?_)
                          clear er_125
                          refine lv_goto (tgt := 353) hx hb d_Md_fareOf_348 (by decide) ?_
                          exact W.iret (v := r_125) hx hb hr (fun t ht hW => ⟨r_125, rfl, trivial, ht⟩) t_nil d_Md_fareOf_353
                  · refine lv_iload hx hb d_Md_fareOf_285 (lv_at hl 5 rfl) ?_
                    refine lv_aload_n hx hb d_Md_fareOf_287 rfl (lv_at hl 0 rfl) ?_
                    refine lv_iload_n hx hb d_Md_fareOf_288 rfl (lv_at hl 1 rfl) ?_
                    refine lv_bipush (v := 14) hx hb d_Md_fareOf_289 (by decide +kernel) ?_
                    refine vp_callSi (va_Run.run (va_runV (As := [.int p_0, .int 14]) (rest := [.int v9_90]) ⟨hx, hb, hml, hown, htb⟩ (c_Md_lineOf_t l dC dI ct L f hO_0 q0 m0 p_0 (14 : Int32) as_0 as_1 (by decide +kernel) (by decide +kernel)) (cwV 2 htb (gd_V tw_611 tw_612 tw_613 tw_479 tw_610) rfl rfl rfl (by decide +kernel) ⟨Nat.le_of_ble_eq_true rfl, Nat.le_of_ble_eq_true rfl⟩) ⟨pr_blind, tw_recv hK hP m0 rfl rfl, pr_pre hP hK hN⟩ rfl rfl hl.1 rfl (lv_room (Nat.le_of_ble_eq_true rfl)) d_Md_fareOf_291 ⟨Nat.le_of_ble_eq_true rfl, Nat.le_of_ble_eq_true rfl⟩)) (fun r_126 er_126 => ?_)
                    clear er_126
                    refine vp_callSi (va_Run.run (va_runS (As := [.int v9_90, .int r_126]) (rest := []) ⟨hx, hb, hml, hown, htb⟩ (c_Md_by_t l dC dI ct L f hO_0 v9_90 r_126) (cwS 2 htb (gd_S tw_618 tw_619 tw_479 tw_617) rfl rfl rfl (by decide +kernel) ⟨Nat.le_of_ble_eq_true rfl, Nat.le_of_ble_eq_true rfl⟩) ⟨pr_blind, pr_pre hP hK hN⟩ rfl rfl hl.1 rfl (lv_room (Nat.le_of_ble_eq_true rfl)) d_Md_fareOf_294 ⟨Nat.le_of_ble_eq_true rfl, Nat.le_of_ble_eq_true rfl⟩)) (fun r_127 er_127 => ?_)
                    clear er_127
                    refine lv_istore (lv' := [(9, .int r_127), (0, .ref q0), (1, .int p_0), (4, .int p_3), (5, .int p_4), (6, .int p_5), (12, .int v12_90)]) hx hb d_Md_fareOf_297 hl (by decide) rfl (fun ls hl => ?_)
                    refine lv_iload hx hb d_Md_fareOf_299 (lv_at hl 5 rfl) ?_
                    refine lv_iconst (v := 2) hx hb d_Md_fareOf_301 (by decide +kernel) ?_
                    refine lv_icmp_ne (tgt := 329) hx hb d_Md_fareOf_302 (by decide) (fun c_128 => ?_) (fun c_128 => ?_)
                    · refine lv_aload_n hx hb d_Md_fareOf_329 rfl (lv_at hl 1 rfl) ?_
                      refine lv_iload_n hx hb d_Md_fareOf_330 rfl (lv_at hl 2 rfl) ?_
                      refine lv_bipush (v := 15) hx hb d_Md_fareOf_331 (by decide +kernel) ?_
                      refine vp_callSi (va_Run.run (va_runV (As := [.int p_0, .int 15]) (rest := []) ⟨hx, hb, hml, hown, htb⟩ (c_Md_lineOf_t l dC dI ct L f hO_0 q0 m0 p_0 (15 : Int32) as_0 as_1 (by decide +kernel) (by decide +kernel)) (cwV 2 htb (gd_V tw_611 tw_612 tw_613 tw_479 tw_610) rfl rfl rfl (by decide +kernel) ⟨Nat.le_of_ble_eq_true rfl, Nat.le_of_ble_eq_true rfl⟩) ⟨pr_blind, tw_recv hK hP m0 rfl rfl, pr_pre hP hK hN⟩ rfl rfl hl.1 rfl (lv_room (Nat.le_of_ble_eq_true rfl)) d_Md_fareOf_333 ⟨Nat.le_of_ble_eq_true rfl, Nat.le_of_ble_eq_true rfl⟩)) (fun r_129 er_129 => ?_)
                      clear er_129
                      refine lv_iload hx hb d_Md_fareOf_336 (lv_at hl 0 rfl) ?_
                      refine lv_icmp_le (tgt := 351) hx hb d_Md_fareOf_338 (by decide) (fun c_130 => ?_) (fun c_130 => ?_)
                      · refine lv_iload hx hb d_Md_fareOf_351 (lv_at hl 0 rfl) ?_
                        exact W.iret (v := r_127) hx hb hr (fun t ht hW => ⟨r_127, rfl, trivial, ht⟩) t_nil d_Md_fareOf_353
                      · refine lv_aload_n hx hb d_Md_fareOf_341 rfl (lv_at hl 1 rfl) ?_
                        refine lv_iload_n hx hb d_Md_fareOf_342 rfl (lv_at hl 2 rfl) ?_
                        refine lv_bipush (v := 15) hx hb d_Md_fareOf_343 (by decide +kernel) ?_
                        refine vp_callSi (va_Run.run (va_runV (As := [.int p_0, .int 15]) (rest := []) ⟨hx, hb, hml, hown, htb⟩ (c_Md_lineOf_t l dC dI ct L f hO_0 q0 m0 p_0 (15 : Int32) as_0 as_1 (by decide +kernel) (by decide +kernel)) (cwV 2 htb (gd_V tw_611 tw_612 tw_613 tw_479 tw_610) rfl rfl rfl (by decide +kernel) ⟨Nat.le_of_ble_eq_true rfl, Nat.le_of_ble_eq_true rfl⟩) ⟨pr_blind, tw_recv hK hP m0 rfl rfl, pr_pre hP hK hN⟩ rfl rfl hl.1 rfl (lv_room (Nat.le_of_ble_eq_true rfl)) d_Md_fareOf_345 ⟨Nat.le_of_ble_eq_true rfl, Nat.le_of_ble_eq_true rfl⟩)) (fun r_131 er_131 => ?_)
                        clear er_131
                        refine lv_goto (tgt := 353) hx hb d_Md_fareOf_348 (by decide) ?_
                        exact W.iret (v := r_131) hx hb hr (fun t ht hW => ⟨r_131, rfl, trivial, ht⟩) t_nil d_Md_fareOf_353
                    · refine lv_aload_n hx hb d_Md_fareOf_305 rfl (lv_at hl 1 rfl) ?_
                      refine lv_iload_n hx hb d_Md_fareOf_306 rfl (lv_at hl 2 rfl) ?_
                      refine lv_bipush (v := 18) hx hb d_Md_fareOf_307 (by decide +kernel) ?_
                      refine vp_callSi (va_Run.run (va_runV (As := [.int p_0, .int 18]) (rest := []) ⟨hx, hb, hml, hown, htb⟩ (c_Md_lineOf_t l dC dI ct L f hO_0 q0 m0 p_0 (18 : Int32) as_0 as_1 (by decide +kernel) (by decide +kernel)) (cwV 2 htb (gd_V tw_611 tw_612 tw_613 tw_479 tw_610) rfl rfl rfl (by decide +kernel) ⟨Nat.le_of_ble_eq_true rfl, Nat.le_of_ble_eq_true rfl⟩) ⟨pr_blind, tw_recv hK hP m0 rfl rfl, pr_pre hP hK hN⟩ rfl rfl hl.1 rfl (lv_room (Nat.le_of_ble_eq_true rfl)) d_Md_fareOf_309 ⟨Nat.le_of_ble_eq_true rfl, Nat.le_of_ble_eq_true rfl⟩)) (fun r_132 er_132 => ?_)
                      clear er_132
                      refine lv_if_lt (tgt := 329) hx hb d_Md_fareOf_312 (by decide) (fun c_133 => ?_) (fun c_133 => ?_)
                      · refine lv_aload_n hx hb d_Md_fareOf_329 rfl (lv_at hl 1 rfl) ?_
                        refine lv_iload_n hx hb d_Md_fareOf_330 rfl (lv_at hl 2 rfl) ?_
                        refine lv_bipush (v := 15) hx hb d_Md_fareOf_331 (by decide +kernel) ?_
                        refine vp_callSi (va_Run.run (va_runV (As := [.int p_0, .int 15]) (rest := []) ⟨hx, hb, hml, hown, htb⟩ (c_Md_lineOf_t l dC dI ct L f hO_0 q0 m0 p_0 (15 : Int32) as_0 as_1 (by decide +kernel) (by decide +kernel)) (cwV 2 htb (gd_V tw_611 tw_612 tw_613 tw_479 tw_610) rfl rfl rfl (by decide +kernel) ⟨Nat.le_of_ble_eq_true rfl, Nat.le_of_ble_eq_true rfl⟩) ⟨pr_blind, tw_recv hK hP m0 rfl rfl, pr_pre hP hK hN⟩ rfl rfl hl.1 rfl (lv_room (Nat.le_of_ble_eq_true rfl)) d_Md_fareOf_333 ⟨Nat.le_of_ble_eq_true rfl, Nat.le_of_ble_eq_true rfl⟩)) (fun r_134 er_134 => ?_)
                        clear er_134
                        refine lv_iload hx hb d_Md_fareOf_336 (lv_at hl 0 rfl) ?_
                        refine lv_icmp_le (tgt := 351) hx hb d_Md_fareOf_338 (by decide) (fun c_135 => ?_) (fun c_135 => ?_)
                        · refine lv_iload hx hb d_Md_fareOf_351 (lv_at hl 0 rfl) ?_
                          exact W.iret (v := r_127) hx hb hr (fun t ht hW => ⟨r_127, rfl, trivial, ht⟩) t_nil d_Md_fareOf_353
                        · refine lv_aload_n hx hb d_Md_fareOf_341 rfl (lv_at hl 1 rfl) ?_
                          refine lv_iload_n hx hb d_Md_fareOf_342 rfl (lv_at hl 2 rfl) ?_
                          refine lv_bipush (v := 15) hx hb d_Md_fareOf_343 (by decide +kernel) ?_
                          refine vp_callSi (va_Run.run (va_runV (As := [.int p_0, .int 15]) (rest := []) ⟨hx, hb, hml, hown, htb⟩ (c_Md_lineOf_t l dC dI ct L f hO_0 q0 m0 p_0 (15 : Int32) as_0 as_1 (by decide +kernel) (by decide +kernel)) (cwV 2 htb (gd_V tw_611 tw_612 tw_613 tw_479 tw_610) rfl rfl rfl (by decide +kernel) ⟨Nat.le_of_ble_eq_true rfl, Nat.le_of_ble_eq_true rfl⟩) ⟨pr_blind, tw_recv hK hP m0 rfl rfl, pr_pre hP hK hN⟩ rfl rfl hl.1 rfl (lv_room (Nat.le_of_ble_eq_true rfl)) d_Md_fareOf_345 ⟨Nat.le_of_ble_eq_true rfl, Nat.le_of_ble_eq_true rfl⟩)) (fun r_136 er_136 => ?_)
                          clear er_136
                          refine lv_goto (tgt := 353) hx hb d_Md_fareOf_348 (by decide) ?_
                          exact W.iret (v := r_136) hx hb hr (fun t ht hW => ⟨r_136, rfl, trivial, ht⟩) t_nil d_Md_fareOf_353
                      · refine lv_iload hx hb d_Md_fareOf_315 (lv_at hl 0 rfl) ?_
                        refine lv_aload_n hx hb d_Md_fareOf_317 rfl (lv_at hl 1 rfl) ?_
                        refine lv_iload_n hx hb d_Md_fareOf_318 rfl (lv_at hl 2 rfl) ?_
                        refine lv_bipush (v := 18) hx hb d_Md_fareOf_319 (by decide +kernel) ?_
                        refine vp_callSi (va_Run.run (va_runV (As := [.int p_0, .int 18]) (rest := [.int r_127]) ⟨hx, hb, hml, hown, htb⟩ (c_Md_lineOf_t l dC dI ct L f hO_0 q0 m0 p_0 (18 : Int32) as_0 as_1 (by decide +kernel) (by decide +kernel)) (cwV 2 htb (gd_V tw_611 tw_612 tw_613 tw_479 tw_610) rfl rfl rfl (by decide +kernel) ⟨Nat.le_of_ble_eq_true rfl, Nat.le_of_ble_eq_true rfl⟩) ⟨pr_blind, tw_recv hK hP m0 rfl rfl, pr_pre hP hK hN⟩ rfl rfl hl.1 rfl (lv_room (Nat.le_of_ble_eq_true rfl)) d_Md_fareOf_321 ⟨Nat.le_of_ble_eq_true rfl, Nat.le_of_ble_eq_true rfl⟩)) (fun r_137 er_137 => ?_)
                        clear er_137
                        refine vp_callSi (va_Run.run (va_runS (As := [.int r_127, .int r_137]) (rest := []) ⟨hx, hb, hml, hown, htb⟩ (c_Md_by_t l dC dI ct L f hO_0 r_127 r_137) (cwS 2 htb (gd_S tw_618 tw_619 tw_479 tw_617) rfl rfl rfl (by decide +kernel) ⟨Nat.le_of_ble_eq_true rfl, Nat.le_of_ble_eq_true rfl⟩) ⟨pr_blind, pr_pre hP hK hN⟩ rfl rfl hl.1 rfl (lv_room (Nat.le_of_ble_eq_true rfl)) d_Md_fareOf_324 ⟨Nat.le_of_ble_eq_true rfl, Nat.le_of_ble_eq_true rfl⟩)) (fun r_138 er_138 => ?_)
                        clear er_138
                        refine lv_istore (lv' := [(9, .int r_138), (0, .ref q0), (1, .int p_0), (4, .int p_3), (5, .int p_4), (6, .int p_5), (12, .int v12_90)]) hx hb d_Md_fareOf_327 hl (by decide) rfl (fun ls hl => ?_)
                        refine lv_aload_n hx hb d_Md_fareOf_329 rfl (lv_at hl 1 rfl) ?_
                        refine lv_iload_n hx hb d_Md_fareOf_330 rfl (lv_at hl 2 rfl) ?_
                        refine lv_bipush (v := 15) hx hb d_Md_fareOf_331 (by decide +kernel) ?_
                        refine vp_callSi (va_Run.run (va_runV (As := [.int p_0, .int 15]) (rest := []) ⟨hx, hb, hml, hown, htb⟩ (c_Md_lineOf_t l dC dI ct L f hO_0 q0 m0 p_0 (15 : Int32) as_0 as_1 (by decide +kernel) (by decide +kernel)) (cwV 2 htb (gd_V tw_611 tw_612 tw_613 tw_479 tw_610) rfl rfl rfl (by decide +kernel) ⟨Nat.le_of_ble_eq_true rfl, Nat.le_of_ble_eq_true rfl⟩) ⟨pr_blind, tw_recv hK hP m0 rfl rfl, pr_pre hP hK hN⟩ rfl rfl hl.1 rfl (lv_room (Nat.le_of_ble_eq_true rfl)) d_Md_fareOf_333 ⟨Nat.le_of_ble_eq_true rfl, Nat.le_of_ble_eq_true rfl⟩)) (fun r_139 er_139 => ?_)
                        clear er_139
                        refine lv_iload hx hb d_Md_fareOf_336 (lv_at hl 0 rfl) ?_
                        refine lv_icmp_le (tgt := 351) hx hb d_Md_fareOf_338 (by decide) (fun c_140 => ?_) (fun c_140 => ?_)
                        · refine lv_iload hx hb d_Md_fareOf_351 (lv_at hl 0 rfl) ?_
                          exact W.iret (v := r_138) hx hb hr (fun t ht hW => ⟨r_138, rfl, trivial, ht⟩) t_nil d_Md_fareOf_353
                        · refine lv_aload_n hx hb d_Md_fareOf_341 rfl (lv_at hl 1 rfl) ?_
                          refine lv_iload_n hx hb d_Md_fareOf_342 rfl (lv_at hl 2 rfl) ?_
                          refine lv_bipush (v := 15) hx hb d_Md_fareOf_343 (by decide +kernel) ?_
                          refine vp_callSi (va_Run.run (va_runV (As := [.int p_0, .int 15]) (rest := []) ⟨hx, hb, hml, hown, htb⟩ (c_Md_lineOf_t l dC dI ct L f hO_0 q0 m0 p_0 (15 : Int32) as_0 as_1 (by decide +kernel) (by decide +kernel)) (cwV 2 htb (gd_V tw_611 tw_612 tw_613 tw_479 tw_610) rfl rfl rfl (by decide +kernel) ⟨Nat.le_of_ble_eq_true rfl, Nat.le_of_ble_eq_true rfl⟩) ⟨pr_blind, tw_recv hK hP m0 rfl rfl, pr_pre hP hK hN⟩ rfl rfl hl.1 rfl (lv_room (Nat.le_of_ble_eq_true rfl)) d_Md_fareOf_345 ⟨Nat.le_of_ble_eq_true rfl, Nat.le_of_ble_eq_true rfl⟩)) (fun r_141 er_141 => ?_)
                          clear er_141
                          refine lv_goto (tgt := 353) hx hb d_Md_fareOf_348 (by decide) ?_
                          exact W.iret (v := r_141) hx hb hr (fun t ht hW => ⟨r_141, rfl, trivial, ht⟩) t_nil d_Md_fareOf_353
              · refine lv_iload hx hb d_Md_fareOf_210 (lv_at hl 3 rfl) ?_
                refine lv_aload_n hx hb d_Md_fareOf_212 rfl (lv_at hl 0 rfl) ?_
                refine tw_getr (D := (dC, dI)) (C := R_Md) (T := F_Md) (N := 64) (ci := 7) (kd := 27) (ct := ct) hx hb htb i_Md hown hK hP hO_0 m0 rfl rfl 37 (by decide) (htb (.fieldLink R_Md 134 "WaterMenModel" "hourLow" "[I") tw_592) (fun _ h9 => h9) rfl d_Md_fareOf_213 (fun q_142 e_142 m_142 => ?_)
                refine lv_bipush (v := 12) hx hb d_Md_fareOf_216 (by decide +kernel) ?_
                refine lv_iload_n hx hb d_Md_fareOf_218 rfl (lv_at hl 1 rfl) ?_
                refine lv_imul hx hb d_Md_fareOf_219 ?_
                refine lv_iload hx hb d_Md_fareOf_220 (lv_at hl 6 rfl) ?_
                refine lv_iadd hx hb d_Md_fareOf_222 ?_
                refine tw_aldI (ct := ct) hx hb hK hP hO_0 m_142 rfl ((fun (a_0 : Int32) (a_1 : Int32) (a_2 : Int32) (k_0 : ¬ (a_0 < 0)) (k_1 : ¬ (19 < a_0)) (k_2 : ¬ (a_1 < 0)) (k_3 : ¬ (a_2 ≤ a_1)) (k_4 : ¬ (12 < a_2)) => (show vp_in (((12 * a_0) + a_1)) 240 from by have z0 : (0 : Int32).toInt = 0 := (by decide +kernel); have z1 : (12 : Int32).toInt = 12 := (by decide +kernel); have z2 : (19 : Int32).toInt = 19 := (by decide +kernel); have r0 := fb_rng (a_0); have r1 := fb_rng (a_1); have r2 := fb_rng (a_2); have e0 := k_0; rw [Int32.lt_iff_toInt_lt, z0] at e0; have e1 := k_1; rw [Int32.lt_iff_toInt_lt, z2] at e1; have e2 := k_2; rw [Int32.lt_iff_toInt_lt, z0] at e2; have e3 := k_3; rw [Int32.le_iff_toInt_le] at e3; have e4 := k_4; rw [Int32.lt_iff_toInt_lt, z1] at e4; obtain ⟨n_0, hn_0, s0⟩ := nd_mul (x := (12 : Int32)) (y := (a_0)) (by (try rw [z1]); omega) (by (try rw [z1]); omega); rw [z1] at s0; obtain ⟨n_1, hn_1, s1⟩ := nd_add (x := n_0) (y := (a_1)) (by omega) (by omega); rw [hn_0, hn_1, vp_in_iff]; omega)) p_0 v12_90 x_92 as_0 as_1 iv0_90 c_93 b_92.2) d_Md_fareOf_223 (fun x_143 e_143 b_143 => ?_)
                refine lv_aload_n hx hb d_Md_fareOf_224 rfl (lv_at hl 0 rfl) ?_
                refine tw_getr (D := (dC, dI)) (C := R_Md) (T := F_Md) (N := 64) (ci := 7) (kd := 27) (ct := ct) hx hb htb i_Md hown hK hP hO_0 m0 rfl rfl 38 (by decide) (htb (.fieldLink R_Md 137 "WaterMenModel" "hourHigh" "[I") tw_593) (fun _ h9 => h9) rfl d_Md_fareOf_225 (fun q_144 e_144 m_144 => ?_)
                refine lv_bipush (v := 12) hx hb d_Md_fareOf_228 (by decide +kernel) ?_
                refine lv_iload_n hx hb d_Md_fareOf_230 rfl (lv_at hl 1 rfl) ?_
                refine lv_imul hx hb d_Md_fareOf_231 ?_
                refine lv_iload hx hb d_Md_fareOf_232 (lv_at hl 6 rfl) ?_
                refine lv_iadd hx hb d_Md_fareOf_234 ?_
                refine tw_aldI (ct := ct) hx hb hK hP hO_0 m_144 rfl ((fun (a_0 : Int32) (a_1 : Int32) (a_2 : Int32) (k_0 : ¬ (a_0 < 0)) (k_1 : ¬ (19 < a_0)) (k_2 : ¬ (a_1 < 0)) (k_3 : ¬ (a_2 ≤ a_1)) (k_4 : ¬ (12 < a_2)) => (show vp_in (((12 * a_0) + a_1)) 240 from by have z0 : (0 : Int32).toInt = 0 := (by decide +kernel); have z1 : (12 : Int32).toInt = 12 := (by decide +kernel); have z2 : (19 : Int32).toInt = 19 := (by decide +kernel); have r0 := fb_rng (a_0); have r1 := fb_rng (a_1); have r2 := fb_rng (a_2); have e0 := k_0; rw [Int32.lt_iff_toInt_lt, z0] at e0; have e1 := k_1; rw [Int32.lt_iff_toInt_lt, z2] at e1; have e2 := k_2; rw [Int32.lt_iff_toInt_lt, z0] at e2; have e3 := k_3; rw [Int32.le_iff_toInt_le] at e3; have e4 := k_4; rw [Int32.lt_iff_toInt_lt, z1] at e4; obtain ⟨n_0, hn_0, s0⟩ := nd_mul (x := (12 : Int32)) (y := (a_0)) (by (try rw [z1]); omega) (by (try rw [z1]); omega); rw [z1] at s0; obtain ⟨n_1, hn_1, s1⟩ := nd_add (x := n_0) (y := (a_1)) (by omega) (by omega); rw [hn_0, hn_1, vp_in_iff]; omega)) p_0 v12_90 x_92 as_0 as_1 iv0_90 c_93 b_92.2) d_Md_fareOf_235 (fun x_145 e_145 b_145 => ?_)
                refine vp_callSi (va_Run.run (va_runS (As := [.int p_4, .int x_143, .int x_145]) (rest := []) ⟨hx, hb, hml, hown, htb⟩ (c_Md_in l p_4 x_143 x_145) (cwS 3 htb (gd_S tw_480 tw_481 tw_479 tw_478) rfl rfl rfl (by decide +kernel) ⟨Nat.le_of_ble_eq_true rfl, Nat.le_of_ble_eq_true rfl⟩) ⟨fun _ _ _ _ h => h, fun U _ _ => ⟨rfl, trivial⟩⟩ rfl rfl hl.1 rfl (lv_room (Nat.le_of_ble_eq_true rfl)) d_Md_fareOf_236 ⟨Nat.le_of_ble_eq_true rfl, Nat.le_of_ble_eq_true rfl⟩)) (fun r er => ?_)
                subst er
                by_cases c_147 : p_4 < x_143
                · refine hb_ti 0 (by unfold f_Md_in; rw [if_pos c_147]; first | done | rfl) ?_
                  refine lv_if_eq (tgt := 261) hx hb d_Md_fareOf_239 (by decide) (fun _ => ?_) (fun h => absurd (by decide +kernel) h)
                  refine lv_iinc (v := (v12_90 + 1)) (lv' := [(12, .int (v12_90 + 1)), (0, .ref q0), (1, .int p_0), (4, .int p_3), (5, .int p_4), (6, .int p_5), (9, .int v9_90)]) hx hb d_Md_fareOf_261 hl (k := 6) rfl rfl (by decide) rfl (fun ls hl => ?_)
                  refine lv_goto (tgt := 199) hx hb d_Md_fareOf_264 (by decide) ?_
                  exact ih_90 (n_90 - 1) (ms_1 ((fun (a_0 : Int32) (a_1 : Int32) (k_0 : ¬ (a_1 ≤ a_0)) (k_1 : ¬ (12 < a_1)) => (show 1 ≤ (12 : Int32).toInt - (a_0).toInt ∧ (12 : Int32).toInt - ((a_0) + (1 : Int32)).toInt + 1 ≤ (12 : Int32).toInt - (a_0).toInt from by have z0 : (1 : Int32).toInt = 1 := (by decide +kernel); have z1 : (12 : Int32).toInt = 12 := (by decide +kernel); have r0 := fb_rng (a_0); have r1 := fb_rng (a_1); have e0 := k_0; rw [Int32.le_iff_toInt_le] at e0; have e1 := k_1; rw [Int32.lt_iff_toInt_lt, z1] at e1; obtain ⟨n_0, hn_0, s0⟩ := nd_add (x := (a_0)) (y := (1 : Int32)) (by (try rw [z0]); omega) (by (try rw [z0]); omega); rw [z0] at s0; rw [hn_0]; (try rw [z1]); omega)) v12_90 x_92 c_93 b_92.2) hm_90) v9_90 (v12_90 + 1) _ (show ¬ ((v12_90 + 1) < 0) from by have e0 := iv0_90; rw [Int32.lt_iff_toInt_lt] at e0; have e1 := iv1_90; rw [Int32.lt_iff_toInt_lt] at e1; have z0 : (0 : Int32).toInt = 0 := (by decide +kernel); have z1 : (1 : Int32).toInt = 1 := (by decide +kernel); have z2 : (12 : Int32).toInt = 12 := (by decide +kernel); have ss := fb_addI (x := v12_90) (y := 1) (by omega) (by omega); rw [Int32.lt_iff_toInt_lt]; omega) (show ¬ (12 < (v12_90 + 1)) from ((fun (a_0 : Int32) (a_1 : Int32) (k_0 : ¬ (a_1 ≤ a_0)) (k_1 : ¬ (12 < a_1)) => (show ¬ (12 < (a_0 + 1)) from by have z0 : (1 : Int32).toInt = 1 := (by decide +kernel); have z1 : (12 : Int32).toInt = 12 := (by decide +kernel); have r0 := fb_rng (a_0); have r1 := fb_rng (a_1); have e0 := k_0; rw [Int32.le_iff_toInt_le] at e0; have e1 := k_1; rw [Int32.lt_iff_toInt_lt, z1] at e1; obtain ⟨n_0, hn_0, s0⟩ := nd_add (x := (a_0)) (y := (1 : Int32)) (by (try rw [z0]); omega) (by (try rw [z0]); omega); rw [z0] at s0; rw [hn_0, Int32.lt_iff_toInt_lt, z1]; omega)) v12_90 x_92 c_93 b_92.2)) (by exact ms_2 ((fun (a_0 : Int32) (a_1 : Int32) (k_0 : ¬ (a_1 ≤ a_0)) (k_1 : ¬ (12 < a_1)) => (show 1 ≤ (12 : Int32).toInt - (a_0).toInt ∧ (12 : Int32).toInt - ((a_0) + (1 : Int32)).toInt + 1 ≤ (12 : Int32).toInt - (a_0).toInt from by have z0 : (1 : Int32).toInt = 1 := (by decide +kernel); have z1 : (12 : Int32).toInt = 12 := (by decide +kernel); have r0 := fb_rng (a_0); have r1 := fb_rng (a_1); have e0 := k_0; rw [Int32.le_iff_toInt_le] at e0; have e1 := k_1; rw [Int32.lt_iff_toInt_lt, z1] at e1; obtain ⟨n_0, hn_0, s0⟩ := nd_add (x := (a_0)) (y := (1 : Int32)) (by (try rw [z0]); omega) (by (try rw [z0]); omega); rw [z0] at s0; rw [hn_0]; (try rw [z1]); omega)) v12_90 x_92 c_93 b_92.2) hm_90) (lv_sub hl [1, 2, 3, 4, 5, 6, 0] rfl)
                · by_cases c_148 : x_145 < p_4
                  · refine hb_ti 0 (by unfold f_Md_in; rw [if_neg c_147, if_pos c_148]; first | done | rfl) ?_
                    refine lv_if_eq (tgt := 261) hx hb d_Md_fareOf_239 (by decide) (fun _ => ?_) (fun h => absurd (by decide +kernel) h)
                    refine lv_iinc (v := (v12_90 + 1)) (lv' := [(12, .int (v12_90 + 1)), (0, .ref q0), (1, .int p_0), (4, .int p_3), (5, .int p_4), (6, .int p_5), (9, .int v9_90)]) hx hb d_Md_fareOf_261 hl (k := 6) rfl rfl (by decide) rfl (fun ls hl => ?_)
                    refine lv_goto (tgt := 199) hx hb d_Md_fareOf_264 (by decide) ?_
                    exact ih_90 (n_90 - 1) (ms_1 ((fun (a_0 : Int32) (a_1 : Int32) (k_0 : ¬ (a_1 ≤ a_0)) (k_1 : ¬ (12 < a_1)) => (show 1 ≤ (12 : Int32).toInt - (a_0).toInt ∧ (12 : Int32).toInt - ((a_0) + (1 : Int32)).toInt + 1 ≤ (12 : Int32).toInt - (a_0).toInt from by have z0 : (1 : Int32).toInt = 1 := (by decide +kernel); have z1 : (12 : Int32).toInt = 12 := (by decide +kernel); have r0 := fb_rng (a_0); have r1 := fb_rng (a_1); have e0 := k_0; rw [Int32.le_iff_toInt_le] at e0; have e1 := k_1; rw [Int32.lt_iff_toInt_lt, z1] at e1; obtain ⟨n_0, hn_0, s0⟩ := nd_add (x := (a_0)) (y := (1 : Int32)) (by (try rw [z0]); omega) (by (try rw [z0]); omega); rw [z0] at s0; rw [hn_0]; (try rw [z1]); omega)) v12_90 x_92 c_93 b_92.2) hm_90) v9_90 (v12_90 + 1) _ (show ¬ ((v12_90 + 1) < 0) from by have e0 := iv0_90; rw [Int32.lt_iff_toInt_lt] at e0; have e1 := iv1_90; rw [Int32.lt_iff_toInt_lt] at e1; have z0 : (0 : Int32).toInt = 0 := (by decide +kernel); have z1 : (1 : Int32).toInt = 1 := (by decide +kernel); have z2 : (12 : Int32).toInt = 12 := (by decide +kernel); have ss := fb_addI (x := v12_90) (y := 1) (by omega) (by omega); rw [Int32.lt_iff_toInt_lt]; omega) (show ¬ (12 < (v12_90 + 1)) from ((fun (a_0 : Int32) (a_1 : Int32) (k_0 : ¬ (a_1 ≤ a_0)) (k_1 : ¬ (12 < a_1)) => (show ¬ (12 < (a_0 + 1)) from by have z0 : (1 : Int32).toInt = 1 := (by decide +kernel); have z1 : (12 : Int32).toInt = 12 := (by decide +kernel); have r0 := fb_rng (a_0); have r1 := fb_rng (a_1); have e0 := k_0; rw [Int32.le_iff_toInt_le] at e0; have e1 := k_1; rw [Int32.lt_iff_toInt_lt, z1] at e1; obtain ⟨n_0, hn_0, s0⟩ := nd_add (x := (a_0)) (y := (1 : Int32)) (by (try rw [z0]); omega) (by (try rw [z0]); omega); rw [z0] at s0; rw [hn_0, Int32.lt_iff_toInt_lt, z1]; omega)) v12_90 x_92 c_93 b_92.2)) (by exact ms_2 ((fun (a_0 : Int32) (a_1 : Int32) (k_0 : ¬ (a_1 ≤ a_0)) (k_1 : ¬ (12 < a_1)) => (show 1 ≤ (12 : Int32).toInt - (a_0).toInt ∧ (12 : Int32).toInt - ((a_0) + (1 : Int32)).toInt + 1 ≤ (12 : Int32).toInt - (a_0).toInt from by have z0 : (1 : Int32).toInt = 1 := (by decide +kernel); have z1 : (12 : Int32).toInt = 12 := (by decide +kernel); have r0 := fb_rng (a_0); have r1 := fb_rng (a_1); have e0 := k_0; rw [Int32.le_iff_toInt_le] at e0; have e1 := k_1; rw [Int32.lt_iff_toInt_lt, z1] at e1; obtain ⟨n_0, hn_0, s0⟩ := nd_add (x := (a_0)) (y := (1 : Int32)) (by (try rw [z0]); omega) (by (try rw [z0]); omega); rw [z0] at s0; rw [hn_0]; (try rw [z1]); omega)) v12_90 x_92 c_93 b_92.2) hm_90) (lv_sub hl [1, 2, 3, 4, 5, 6, 0] rfl)
                  · refine hb_ti 1 (by unfold f_Md_in; rw [if_neg c_147, if_neg c_148]; first | done | rfl) ?_
                    refine lv_if_eq (tgt := 261) hx hb d_Md_fareOf_239 (by decide) (fun h => absurd h (by decide +kernel)) (fun _ => ?_)
                    refine lv_iload hx hb d_Md_fareOf_242 (lv_at hl 5 rfl) ?_
                    refine lv_aload_n hx hb d_Md_fareOf_244 rfl (lv_at hl 0 rfl) ?_
                    refine tw_getr (D := (dC, dI)) (C := R_Md) (T := F_Md) (N := 64) (ci := 7) (kd := 27) (ct := ct) hx hb htb i_Md hown hK hP hO_0 m0 rfl rfl 39 (by decide) (htb (.fieldLink R_Md 140 "WaterMenModel" "hourIs" "[I") tw_594) (fun _ h9 => h9) rfl d_Md_fareOf_245 (fun q_149 e_149 m_149 => ?_)
                    refine lv_bipush (v := 12) hx hb d_Md_fareOf_248 (by decide +kernel) ?_
                    refine lv_iload_n hx hb d_Md_fareOf_250 rfl (lv_at hl 1 rfl) ?_
                    refine lv_imul hx hb d_Md_fareOf_251 ?_
                    refine lv_iload hx hb d_Md_fareOf_252 (lv_at hl 6 rfl) ?_
                    refine lv_iadd hx hb d_Md_fareOf_254 ?_
                    refine tw_aldI (ct := ct) hx hb hK hP hO_0 m_149 rfl ((fun (a_0 : Int32) (a_1 : Int32) (a_2 : Int32) (k_0 : ¬ (a_0 < 0)) (k_1 : ¬ (19 < a_0)) (k_2 : ¬ (a_1 < 0)) (k_3 : ¬ (a_2 ≤ a_1)) (k_4 : ¬ (12 < a_2)) => (show vp_in (((12 * a_0) + a_1)) 240 from by have z0 : (0 : Int32).toInt = 0 := (by decide +kernel); have z1 : (12 : Int32).toInt = 12 := (by decide +kernel); have z2 : (19 : Int32).toInt = 19 := (by decide +kernel); have r0 := fb_rng (a_0); have r1 := fb_rng (a_1); have r2 := fb_rng (a_2); have e0 := k_0; rw [Int32.lt_iff_toInt_lt, z0] at e0; have e1 := k_1; rw [Int32.lt_iff_toInt_lt, z2] at e1; have e2 := k_2; rw [Int32.lt_iff_toInt_lt, z0] at e2; have e3 := k_3; rw [Int32.le_iff_toInt_le] at e3; have e4 := k_4; rw [Int32.lt_iff_toInt_lt, z1] at e4; obtain ⟨n_0, hn_0, s0⟩ := nd_mul (x := (12 : Int32)) (y := (a_0)) (by (try rw [z1]); omega) (by (try rw [z1]); omega); rw [z1] at s0; obtain ⟨n_1, hn_1, s1⟩ := nd_add (x := n_0) (y := (a_1)) (by omega) (by omega); rw [hn_0, hn_1, vp_in_iff]; omega)) p_0 v12_90 x_92 as_0 as_1 iv0_90 c_93 b_92.2) d_Md_fareOf_255 (fun x_150 e_150 b_150 => ?_)
                    refine vp_callSi (va_Run.run (va_runS (As := [.int v9_90, .int x_150]) (rest := []) ⟨hx, hb, hml, hown, htb⟩ (c_Md_by_t l dC dI ct L f hO_0 v9_90 x_150) (cwS 2 htb (gd_S tw_618 tw_619 tw_479 tw_617) rfl rfl rfl (by decide +kernel) ⟨Nat.le_of_ble_eq_true rfl, Nat.le_of_ble_eq_true rfl⟩) ⟨pr_blind, pr_pre hP hK hN⟩ rfl rfl hl.1 rfl (lv_room (Nat.le_of_ble_eq_true rfl)) d_Md_fareOf_256 ⟨Nat.le_of_ble_eq_true rfl, Nat.le_of_ble_eq_true rfl⟩)) (fun r_151 er_151 => ?_)
                    clear er_151
                    refine lv_istore (lv' := [(9, .int r_151), (0, .ref q0), (1, .int p_0), (4, .int p_3), (5, .int p_4), (6, .int p_5), (12, .int v12_90)]) hx hb d_Md_fareOf_259 hl (by decide) rfl (fun ls hl => ?_)
                    refine lv_iinc (v := (v12_90 + 1)) (lv' := [(12, .int (v12_90 + 1)), (9, .int r_151), (0, .ref q0), (1, .int p_0), (4, .int p_3), (5, .int p_4), (6, .int p_5)]) hx hb d_Md_fareOf_261 hl (k := 6) rfl rfl (by decide) rfl (fun ls hl => ?_)
                    refine lv_goto (tgt := 199) hx hb d_Md_fareOf_264 (by decide) ?_
                    exact ih_90 (n_90 - 1) (ms_1 ((fun (a_0 : Int32) (a_1 : Int32) (k_0 : ¬ (a_1 ≤ a_0)) (k_1 : ¬ (12 < a_1)) => (show 1 ≤ (12 : Int32).toInt - (a_0).toInt ∧ (12 : Int32).toInt - ((a_0) + (1 : Int32)).toInt + 1 ≤ (12 : Int32).toInt - (a_0).toInt from by have z0 : (1 : Int32).toInt = 1 := (by decide +kernel); have z1 : (12 : Int32).toInt = 12 := (by decide +kernel); have r0 := fb_rng (a_0); have r1 := fb_rng (a_1); have e0 := k_0; rw [Int32.le_iff_toInt_le] at e0; have e1 := k_1; rw [Int32.lt_iff_toInt_lt, z1] at e1; obtain ⟨n_0, hn_0, s0⟩ := nd_add (x := (a_0)) (y := (1 : Int32)) (by (try rw [z0]); omega) (by (try rw [z0]); omega); rw [z0] at s0; rw [hn_0]; (try rw [z1]); omega)) v12_90 x_92 c_93 b_92.2) hm_90) r_151 (v12_90 + 1) _ (show ¬ ((v12_90 + 1) < 0) from by have e0 := iv0_90; rw [Int32.lt_iff_toInt_lt] at e0; have e1 := iv1_90; rw [Int32.lt_iff_toInt_lt] at e1; have z0 : (0 : Int32).toInt = 0 := (by decide +kernel); have z1 : (1 : Int32).toInt = 1 := (by decide +kernel); have z2 : (12 : Int32).toInt = 12 := (by decide +kernel); have ss := fb_addI (x := v12_90) (y := 1) (by omega) (by omega); rw [Int32.lt_iff_toInt_lt]; omega) (show ¬ (12 < (v12_90 + 1)) from ((fun (a_0 : Int32) (a_1 : Int32) (k_0 : ¬ (a_1 ≤ a_0)) (k_1 : ¬ (12 < a_1)) => (show ¬ (12 < (a_0 + 1)) from by have z0 : (1 : Int32).toInt = 1 := (by decide +kernel); have z1 : (12 : Int32).toInt = 12 := (by decide +kernel); have r0 := fb_rng (a_0); have r1 := fb_rng (a_1); have e0 := k_0; rw [Int32.le_iff_toInt_le] at e0; have e1 := k_1; rw [Int32.lt_iff_toInt_lt, z1] at e1; obtain ⟨n_0, hn_0, s0⟩ := nd_add (x := (a_0)) (y := (1 : Int32)) (by (try rw [z0]); omega) (by (try rw [z0]); omega); rw [z0] at s0; rw [hn_0, Int32.lt_iff_toInt_lt, z1]; omega)) v12_90 x_92 c_93 b_92.2)) (by exact ms_2 ((fun (a_0 : Int32) (a_1 : Int32) (k_0 : ¬ (a_1 ≤ a_0)) (k_1 : ¬ (12 < a_1)) => (show 1 ≤ (12 : Int32).toInt - (a_0).toInt ∧ (12 : Int32).toInt - ((a_0) + (1 : Int32)).toInt + 1 ≤ (12 : Int32).toInt - (a_0).toInt from by have z0 : (1 : Int32).toInt = 1 := (by decide +kernel); have z1 : (12 : Int32).toInt = 12 := (by decide +kernel); have r0 := fb_rng (a_0); have r1 := fb_rng (a_1); have e0 := k_0; rw [Int32.le_iff_toInt_le] at e0; have e1 := k_1; rw [Int32.lt_iff_toInt_lt, z1] at e1; obtain ⟨n_0, hn_0, s0⟩ := nd_add (x := (a_0)) (y := (1 : Int32)) (by (try rw [z0]); omega) (by (try rw [z0]); omega); rw [z0] at s0; rw [hn_0]; (try rw [z1]); omega)) v12_90 x_92 c_93 b_92.2) hm_90) (lv_sub hl [2, 3, 4, 5, 6, 1, 0] rfl)
          refine lv_iload hx hb d_Md_fareOf_116 (lv_at hl 7 rfl) ?_
          refine lv_if_ge (tgt := 124) hx hb d_Md_fareOf_118 (by decide) (fun _ => ?_) (fun h => absurd c_89 h)
          refine lv_aload_n hx hb d_Md_fareOf_124 rfl (lv_at hl 0 rfl) ?_
          refine lv_iload hx hb d_Md_fareOf_125 (lv_at hl 2 rfl) ?_
          refine lv_iload hx hb d_Md_fareOf_127 (lv_at hl 3 rfl) ?_
          refine vp_callSi (va_Run.run (va_runV (As := [.int p_3, .int p_4]) (rest := []) ⟨hx, hb, hml, hown, htb⟩ (c_Md_flowOf_t l dC dI ct L f hO_0 q0 m0 p_3 p_4 as_6 as_7 as_8 as_9) (cwV 2 htb (gd_V tw_495 tw_496 tw_497 tw_479 tw_494) rfl rfl rfl (by decide +kernel) ⟨Nat.le_of_ble_eq_true rfl, Nat.le_of_ble_eq_true rfl⟩) ⟨pr_blind, tw_recv hK hP m0 rfl rfl, pr_pre hP hK hN⟩ rfl rfl hl.1 rfl (lv_room (Nat.le_of_ble_eq_true rfl)) d_Md_fareOf_129 ⟨Nat.le_of_ble_eq_true rfl, Nat.le_of_ble_eq_true rfl⟩)) (fun r_152 er_152 => ?_)
          clear er_152
          refine lv_istore (lv' := [(10, .int r_152), (0, .ref q0), (1, .int p_0), (4, .int p_3), (5, .int p_4), (6, .int p_5), (7, .int v7_1), (8, .int v8_1), (9, .int v9_1)]) hx hb d_Md_fareOf_132 hl (by decide) rfl (fun ls hl => ?_)
          refine lv_iload hx hb d_Md_fareOf_134 (lv_at hl 0 rfl) ?_
          refine lv_if_ne (tgt := 143) hx hb d_Md_fareOf_136 (by decide) (fun c_153 => ?_) (fun c_153 => ?_)
          · refine lv_iload hx hb d_Md_fareOf_143 (lv_at hl 0 rfl) ?_
            refine lv_if_le (tgt := 152) hx hb d_Md_fareOf_145 (by decide) (fun c_154 => ?_) (fun c_154 => ?_)
            · refine lv_iconst (v := 0) hx hb d_Md_fareOf_152 (by decide +kernel) ?_
              refine lv_iload hx hb d_Md_fareOf_153 (lv_at hl 7 rfl) ?_
              refine lv_icmp_ne (tgt := 163) hx hb d_Md_fareOf_155 (by decide) (fun c_155 => ?_) (fun c_155 => ?_)
              · refine lv_bipush (v := 13) hx hb d_Md_fareOf_163 (by decide +kernel) ?_
                refine lv_istore (lv' := [(11, .int 13), (10, .int r_152), (0, .ref q0), (1, .int p_0), (4, .int p_3), (5, .int p_4), (6, .int p_5), (7, .int v7_1), (8, .int v8_1), (9, .int v9_1)]) hx hb d_Md_fareOf_165 hl (by decide) rfl (fun ls hl => ?_)
                refine lv_iload hx hb d_Md_fareOf_167 (lv_at hl 0 rfl) ?_
                refine lv_if_le (tgt := 196) hx hb d_Md_fareOf_169 (by decide) (fun h => absurd h (by decide +kernel)) (fun _ => ?_)
                refine lv_aload_n hx hb d_Md_fareOf_172 rfl (lv_at hl 2 rfl) ?_
                refine lv_iload_n hx hb d_Md_fareOf_173 rfl (lv_at hl 3 rfl) ?_
                refine lv_iload hx hb d_Md_fareOf_174 (lv_at hl 0 rfl) ?_
                refine vp_callSi (va_Run.run (va_runV (As := [.int p_0, .int 13]) (rest := []) ⟨hx, hb, hml, hown, htb⟩ (c_Md_lineOf_t l dC dI ct L f hO_0 q0 m0 p_0 (13 : Int32) as_0 as_1 (by decide +kernel) (by decide +kernel)) (cwV 2 htb (gd_V tw_611 tw_612 tw_613 tw_479 tw_610) rfl rfl rfl (by decide +kernel) ⟨Nat.le_of_ble_eq_true rfl, Nat.le_of_ble_eq_true rfl⟩) ⟨pr_blind, tw_recv hK hP m0 rfl rfl, pr_pre hP hK hN⟩ rfl rfl hl.1 rfl (lv_room (Nat.le_of_ble_eq_true rfl)) d_Md_fareOf_176 ⟨Nat.le_of_ble_eq_true rfl, Nat.le_of_ble_eq_true rfl⟩)) (fun r_156 er_156 => ?_)
                clear er_156
                refine lv_if_lt (tgt := 196) hx hb d_Md_fareOf_179 (by decide) (fun c_157 => ?_) (fun c_157 => ?_)
                · refine lv_iconst (v := 0) hx hb d_Md_fareOf_196 (by decide +kernel) ?_
                  refine lv_istore (lv' := [(12, .int 0), (11, .int 13), (10, .int r_152), (0, .ref q0), (1, .int p_0), (4, .int p_3), (5, .int p_4), (6, .int p_5), (7, .int v7_1), (8, .int v8_1), (9, .int v9_1)]) hx hb d_Md_fareOf_197 hl (by decide) rfl (fun ls hl => ?_)
                  exact cut_90 4294967296 v9_1 (0 : Int32) _ (by decide +kernel) (by decide +kernel) (by exact ms_0 _ _) (lv_sub hl [3, 4, 5, 6, 7, 10, 0] rfl)
                · refine lv_iload hx hb d_Md_fareOf_182 (lv_at hl 9 rfl) ?_
                  refine lv_aload_n hx hb d_Md_fareOf_184 rfl (lv_at hl 2 rfl) ?_
                  refine lv_iload_n hx hb d_Md_fareOf_185 rfl (lv_at hl 3 rfl) ?_
                  refine lv_iload hx hb d_Md_fareOf_186 (lv_at hl 0 rfl) ?_
                  refine vp_callSi (va_Run.run (va_runV (As := [.int p_0, .int 13]) (rest := [.int v9_1]) ⟨hx, hb, hml, hown, htb⟩ (c_Md_lineOf_t l dC dI ct L f hO_0 q0 m0 p_0 (13 : Int32) as_0 as_1 (by decide +kernel) (by decide +kernel)) (cwV 2 htb (gd_V tw_611 tw_612 tw_613 tw_479 tw_610) rfl rfl rfl (by decide +kernel) ⟨Nat.le_of_ble_eq_true rfl, Nat.le_of_ble_eq_true rfl⟩) ⟨pr_blind, tw_recv hK hP m0 rfl rfl, pr_pre hP hK hN⟩ rfl rfl hl.1 rfl (lv_room (Nat.le_of_ble_eq_true rfl)) d_Md_fareOf_188 ⟨Nat.le_of_ble_eq_true rfl, Nat.le_of_ble_eq_true rfl⟩)) (fun r_158 er_158 => ?_)
                  clear er_158
                  refine vp_callSi (va_Run.run (va_runS (As := [.int v9_1, .int r_158]) (rest := []) ⟨hx, hb, hml, hown, htb⟩ (c_Md_by_t l dC dI ct L f hO_0 v9_1 r_158) (cwS 2 htb (gd_S tw_618 tw_619 tw_479 tw_617) rfl rfl rfl (by decide +kernel) ⟨Nat.le_of_ble_eq_true rfl, Nat.le_of_ble_eq_true rfl⟩) ⟨pr_blind, pr_pre hP hK hN⟩ rfl rfl hl.1 rfl (lv_room (Nat.le_of_ble_eq_true rfl)) d_Md_fareOf_191 ⟨Nat.le_of_ble_eq_true rfl, Nat.le_of_ble_eq_true rfl⟩)) (fun r_159 er_159 => ?_)
                  clear er_159
                  refine lv_istore (lv' := [(9, .int r_159), (11, .int 13), (10, .int r_152), (0, .ref q0), (1, .int p_0), (4, .int p_3), (5, .int p_4), (6, .int p_5), (7, .int v7_1), (8, .int v8_1)]) hx hb d_Md_fareOf_194 hl (by decide) rfl (fun ls hl => ?_)
                  refine lv_iconst (v := 0) hx hb d_Md_fareOf_196 (by decide +kernel) ?_
                  refine lv_istore (lv' := [(12, .int 0), (9, .int r_159), (11, .int 13), (10, .int r_152), (0, .ref q0), (1, .int p_0), (4, .int p_3), (5, .int p_4), (6, .int p_5), (7, .int v7_1), (8, .int v8_1)]) hx hb d_Md_fareOf_197 hl (by decide) rfl (fun ls hl => ?_)
                  exact cut_90 4294967296 r_159 (0 : Int32) _ (by decide +kernel) (by decide +kernel) (by exact ms_0 _ _) (lv_sub hl [4, 5, 6, 7, 8, 1, 0] rfl)
              · refine lv_bipush (v := 12) hx hb d_Md_fareOf_158 (by decide +kernel) ?_
                refine lv_goto (tgt := 165) hx hb d_Md_fareOf_160 (by decide) ?_
                refine lv_istore (lv' := [(11, .int 12), (10, .int r_152), (0, .ref q0), (1, .int p_0), (4, .int p_3), (5, .int p_4), (6, .int p_5), (7, .int v7_1), (8, .int v8_1), (9, .int v9_1)]) hx hb d_Md_fareOf_165 hl (by decide) rfl (fun ls hl => ?_)
                refine lv_iload hx hb d_Md_fareOf_167 (lv_at hl 0 rfl) ?_
                refine lv_if_le (tgt := 196) hx hb d_Md_fareOf_169 (by decide) (fun h => absurd h (by decide +kernel)) (fun _ => ?_)
                refine lv_aload_n hx hb d_Md_fareOf_172 rfl (lv_at hl 2 rfl) ?_
                refine lv_iload_n hx hb d_Md_fareOf_173 rfl (lv_at hl 3 rfl) ?_
                refine lv_iload hx hb d_Md_fareOf_174 (lv_at hl 0 rfl) ?_
                refine vp_callSi (va_Run.run (va_runV (As := [.int p_0, .int 12]) (rest := []) ⟨hx, hb, hml, hown, htb⟩ (c_Md_lineOf_t l dC dI ct L f hO_0 q0 m0 p_0 (12 : Int32) as_0 as_1 (by decide +kernel) (by decide +kernel)) (cwV 2 htb (gd_V tw_611 tw_612 tw_613 tw_479 tw_610) rfl rfl rfl (by decide +kernel) ⟨Nat.le_of_ble_eq_true rfl, Nat.le_of_ble_eq_true rfl⟩) ⟨pr_blind, tw_recv hK hP m0 rfl rfl, pr_pre hP hK hN⟩ rfl rfl hl.1 rfl (lv_room (Nat.le_of_ble_eq_true rfl)) d_Md_fareOf_176 ⟨Nat.le_of_ble_eq_true rfl, Nat.le_of_ble_eq_true rfl⟩)) (fun r_160 er_160 => ?_)
                clear er_160
                refine lv_if_lt (tgt := 196) hx hb d_Md_fareOf_179 (by decide) (fun c_161 => ?_) (fun c_161 => ?_)
                · refine lv_iconst (v := 0) hx hb d_Md_fareOf_196 (by decide +kernel) ?_
                  refine lv_istore (lv' := [(12, .int 0), (11, .int 12), (10, .int r_152), (0, .ref q0), (1, .int p_0), (4, .int p_3), (5, .int p_4), (6, .int p_5), (7, .int v7_1), (8, .int v8_1), (9, .int v9_1)]) hx hb d_Md_fareOf_197 hl (by decide) rfl (fun ls hl => ?_)
                  exact cut_90 4294967296 v9_1 (0 : Int32) _ (by decide +kernel) (by decide +kernel) (by exact ms_0 _ _) (lv_sub hl [3, 4, 5, 6, 7, 10, 0] rfl)
                · refine lv_iload hx hb d_Md_fareOf_182 (lv_at hl 9 rfl) ?_
                  refine lv_aload_n hx hb d_Md_fareOf_184 rfl (lv_at hl 2 rfl) ?_
                  refine lv_iload_n hx hb d_Md_fareOf_185 rfl (lv_at hl 3 rfl) ?_
                  refine lv_iload hx hb d_Md_fareOf_186 (lv_at hl 0 rfl) ?_
                  refine vp_callSi (va_Run.run (va_runV (As := [.int p_0, .int 12]) (rest := [.int v9_1]) ⟨hx, hb, hml, hown, htb⟩ (c_Md_lineOf_t l dC dI ct L f hO_0 q0 m0 p_0 (12 : Int32) as_0 as_1 (by decide +kernel) (by decide +kernel)) (cwV 2 htb (gd_V tw_611 tw_612 tw_613 tw_479 tw_610) rfl rfl rfl (by decide +kernel) ⟨Nat.le_of_ble_eq_true rfl, Nat.le_of_ble_eq_true rfl⟩) ⟨pr_blind, tw_recv hK hP m0 rfl rfl, pr_pre hP hK hN⟩ rfl rfl hl.1 rfl (lv_room (Nat.le_of_ble_eq_true rfl)) d_Md_fareOf_188 ⟨Nat.le_of_ble_eq_true rfl, Nat.le_of_ble_eq_true rfl⟩)) (fun r_162 er_162 => ?_)
                  clear er_162
                  refine vp_callSi (va_Run.run (va_runS (As := [.int v9_1, .int r_162]) (rest := []) ⟨hx, hb, hml, hown, htb⟩ (c_Md_by_t l dC dI ct L f hO_0 v9_1 r_162) (cwS 2 htb (gd_S tw_618 tw_619 tw_479 tw_617) rfl rfl rfl (by decide +kernel) ⟨Nat.le_of_ble_eq_true rfl, Nat.le_of_ble_eq_true rfl⟩) ⟨pr_blind, pr_pre hP hK hN⟩ rfl rfl hl.1 rfl (lv_room (Nat.le_of_ble_eq_true rfl)) d_Md_fareOf_191 ⟨Nat.le_of_ble_eq_true rfl, Nat.le_of_ble_eq_true rfl⟩)) (fun r_163 er_163 => ?_)
                  clear er_163
                  refine lv_istore (lv' := [(9, .int r_163), (11, .int 12), (10, .int r_152), (0, .ref q0), (1, .int p_0), (4, .int p_3), (5, .int p_4), (6, .int p_5), (7, .int v7_1), (8, .int v8_1)]) hx hb d_Md_fareOf_194 hl (by decide) rfl (fun ls hl => ?_)
                  refine lv_iconst (v := 0) hx hb d_Md_fareOf_196 (by decide +kernel) ?_
                  refine lv_istore (lv' := [(12, .int 0), (9, .int r_163), (11, .int 12), (10, .int r_152), (0, .ref q0), (1, .int p_0), (4, .int p_3), (5, .int p_4), (6, .int p_5), (7, .int v7_1), (8, .int v8_1)]) hx hb d_Md_fareOf_197 hl (by decide) rfl (fun ls hl => ?_)
                  exact cut_90 4294967296 r_163 (0 : Int32) _ (by decide +kernel) (by decide +kernel) (by exact ms_0 _ _) (lv_sub hl [4, 5, 6, 7, 8, 1, 0] rfl)
            · refine lv_iconst (v := 1) hx hb d_Md_fareOf_148 (by decide +kernel) ?_
              refine lv_goto (tgt := 153) hx hb d_Md_fareOf_149 (by decide) ?_
              refine lv_iload hx hb d_Md_fareOf_153 (lv_at hl 7 rfl) ?_
              refine lv_icmp_ne (tgt := 163) hx hb d_Md_fareOf_155 (by decide) (fun c_164 => ?_) (fun c_164 => ?_)
              · refine lv_bipush (v := 13) hx hb d_Md_fareOf_163 (by decide +kernel) ?_
                refine lv_istore (lv' := [(11, .int 13), (10, .int r_152), (0, .ref q0), (1, .int p_0), (4, .int p_3), (5, .int p_4), (6, .int p_5), (7, .int v7_1), (8, .int v8_1), (9, .int v9_1)]) hx hb d_Md_fareOf_165 hl (by decide) rfl (fun ls hl => ?_)
                refine lv_iload hx hb d_Md_fareOf_167 (lv_at hl 0 rfl) ?_
                refine lv_if_le (tgt := 196) hx hb d_Md_fareOf_169 (by decide) (fun h => absurd h (by decide +kernel)) (fun _ => ?_)
                refine lv_aload_n hx hb d_Md_fareOf_172 rfl (lv_at hl 2 rfl) ?_
                refine lv_iload_n hx hb d_Md_fareOf_173 rfl (lv_at hl 3 rfl) ?_
                refine lv_iload hx hb d_Md_fareOf_174 (lv_at hl 0 rfl) ?_
                refine vp_callSi (va_Run.run (va_runV (As := [.int p_0, .int 13]) (rest := []) ⟨hx, hb, hml, hown, htb⟩ (c_Md_lineOf_t l dC dI ct L f hO_0 q0 m0 p_0 (13 : Int32) as_0 as_1 (by decide +kernel) (by decide +kernel)) (cwV 2 htb (gd_V tw_611 tw_612 tw_613 tw_479 tw_610) rfl rfl rfl (by decide +kernel) ⟨Nat.le_of_ble_eq_true rfl, Nat.le_of_ble_eq_true rfl⟩) ⟨pr_blind, tw_recv hK hP m0 rfl rfl, pr_pre hP hK hN⟩ rfl rfl hl.1 rfl (lv_room (Nat.le_of_ble_eq_true rfl)) d_Md_fareOf_176 ⟨Nat.le_of_ble_eq_true rfl, Nat.le_of_ble_eq_true rfl⟩)) (fun r_165 er_165 => ?_)
                clear er_165
                refine lv_if_lt (tgt := 196) hx hb d_Md_fareOf_179 (by decide) (fun c_166 => ?_) (fun c_166 => ?_)
                · refine lv_iconst (v := 0) hx hb d_Md_fareOf_196 (by decide +kernel) ?_
                  refine lv_istore (lv' := [(12, .int 0), (11, .int 13), (10, .int r_152), (0, .ref q0), (1, .int p_0), (4, .int p_3), (5, .int p_4), (6, .int p_5), (7, .int v7_1), (8, .int v8_1), (9, .int v9_1)]) hx hb d_Md_fareOf_197 hl (by decide) rfl (fun ls hl => ?_)
                  exact cut_90 4294967296 v9_1 (0 : Int32) _ (by decide +kernel) (by decide +kernel) (by exact ms_0 _ _) (lv_sub hl [3, 4, 5, 6, 7, 10, 0] rfl)
                · refine lv_iload hx hb d_Md_fareOf_182 (lv_at hl 9 rfl) ?_
                  refine lv_aload_n hx hb d_Md_fareOf_184 rfl (lv_at hl 2 rfl) ?_
                  refine lv_iload_n hx hb d_Md_fareOf_185 rfl (lv_at hl 3 rfl) ?_
                  refine lv_iload hx hb d_Md_fareOf_186 (lv_at hl 0 rfl) ?_
                  refine vp_callSi (va_Run.run (va_runV (As := [.int p_0, .int 13]) (rest := [.int v9_1]) ⟨hx, hb, hml, hown, htb⟩ (c_Md_lineOf_t l dC dI ct L f hO_0 q0 m0 p_0 (13 : Int32) as_0 as_1 (by decide +kernel) (by decide +kernel)) (cwV 2 htb (gd_V tw_611 tw_612 tw_613 tw_479 tw_610) rfl rfl rfl (by decide +kernel) ⟨Nat.le_of_ble_eq_true rfl, Nat.le_of_ble_eq_true rfl⟩) ⟨pr_blind, tw_recv hK hP m0 rfl rfl, pr_pre hP hK hN⟩ rfl rfl hl.1 rfl (lv_room (Nat.le_of_ble_eq_true rfl)) d_Md_fareOf_188 ⟨Nat.le_of_ble_eq_true rfl, Nat.le_of_ble_eq_true rfl⟩)) (fun r_167 er_167 => ?_)
                  clear er_167
                  refine vp_callSi (va_Run.run (va_runS (As := [.int v9_1, .int r_167]) (rest := []) ⟨hx, hb, hml, hown, htb⟩ (c_Md_by_t l dC dI ct L f hO_0 v9_1 r_167) (cwS 2 htb (gd_S tw_618 tw_619 tw_479 tw_617) rfl rfl rfl (by decide +kernel) ⟨Nat.le_of_ble_eq_true rfl, Nat.le_of_ble_eq_true rfl⟩) ⟨pr_blind, pr_pre hP hK hN⟩ rfl rfl hl.1 rfl (lv_room (Nat.le_of_ble_eq_true rfl)) d_Md_fareOf_191 ⟨Nat.le_of_ble_eq_true rfl, Nat.le_of_ble_eq_true rfl⟩)) (fun r_168 er_168 => ?_)
                  clear er_168
                  refine lv_istore (lv' := [(9, .int r_168), (11, .int 13), (10, .int r_152), (0, .ref q0), (1, .int p_0), (4, .int p_3), (5, .int p_4), (6, .int p_5), (7, .int v7_1), (8, .int v8_1)]) hx hb d_Md_fareOf_194 hl (by decide) rfl (fun ls hl => ?_)
                  refine lv_iconst (v := 0) hx hb d_Md_fareOf_196 (by decide +kernel) ?_
                  refine lv_istore (lv' := [(12, .int 0), (9, .int r_168), (11, .int 13), (10, .int r_152), (0, .ref q0), (1, .int p_0), (4, .int p_3), (5, .int p_4), (6, .int p_5), (7, .int v7_1), (8, .int v8_1)]) hx hb d_Md_fareOf_197 hl (by decide) rfl (fun ls hl => ?_)
                  exact cut_90 4294967296 r_168 (0 : Int32) _ (by decide +kernel) (by decide +kernel) (by exact ms_0 _ _) (lv_sub hl [4, 5, 6, 7, 8, 1, 0] rfl)
              · refine lv_bipush (v := 12) hx hb d_Md_fareOf_158 (by decide +kernel) ?_
                refine lv_goto (tgt := 165) hx hb d_Md_fareOf_160 (by decide) ?_
                refine lv_istore (lv' := [(11, .int 12), (10, .int r_152), (0, .ref q0), (1, .int p_0), (4, .int p_3), (5, .int p_4), (6, .int p_5), (7, .int v7_1), (8, .int v8_1), (9, .int v9_1)]) hx hb d_Md_fareOf_165 hl (by decide) rfl (fun ls hl => ?_)
                refine lv_iload hx hb d_Md_fareOf_167 (lv_at hl 0 rfl) ?_
                refine lv_if_le (tgt := 196) hx hb d_Md_fareOf_169 (by decide) (fun h => absurd h (by decide +kernel)) (fun _ => ?_)
                refine lv_aload_n hx hb d_Md_fareOf_172 rfl (lv_at hl 2 rfl) ?_
                refine lv_iload_n hx hb d_Md_fareOf_173 rfl (lv_at hl 3 rfl) ?_
                refine lv_iload hx hb d_Md_fareOf_174 (lv_at hl 0 rfl) ?_
                refine vp_callSi (va_Run.run (va_runV (As := [.int p_0, .int 12]) (rest := []) ⟨hx, hb, hml, hown, htb⟩ (c_Md_lineOf_t l dC dI ct L f hO_0 q0 m0 p_0 (12 : Int32) as_0 as_1 (by decide +kernel) (by decide +kernel)) (cwV 2 htb (gd_V tw_611 tw_612 tw_613 tw_479 tw_610) rfl rfl rfl (by decide +kernel) ⟨Nat.le_of_ble_eq_true rfl, Nat.le_of_ble_eq_true rfl⟩) ⟨pr_blind, tw_recv hK hP m0 rfl rfl, pr_pre hP hK hN⟩ rfl rfl hl.1 rfl (lv_room (Nat.le_of_ble_eq_true rfl)) d_Md_fareOf_176 ⟨Nat.le_of_ble_eq_true rfl, Nat.le_of_ble_eq_true rfl⟩)) (fun r_169 er_169 => ?_)
                clear er_169
                refine lv_if_lt (tgt := 196) hx hb d_Md_fareOf_179 (by decide) (fun c_170 => ?_) (fun c_170 => ?_)
                · refine lv_iconst (v := 0) hx hb d_Md_fareOf_196 (by decide +kernel) ?_
                  refine lv_istore (lv' := [(12, .int 0), (11, .int 12), (10, .int r_152), (0, .ref q0), (1, .int p_0), (4, .int p_3), (5, .int p_4), (6, .int p_5), (7, .int v7_1), (8, .int v8_1), (9, .int v9_1)]) hx hb d_Md_fareOf_197 hl (by decide) rfl (fun ls hl => ?_)
                  exact cut_90 4294967296 v9_1 (0 : Int32) _ (by decide +kernel) (by decide +kernel) (by exact ms_0 _ _) (lv_sub hl [3, 4, 5, 6, 7, 10, 0] rfl)
                · refine lv_iload hx hb d_Md_fareOf_182 (lv_at hl 9 rfl) ?_
                  refine lv_aload_n hx hb d_Md_fareOf_184 rfl (lv_at hl 2 rfl) ?_
                  refine lv_iload_n hx hb d_Md_fareOf_185 rfl (lv_at hl 3 rfl) ?_
                  refine lv_iload hx hb d_Md_fareOf_186 (lv_at hl 0 rfl) ?_
                  refine vp_callSi (va_Run.run (va_runV (As := [.int p_0, .int 12]) (rest := [.int v9_1]) ⟨hx, hb, hml, hown, htb⟩ (c_Md_lineOf_t l dC dI ct L f hO_0 q0 m0 p_0 (12 : Int32) as_0 as_1 (by decide +kernel) (by decide +kernel)) (cwV 2 htb (gd_V tw_611 tw_612 tw_613 tw_479 tw_610) rfl rfl rfl (by decide +kernel) ⟨Nat.le_of_ble_eq_true rfl, Nat.le_of_ble_eq_true rfl⟩) ⟨pr_blind, tw_recv hK hP m0 rfl rfl, pr_pre hP hK hN⟩ rfl rfl hl.1 rfl (lv_room (Nat.le_of_ble_eq_true rfl)) d_Md_fareOf_188 ⟨Nat.le_of_ble_eq_true rfl, Nat.le_of_ble_eq_true rfl⟩)) (fun r_171 er_171 => ?_)
                  clear er_171
                  refine vp_callSi (va_Run.run (va_runS (As := [.int v9_1, .int r_171]) (rest := []) ⟨hx, hb, hml, hown, htb⟩ (c_Md_by_t l dC dI ct L f hO_0 v9_1 r_171) (cwS 2 htb (gd_S tw_618 tw_619 tw_479 tw_617) rfl rfl rfl (by decide +kernel) ⟨Nat.le_of_ble_eq_true rfl, Nat.le_of_ble_eq_true rfl⟩) ⟨pr_blind, pr_pre hP hK hN⟩ rfl rfl hl.1 rfl (lv_room (Nat.le_of_ble_eq_true rfl)) d_Md_fareOf_191 ⟨Nat.le_of_ble_eq_true rfl, Nat.le_of_ble_eq_true rfl⟩)) (fun r_172 er_172 => ?_)
                  clear er_172
                  refine lv_istore (lv' := [(9, .int r_172), (11, .int 12), (10, .int r_152), (0, .ref q0), (1, .int p_0), (4, .int p_3), (5, .int p_4), (6, .int p_5), (7, .int v7_1), (8, .int v8_1)]) hx hb d_Md_fareOf_194 hl (by decide) rfl (fun ls hl => ?_)
                  refine lv_iconst (v := 0) hx hb d_Md_fareOf_196 (by decide +kernel) ?_
                  refine lv_istore (lv' := [(12, .int 0), (9, .int r_172), (11, .int 12), (10, .int r_152), (0, .ref q0), (1, .int p_0), (4, .int p_3), (5, .int p_4), (6, .int p_5), (7, .int v7_1), (8, .int v8_1)]) hx hb d_Md_fareOf_197 hl (by decide) rfl (fun ls hl => ?_)
                  exact cut_90 4294967296 r_172 (0 : Int32) _ (by decide +kernel) (by decide +kernel) (by exact ms_0 _ _) (lv_sub hl [4, 5, 6, 7, 8, 1, 0] rfl)
          · refine lv_iconst (v := 0) hx hb d_Md_fareOf_139 (by decide +kernel) ?_
            refine lv_goto (tgt := 165) hx hb d_Md_fareOf_140 (by decide) ?_
            refine lv_istore (lv' := [(11, .int 0), (10, .int r_152), (0, .ref q0), (1, .int p_0), (4, .int p_3), (5, .int p_4), (6, .int p_5), (7, .int v7_1), (8, .int v8_1), (9, .int v9_1)]) hx hb d_Md_fareOf_165 hl (by decide) rfl (fun ls hl => ?_)
            refine lv_iload hx hb d_Md_fareOf_167 (lv_at hl 0 rfl) ?_
            refine lv_if_le (tgt := 196) hx hb d_Md_fareOf_169 (by decide) (fun _ => ?_) (fun h => absurd (by decide +kernel) h)
            refine lv_iconst (v := 0) hx hb d_Md_fareOf_196 (by decide +kernel) ?_
            refine lv_istore (lv' := [(12, .int 0), (11, .int 0), (10, .int r_152), (0, .ref q0), (1, .int p_0), (4, .int p_3), (5, .int p_4), (6, .int p_5), (7, .int v7_1), (8, .int v8_1), (9, .int v9_1)]) hx hb d_Md_fareOf_197 hl (by decide) rfl (fun ls hl => ?_)
            exact cut_90 4294967296 v9_1 (0 : Int32) _ (by decide +kernel) (by decide +kernel) (by exact ms_0 _ _) (lv_sub hl [3, 4, 5, 6, 7, 10, 0] rfl)
        · refine lv_iload hx hb d_Md_fareOf_64 (lv_at hl 5 rfl) ?_
          refine lv_aload_n hx hb d_Md_fareOf_66 rfl (lv_at hl 0 rfl) ?_
          refine tw_getr (D := (dC, dI)) (C := R_Md) (T := F_Md) (N := 64) (ci := 7) (kd := 27) (ct := ct) hx hb htb i_Md hown hK hP hO_0 m0 rfl rfl 33 (by decide) (htb (.fieldLink R_Md 122 "WaterMenModel" "fareLow" "[I") tw_596) (fun _ h9 => h9) rfl d_Md_fareOf_67 (fun q_173 e_173 m_173 => ?_)
          refine lv_bipush (v := 12) hx hb d_Md_fareOf_70 (by decide +kernel) ?_
          refine lv_iload_n hx hb d_Md_fareOf_72 rfl (lv_at hl 1 rfl) ?_
          refine lv_imul hx hb d_Md_fareOf_73 ?_
          refine lv_iload hx hb d_Md_fareOf_74 (lv_at hl 8 rfl) ?_
          refine lv_iadd hx hb d_Md_fareOf_76 ?_
          refine tw_aldI (ct := ct) hx hb hK hP hO_0 m_173 rfl ((fun (a_0 : Int32) (a_1 : Int32) (a_2 : Int32) (k_0 : ¬ (a_0 < 0)) (k_1 : ¬ (19 < a_0)) (k_2 : ¬ (a_1 < 0)) (k_3 : ¬ (a_2 ≤ a_1)) (k_4 : ¬ (12 < a_2)) => (show vp_in (((12 * a_0) + a_1)) 240 from by have z0 : (0 : Int32).toInt = 0 := (by decide +kernel); have z1 : (12 : Int32).toInt = 12 := (by decide +kernel); have z2 : (19 : Int32).toInt = 19 := (by decide +kernel); have r0 := fb_rng (a_0); have r1 := fb_rng (a_1); have r2 := fb_rng (a_2); have e0 := k_0; rw [Int32.lt_iff_toInt_lt, z0] at e0; have e1 := k_1; rw [Int32.lt_iff_toInt_lt, z2] at e1; have e2 := k_2; rw [Int32.lt_iff_toInt_lt, z0] at e2; have e3 := k_3; rw [Int32.le_iff_toInt_le] at e3; have e4 := k_4; rw [Int32.lt_iff_toInt_lt, z1] at e4; obtain ⟨n_0, hn_0, s0⟩ := nd_mul (x := (12 : Int32)) (y := (a_0)) (by (try rw [z1]); omega) (by (try rw [z1]); omega); rw [z1] at s0; obtain ⟨n_1, hn_1, s1⟩ := nd_add (x := n_0) (y := (a_1)) (by omega) (by omega); rw [hn_0, hn_1, vp_in_iff]; omega)) p_0 v10_1 x_3 as_0 as_1 iv0_1 c_4 b_3.2) d_Md_fareOf_77 (fun x_174 e_174 b_174 => ?_)
          refine lv_aload_n hx hb d_Md_fareOf_78 rfl (lv_at hl 0 rfl) ?_
          refine tw_getr (D := (dC, dI)) (C := R_Md) (T := F_Md) (N := 64) (ci := 7) (kd := 27) (ct := ct) hx hb htb i_Md hown hK hP hO_0 m0 rfl rfl 34 (by decide) (htb (.fieldLink R_Md 125 "WaterMenModel" "fareHigh" "[I") tw_597) (fun _ h9 => h9) rfl d_Md_fareOf_79 (fun q_175 e_175 m_175 => ?_)
          refine lv_bipush (v := 12) hx hb d_Md_fareOf_82 (by decide +kernel) ?_
          refine lv_iload_n hx hb d_Md_fareOf_84 rfl (lv_at hl 1 rfl) ?_
          refine lv_imul hx hb d_Md_fareOf_85 ?_
          refine lv_iload hx hb d_Md_fareOf_86 (lv_at hl 8 rfl) ?_
          refine lv_iadd hx hb d_Md_fareOf_88 ?_
          refine tw_aldI (ct := ct) hx hb hK hP hO_0 m_175 rfl ((fun (a_0 : Int32) (a_1 : Int32) (a_2 : Int32) (k_0 : ¬ (a_0 < 0)) (k_1 : ¬ (19 < a_0)) (k_2 : ¬ (a_1 < 0)) (k_3 : ¬ (a_2 ≤ a_1)) (k_4 : ¬ (12 < a_2)) => (show vp_in (((12 * a_0) + a_1)) 240 from by have z0 : (0 : Int32).toInt = 0 := (by decide +kernel); have z1 : (12 : Int32).toInt = 12 := (by decide +kernel); have z2 : (19 : Int32).toInt = 19 := (by decide +kernel); have r0 := fb_rng (a_0); have r1 := fb_rng (a_1); have r2 := fb_rng (a_2); have e0 := k_0; rw [Int32.lt_iff_toInt_lt, z0] at e0; have e1 := k_1; rw [Int32.lt_iff_toInt_lt, z2] at e1; have e2 := k_2; rw [Int32.lt_iff_toInt_lt, z0] at e2; have e3 := k_3; rw [Int32.le_iff_toInt_le] at e3; have e4 := k_4; rw [Int32.lt_iff_toInt_lt, z1] at e4; obtain ⟨n_0, hn_0, s0⟩ := nd_mul (x := (12 : Int32)) (y := (a_0)) (by (try rw [z1]); omega) (by (try rw [z1]); omega); rw [z1] at s0; obtain ⟨n_1, hn_1, s1⟩ := nd_add (x := n_0) (y := (a_1)) (by omega) (by omega); rw [hn_0, hn_1, vp_in_iff]; omega)) p_0 v10_1 x_3 as_0 as_1 iv0_1 c_4 b_3.2) d_Md_fareOf_89 (fun x_176 e_176 b_176 => ?_)
          refine vp_callSi (va_Run.run (va_runS (As := [.int v7_1, .int x_174, .int x_176]) (rest := []) ⟨hx, hb, hml, hown, htb⟩ (c_Md_in l v7_1 x_174 x_176) (cwS 3 htb (gd_S tw_480 tw_481 tw_479 tw_478) rfl rfl rfl (by decide +kernel) ⟨Nat.le_of_ble_eq_true rfl, Nat.le_of_ble_eq_true rfl⟩) ⟨fun _ _ _ _ h => h, fun U _ _ => ⟨rfl, trivial⟩⟩ rfl rfl hl.1 rfl (lv_room (Nat.le_of_ble_eq_true rfl)) d_Md_fareOf_90 ⟨Nat.le_of_ble_eq_true rfl, Nat.le_of_ble_eq_true rfl⟩)) (fun r er => ?_)
          subst er
          by_cases c_178 : v7_1 < x_174
          · refine hb_ti 0 (by unfold f_Md_in; rw [if_pos c_178]; first | done | rfl) ?_
            refine lv_if_eq (tgt := 110) hx hb d_Md_fareOf_93 (by decide) (fun _ => ?_) (fun h => absurd (by decide +kernel) h)
            refine lv_iinc (v := (v10_1 + 1)) (lv' := [(10, .int (v10_1 + 1)), (0, .ref q0), (1, .int p_0), (4, .int p_3), (5, .int p_4), (6, .int p_5), (7, .int v7_1), (8, .int v8_1), (9, .int v9_1)]) hx hb d_Md_fareOf_110 hl (k := 8) rfl rfl (by decide) rfl (fun ls hl => ?_)
            refine lv_goto (tgt := 48) hx hb d_Md_fareOf_113 (by decide) ?_
            exact ih_1 (n_1 - 1) (ms_1 ((fun (a_0 : Int32) (a_1 : Int32) (k_0 : ¬ (a_1 ≤ a_0)) (k_1 : ¬ (12 < a_1)) => (show 1 ≤ (12 : Int32).toInt - (a_0).toInt ∧ (12 : Int32).toInt - ((a_0) + (1 : Int32)).toInt + 1 ≤ (12 : Int32).toInt - (a_0).toInt from by have z0 : (1 : Int32).toInt = 1 := (by decide +kernel); have z1 : (12 : Int32).toInt = 12 := (by decide +kernel); have r0 := fb_rng (a_0); have r1 := fb_rng (a_1); have e0 := k_0; rw [Int32.le_iff_toInt_le] at e0; have e1 := k_1; rw [Int32.lt_iff_toInt_lt, z1] at e1; obtain ⟨n_0, hn_0, s0⟩ := nd_add (x := (a_0)) (y := (1 : Int32)) (by (try rw [z0]); omega) (by (try rw [z0]); omega); rw [z0] at s0; rw [hn_0]; (try rw [z1]); omega)) v10_1 x_3 c_4 b_3.2) hm_1) v7_1 v8_1 v9_1 (v10_1 + 1) _ (show ¬ ((v10_1 + 1) < 0) from by have e0 := iv0_1; rw [Int32.lt_iff_toInt_lt] at e0; have e1 := iv1_1; rw [Int32.lt_iff_toInt_lt] at e1; have z0 : (0 : Int32).toInt = 0 := (by decide +kernel); have z1 : (1 : Int32).toInt = 1 := (by decide +kernel); have z2 : (12 : Int32).toInt = 12 := (by decide +kernel); have ss := fb_addI (x := v10_1) (y := 1) (by omega) (by omega); rw [Int32.lt_iff_toInt_lt]; omega) (show ¬ (12 < (v10_1 + 1)) from ((fun (a_0 : Int32) (a_1 : Int32) (k_0 : ¬ (a_1 ≤ a_0)) (k_1 : ¬ (12 < a_1)) => (show ¬ (12 < (a_0 + 1)) from by have z0 : (1 : Int32).toInt = 1 := (by decide +kernel); have z1 : (12 : Int32).toInt = 12 := (by decide +kernel); have r0 := fb_rng (a_0); have r1 := fb_rng (a_1); have e0 := k_0; rw [Int32.le_iff_toInt_le] at e0; have e1 := k_1; rw [Int32.lt_iff_toInt_lt, z1] at e1; obtain ⟨n_0, hn_0, s0⟩ := nd_add (x := (a_0)) (y := (1 : Int32)) (by (try rw [z0]); omega) (by (try rw [z0]); omega); rw [z0] at s0; rw [hn_0, Int32.lt_iff_toInt_lt, z1]; omega)) v10_1 x_3 c_4 b_3.2)) (by exact ms_2 ((fun (a_0 : Int32) (a_1 : Int32) (k_0 : ¬ (a_1 ≤ a_0)) (k_1 : ¬ (12 < a_1)) => (show 1 ≤ (12 : Int32).toInt - (a_0).toInt ∧ (12 : Int32).toInt - ((a_0) + (1 : Int32)).toInt + 1 ≤ (12 : Int32).toInt - (a_0).toInt from by have z0 : (1 : Int32).toInt = 1 := (by decide +kernel); have z1 : (12 : Int32).toInt = 12 := (by decide +kernel); have r0 := fb_rng (a_0); have r1 := fb_rng (a_1); have e0 := k_0; rw [Int32.le_iff_toInt_le] at e0; have e1 := k_1; rw [Int32.lt_iff_toInt_lt, z1] at e1; obtain ⟨n_0, hn_0, s0⟩ := nd_add (x := (a_0)) (y := (1 : Int32)) (by (try rw [z0]); omega) (by (try rw [z0]); omega); rw [z0] at s0; rw [hn_0]; (try rw [z1]); omega)) v10_1 x_3 c_4 b_3.2) hm_1) (lv_sub hl [1, 2, 3, 4, 5, 6, 7, 8, 0] rfl)
          · by_cases c_179 : x_176 < v7_1
            · refine hb_ti 0 (by unfold f_Md_in; rw [if_neg c_178, if_pos c_179]; first | done | rfl) ?_
              refine lv_if_eq (tgt := 110) hx hb d_Md_fareOf_93 (by decide) (fun _ => ?_) (fun h => absurd (by decide +kernel) h)
              refine lv_iinc (v := (v10_1 + 1)) (lv' := [(10, .int (v10_1 + 1)), (0, .ref q0), (1, .int p_0), (4, .int p_3), (5, .int p_4), (6, .int p_5), (7, .int v7_1), (8, .int v8_1), (9, .int v9_1)]) hx hb d_Md_fareOf_110 hl (k := 8) rfl rfl (by decide) rfl (fun ls hl => ?_)
              refine lv_goto (tgt := 48) hx hb d_Md_fareOf_113 (by decide) ?_
              exact ih_1 (n_1 - 1) (ms_1 ((fun (a_0 : Int32) (a_1 : Int32) (k_0 : ¬ (a_1 ≤ a_0)) (k_1 : ¬ (12 < a_1)) => (show 1 ≤ (12 : Int32).toInt - (a_0).toInt ∧ (12 : Int32).toInt - ((a_0) + (1 : Int32)).toInt + 1 ≤ (12 : Int32).toInt - (a_0).toInt from by have z0 : (1 : Int32).toInt = 1 := (by decide +kernel); have z1 : (12 : Int32).toInt = 12 := (by decide +kernel); have r0 := fb_rng (a_0); have r1 := fb_rng (a_1); have e0 := k_0; rw [Int32.le_iff_toInt_le] at e0; have e1 := k_1; rw [Int32.lt_iff_toInt_lt, z1] at e1; obtain ⟨n_0, hn_0, s0⟩ := nd_add (x := (a_0)) (y := (1 : Int32)) (by (try rw [z0]); omega) (by (try rw [z0]); omega); rw [z0] at s0; rw [hn_0]; (try rw [z1]); omega)) v10_1 x_3 c_4 b_3.2) hm_1) v7_1 v8_1 v9_1 (v10_1 + 1) _ (show ¬ ((v10_1 + 1) < 0) from by have e0 := iv0_1; rw [Int32.lt_iff_toInt_lt] at e0; have e1 := iv1_1; rw [Int32.lt_iff_toInt_lt] at e1; have z0 : (0 : Int32).toInt = 0 := (by decide +kernel); have z1 : (1 : Int32).toInt = 1 := (by decide +kernel); have z2 : (12 : Int32).toInt = 12 := (by decide +kernel); have ss := fb_addI (x := v10_1) (y := 1) (by omega) (by omega); rw [Int32.lt_iff_toInt_lt]; omega) (show ¬ (12 < (v10_1 + 1)) from ((fun (a_0 : Int32) (a_1 : Int32) (k_0 : ¬ (a_1 ≤ a_0)) (k_1 : ¬ (12 < a_1)) => (show ¬ (12 < (a_0 + 1)) from by have z0 : (1 : Int32).toInt = 1 := (by decide +kernel); have z1 : (12 : Int32).toInt = 12 := (by decide +kernel); have r0 := fb_rng (a_0); have r1 := fb_rng (a_1); have e0 := k_0; rw [Int32.le_iff_toInt_le] at e0; have e1 := k_1; rw [Int32.lt_iff_toInt_lt, z1] at e1; obtain ⟨n_0, hn_0, s0⟩ := nd_add (x := (a_0)) (y := (1 : Int32)) (by (try rw [z0]); omega) (by (try rw [z0]); omega); rw [z0] at s0; rw [hn_0, Int32.lt_iff_toInt_lt, z1]; omega)) v10_1 x_3 c_4 b_3.2)) (by exact ms_2 ((fun (a_0 : Int32) (a_1 : Int32) (k_0 : ¬ (a_1 ≤ a_0)) (k_1 : ¬ (12 < a_1)) => (show 1 ≤ (12 : Int32).toInt - (a_0).toInt ∧ (12 : Int32).toInt - ((a_0) + (1 : Int32)).toInt + 1 ≤ (12 : Int32).toInt - (a_0).toInt from by have z0 : (1 : Int32).toInt = 1 := (by decide +kernel); have z1 : (12 : Int32).toInt = 12 := (by decide +kernel); have r0 := fb_rng (a_0); have r1 := fb_rng (a_1); have e0 := k_0; rw [Int32.le_iff_toInt_le] at e0; have e1 := k_1; rw [Int32.lt_iff_toInt_lt, z1] at e1; obtain ⟨n_0, hn_0, s0⟩ := nd_add (x := (a_0)) (y := (1 : Int32)) (by (try rw [z0]); omega) (by (try rw [z0]); omega); rw [z0] at s0; rw [hn_0]; (try rw [z1]); omega)) v10_1 x_3 c_4 b_3.2) hm_1) (lv_sub hl [1, 2, 3, 4, 5, 6, 7, 8, 0] rfl)
            · refine hb_ti 1 (by unfold f_Md_in; rw [if_neg c_178, if_neg c_179]; first | done | rfl) ?_
              refine lv_if_eq (tgt := 110) hx hb d_Md_fareOf_93 (by decide) (fun h => absurd h (by decide +kernel)) (fun _ => ?_)
              refine lv_aload_n hx hb d_Md_fareOf_96 rfl (lv_at hl 0 rfl) ?_
              refine tw_getr (D := (dC, dI)) (C := R_Md) (T := F_Md) (N := 64) (ci := 7) (kd := 27) (ct := ct) hx hb htb i_Md hown hK hP hO_0 m0 rfl rfl 35 (by decide) (htb (.fieldLink R_Md 128 "WaterMenModel" "fareIs" "[I") tw_598) (fun _ h9 => h9) rfl d_Md_fareOf_97 (fun q_180 e_180 m_180 => ?_)
              refine lv_bipush (v := 12) hx hb d_Md_fareOf_100 (by decide +kernel) ?_
              refine lv_iload_n hx hb d_Md_fareOf_102 rfl (lv_at hl 1 rfl) ?_
              refine lv_imul hx hb d_Md_fareOf_103 ?_
              refine lv_iload hx hb d_Md_fareOf_104 (lv_at hl 8 rfl) ?_
              refine lv_iadd hx hb d_Md_fareOf_106 ?_
              refine tw_aldI (ct := ct) hx hb hK hP hO_0 m_180 rfl ((fun (a_0 : Int32) (a_1 : Int32) (a_2 : Int32) (k_0 : ¬ (a_0 < 0)) (k_1 : ¬ (19 < a_0)) (k_2 : ¬ (a_1 < 0)) (k_3 : ¬ (a_2 ≤ a_1)) (k_4 : ¬ (12 < a_2)) => (show vp_in (((12 * a_0) + a_1)) 240 from by have z0 : (0 : Int32).toInt = 0 := (by decide +kernel); have z1 : (12 : Int32).toInt = 12 := (by decide +kernel); have z2 : (19 : Int32).toInt = 19 := (by decide +kernel); have r0 := fb_rng (a_0); have r1 := fb_rng (a_1); have r2 := fb_rng (a_2); have e0 := k_0; rw [Int32.lt_iff_toInt_lt, z0] at e0; have e1 := k_1; rw [Int32.lt_iff_toInt_lt, z2] at e1; have e2 := k_2; rw [Int32.lt_iff_toInt_lt, z0] at e2; have e3 := k_3; rw [Int32.le_iff_toInt_le] at e3; have e4 := k_4; rw [Int32.lt_iff_toInt_lt, z1] at e4; obtain ⟨n_0, hn_0, s0⟩ := nd_mul (x := (12 : Int32)) (y := (a_0)) (by (try rw [z1]); omega) (by (try rw [z1]); omega); rw [z1] at s0; obtain ⟨n_1, hn_1, s1⟩ := nd_add (x := n_0) (y := (a_1)) (by omega) (by omega); rw [hn_0, hn_1, vp_in_iff]; omega)) p_0 v10_1 x_3 as_0 as_1 iv0_1 c_4 b_3.2) d_Md_fareOf_107 (fun x_181 e_181 b_181 => ?_)
              refine lv_istore (lv' := [(9, .int x_181), (0, .ref q0), (1, .int p_0), (4, .int p_3), (5, .int p_4), (6, .int p_5), (7, .int v7_1), (8, .int v8_1), (10, .int v10_1)]) hx hb d_Md_fareOf_108 hl (by decide) rfl (fun ls hl => ?_)
              refine lv_iinc (v := (v10_1 + 1)) (lv' := [(10, .int (v10_1 + 1)), (9, .int x_181), (0, .ref q0), (1, .int p_0), (4, .int p_3), (5, .int p_4), (6, .int p_5), (7, .int v7_1), (8, .int v8_1)]) hx hb d_Md_fareOf_110 hl (k := 8) rfl rfl (by decide) rfl (fun ls hl => ?_)
              refine lv_goto (tgt := 48) hx hb d_Md_fareOf_113 (by decide) ?_
              exact ih_1 (n_1 - 1) (ms_1 ((fun (a_0 : Int32) (a_1 : Int32) (k_0 : ¬ (a_1 ≤ a_0)) (k_1 : ¬ (12 < a_1)) => (show 1 ≤ (12 : Int32).toInt - (a_0).toInt ∧ (12 : Int32).toInt - ((a_0) + (1 : Int32)).toInt + 1 ≤ (12 : Int32).toInt - (a_0).toInt from by have z0 : (1 : Int32).toInt = 1 := (by decide +kernel); have z1 : (12 : Int32).toInt = 12 := (by decide +kernel); have r0 := fb_rng (a_0); have r1 := fb_rng (a_1); have e0 := k_0; rw [Int32.le_iff_toInt_le] at e0; have e1 := k_1; rw [Int32.lt_iff_toInt_lt, z1] at e1; obtain ⟨n_0, hn_0, s0⟩ := nd_add (x := (a_0)) (y := (1 : Int32)) (by (try rw [z0]); omega) (by (try rw [z0]); omega); rw [z0] at s0; rw [hn_0]; (try rw [z1]); omega)) v10_1 x_3 c_4 b_3.2) hm_1) v7_1 v8_1 x_181 (v10_1 + 1) _ (show ¬ ((v10_1 + 1) < 0) from by have e0 := iv0_1; rw [Int32.lt_iff_toInt_lt] at e0; have e1 := iv1_1; rw [Int32.lt_iff_toInt_lt] at e1; have z0 : (0 : Int32).toInt = 0 := (by decide +kernel); have z1 : (1 : Int32).toInt = 1 := (by decide +kernel); have z2 : (12 : Int32).toInt = 12 := (by decide +kernel); have ss := fb_addI (x := v10_1) (y := 1) (by omega) (by omega); rw [Int32.lt_iff_toInt_lt]; omega) (show ¬ (12 < (v10_1 + 1)) from ((fun (a_0 : Int32) (a_1 : Int32) (k_0 : ¬ (a_1 ≤ a_0)) (k_1 : ¬ (12 < a_1)) => (show ¬ (12 < (a_0 + 1)) from by have z0 : (1 : Int32).toInt = 1 := (by decide +kernel); have z1 : (12 : Int32).toInt = 12 := (by decide +kernel); have r0 := fb_rng (a_0); have r1 := fb_rng (a_1); have e0 := k_0; rw [Int32.le_iff_toInt_le] at e0; have e1 := k_1; rw [Int32.lt_iff_toInt_lt, z1] at e1; obtain ⟨n_0, hn_0, s0⟩ := nd_add (x := (a_0)) (y := (1 : Int32)) (by (try rw [z0]); omega) (by (try rw [z0]); omega); rw [z0] at s0; rw [hn_0, Int32.lt_iff_toInt_lt, z1]; omega)) v10_1 x_3 c_4 b_3.2)) (by exact ms_2 ((fun (a_0 : Int32) (a_1 : Int32) (k_0 : ¬ (a_1 ≤ a_0)) (k_1 : ¬ (12 < a_1)) => (show 1 ≤ (12 : Int32).toInt - (a_0).toInt ∧ (12 : Int32).toInt - ((a_0) + (1 : Int32)).toInt + 1 ≤ (12 : Int32).toInt - (a_0).toInt from by have z0 : (1 : Int32).toInt = 1 := (by decide +kernel); have z1 : (12 : Int32).toInt = 12 := (by decide +kernel); have r0 := fb_rng (a_0); have r1 := fb_rng (a_1); have e0 := k_0; rw [Int32.le_iff_toInt_le] at e0; have e1 := k_1; rw [Int32.lt_iff_toInt_lt, z1] at e1; obtain ⟨n_0, hn_0, s0⟩ := nd_add (x := (a_0)) (y := (1 : Int32)) (by (try rw [z0]); omega) (by (try rw [z0]); omega); rw [z0] at s0; rw [hn_0]; (try rw [z1]); omega)) v10_1 x_3 c_4 b_3.2) hm_1) (lv_sub hl [2, 3, 4, 5, 6, 7, 8, 1, 0] rfl)
  refine lv_aload_n hx hb d_Md_fareOf_0 rfl (lv_at hl 0 rfl) ?_
  refine tw_getr (D := (dC, dI)) (C := R_Md) (T := F_Md) (N := 64) (ci := 7) (kd := 27) (ct := ct) hx hb htb i_Md hown hK hP hO_0 m0 rfl rfl 3 (by decide) (htb (.fieldLink R_Md 32 "WaterMenModel" "miles" "[I") tw_489) (fun _ h9 => h9) rfl d_Md_fareOf_1 (fun q_182 e_182 m_182 => ?_)
  refine lv_iload_n hx hb d_Md_fareOf_4 rfl (lv_at hl 3 rfl) ?_
  refine tw_aldI (ct := ct) hx hb hK hP hO_0 m_182 rfl (hb_inl as_4 as_5 (by decide +kernel)) d_Md_fareOf_5 (fun x_183 e_183 b_183 => ?_)
  refine lv_aload_n hx hb d_Md_fareOf_6 rfl (lv_at hl 0 rfl) ?_
  refine tw_getR (D := (dC, dI)) (C := R_Md) (T := F_Md) (N := 64) (ci := 7) (kd := 27) (ct := ct) hx hb htb i_Md hown hK hP m0 rfl rfl 3 e_182 (by decide) (htb (.fieldLink R_Md 32 "WaterMenModel" "miles" "[I") tw_489) (fun _ h9 => h9) rfl d_Md_fareOf_7 ?_
  refine hb_tv (.ref q_182) rfl ?_
  refine lv_iload_n hx hb d_Md_fareOf_10 rfl (lv_at hl 2 rfl) ?_
  refine tw_aldI (ct := ct) hx hb hK hP hO_0 m_182 rfl (hb_inl as_2 as_3 (by decide +kernel)) d_Md_fareOf_11 (fun x_184 e_184 b_184 => ?_)
  refine lv_isub hx hb d_Md_fareOf_12 ?_
  refine lv_istore (lv' := [(7, .int (x_183 - x_184)), (0, .ref q0), (1, .int p_0), (2, .int p_1), (3, .int p_2), (4, .int p_3), (5, .int p_4), (6, .int p_5)]) hx hb d_Md_fareOf_13 hl (by decide) rfl (fun ls hl => ?_)
  refine lv_iload hx hb d_Md_fareOf_15 (lv_at hl 0 rfl) ?_
  refine lv_if_le (tgt := 24) hx hb d_Md_fareOf_17 (by decide) (fun c_185 => ?_) (fun c_185 => ?_)
  · refine lv_iconst (v := 0) hx hb d_Md_fareOf_24 (by decide +kernel) ?_
    refine lv_istore (lv' := [(8, .int 0), (7, .int (x_183 - x_184)), (0, .ref q0), (1, .int p_0), (2, .int p_1), (3, .int p_2), (4, .int p_3), (5, .int p_4), (6, .int p_5)]) hx hb d_Md_fareOf_25 hl (by decide) rfl (fun ls hl => ?_)
    refine lv_iload hx hb d_Md_fareOf_27 (lv_at hl 0 rfl) ?_
    refine lv_if_eq (tgt := 37) hx hb d_Md_fareOf_29 (by decide) (fun _ => ?_) (fun h => absurd (by decide +kernel) h)
    refine lv_iload hx hb d_Md_fareOf_37 (lv_at hl 1 rfl) ?_
    refine lv_ineg hx hb d_Md_fareOf_39 ?_
    refine lv_istore (lv' := [(7, .int (-(x_183 - x_184))), (8, .int 0), (0, .ref q0), (1, .int p_0), (2, .int p_1), (3, .int p_2), (4, .int p_3), (5, .int p_4), (6, .int p_5)]) hx hb d_Md_fareOf_40 hl (by decide) rfl (fun ls hl => ?_)
    refine lv_iconst (v := (-1)) hx hb d_Md_fareOf_42 (by decide +kernel) ?_
    refine lv_istore (lv' := [(9, .int (-1)), (7, .int (-(x_183 - x_184))), (8, .int 0), (0, .ref q0), (1, .int p_0), (2, .int p_1), (3, .int p_2), (4, .int p_3), (5, .int p_4), (6, .int p_5)]) hx hb d_Md_fareOf_43 hl (by decide) rfl (fun ls hl => ?_)
    refine lv_iconst (v := 0) hx hb d_Md_fareOf_45 (by decide +kernel) ?_
    refine lv_istore (lv' := [(10, .int 0), (9, .int (-1)), (7, .int (-(x_183 - x_184))), (8, .int 0), (0, .ref q0), (1, .int p_0), (2, .int p_1), (3, .int p_2), (4, .int p_3), (5, .int p_4), (6, .int p_5)]) hx hb d_Md_fareOf_46 hl (by decide) rfl (fun ls hl => ?_)
    exact cut_1 4294967296 (-(x_183 - x_184)) (0 : Int32) ((-1) : Int32) (0 : Int32) _ (by decide +kernel) (by decide +kernel) (by exact ms_0 _ _) (lv_sub hl [4, 5, 8, 9, 10, 2, 3, 1, 0] rfl)
  · refine lv_iconst (v := 1) hx hb d_Md_fareOf_20 (by decide +kernel) ?_
    refine lv_goto (tgt := 25) hx hb d_Md_fareOf_21 (by decide) ?_
    refine lv_istore (lv' := [(8, .int 1), (7, .int (x_183 - x_184)), (0, .ref q0), (1, .int p_0), (2, .int p_1), (3, .int p_2), (4, .int p_3), (5, .int p_4), (6, .int p_5)]) hx hb d_Md_fareOf_25 hl (by decide) rfl (fun ls hl => ?_)
    refine lv_iload hx hb d_Md_fareOf_27 (lv_at hl 0 rfl) ?_
    refine lv_if_eq (tgt := 37) hx hb d_Md_fareOf_29 (by decide) (fun h => absurd h (by decide +kernel)) (fun _ => ?_)
    refine lv_iload hx hb d_Md_fareOf_32 (lv_at hl 1 rfl) ?_
    refine lv_goto (tgt := 40) hx hb d_Md_fareOf_34 (by decide) ?_
    refine lv_istore (lv' := [(7, .int (x_183 - x_184)), (8, .int 1), (0, .ref q0), (1, .int p_0), (2, .int p_1), (3, .int p_2), (4, .int p_3), (5, .int p_4), (6, .int p_5)]) hx hb d_Md_fareOf_40 hl (by decide) rfl (fun ls hl => ?_)
    refine lv_iconst (v := (-1)) hx hb d_Md_fareOf_42 (by decide +kernel) ?_
    refine lv_istore (lv' := [(9, .int (-1)), (7, .int (x_183 - x_184)), (8, .int 1), (0, .ref q0), (1, .int p_0), (2, .int p_1), (3, .int p_2), (4, .int p_3), (5, .int p_4), (6, .int p_5)]) hx hb d_Md_fareOf_43 hl (by decide) rfl (fun ls hl => ?_)
    refine lv_iconst (v := 0) hx hb d_Md_fareOf_45 (by decide +kernel) ?_
    refine lv_istore (lv' := [(10, .int 0), (9, .int (-1)), (7, .int (x_183 - x_184)), (8, .int 1), (0, .ref q0), (1, .int p_0), (2, .int p_1), (3, .int p_2), (4, .int p_3), (5, .int p_4), (6, .int p_5)]) hx hb d_Md_fareOf_46 hl (by decide) rfl (fun ls hl => ?_)
    exact cut_1 4294967296 (x_183 - x_184) (1 : Int32) ((-1) : Int32) (0 : Int32) _ (by decide +kernel) (by decide +kernel) (by exact ms_0 _ _) (lv_sub hl [4, 5, 8, 9, 10, 2, 3, 1, 0] rfl)
