def f_WM_isSunday  (p_0 : Int32) : Int32 := if (p_0 - p_0 / 7 * 7) = 0 then (1) else (0)
set_option maxHeartbeats 4000000 in
set_option maxRecDepth 100000 in
theorem c_WM_isSunday (l : Launch)  (p_0 : Int32)  : Met l y_WM_isSunday (.code y_WM_isSunday b_WM_isSunday 1 (some .boolean) :: TB) ({ frames := 0, cells := 0, slots := 0, locals := 0 }) (va_Pc [.int p_0] (fun _ => True)) (vp_Si (fun r => r = f_WM_isSunday p_0)) 0 0 (fun _ => False) := by
  refine Met.ofW (cc := b_WM_isSunday) (maxL := 1) (ret := (some .boolean)) (by decide) rfl ?_
  intro p e s m args below meth c s₁ B hml hv
  obtain ⟨rfl, -⟩ := hv
  have hx := B.exec
  have hb := B.bytes
  have hr := B.returns
  have hts := atoms_spec (ws := (.code y_WM_isSunday b_WM_isSunday 1 (some .boolean) :: TB)) B.pre
  have htb := fun w (h : w ∈ TB) => hts w (List.mem_cons_of_mem _ h)
  have hown : s.vm.findClass R_WM = some m.cls := findClass_of_methodNamed B.named
  have hlocks := B.notSynchronized
  have hl := lv_entry ([.int p_0]) (n := 1) (Nat.le_of_ble_eq_true rfl)
  rw [lg_entry_eq]
  generalize (lg_sl ([.int p_0]) ++ List.replicate (1 - (lg_sl ([.int p_0])).length) Slot.unset).toArray = ls at hl ⊢
  have hl : lv_has ls 1 [(0, .int p_0)] := hl
  refine lv_iload_n hx hb d_WM_isSunday_0 rfl (lv_at hl 0 rfl) ?_
  refine lv_bipush (v := 7) hx hb d_WM_isSunday_1 (by decide +kernel) ?_
  refine lv_irem hx hb d_WM_isSunday_3 (by decide) ?_
  refine lv_if_ne (tgt := 11) hx hb d_WM_isSunday_4 (by decide) (fun c_1 => ?_) (fun c_1 => ?_)
  · refine lv_iconst (v := 0) hx hb d_WM_isSunday_11 (by decide +kernel) ?_
    exact W.zret (v := 0) hx hb hr (by decide +kernel) (fun t ht hW => ⟨0, rfl, (by unfold f_WM_isSunday; rw [if_neg c_1]), ht⟩) t_nil d_WM_isSunday_12
  · refine lv_iconst (v := 1) hx hb d_WM_isSunday_7 (by decide +kernel) ?_
    refine lv_goto (tgt := 12) hx hb d_WM_isSunday_8 (by decide) ?_
    exact W.zret (v := 1) hx hb hr (by decide +kernel) (fun t ht hW => ⟨1, rfl, (by unfold f_WM_isSunday; rw [if_pos c_1]), ht⟩) t_nil d_WM_isSunday_12
set_option maxHeartbeats 4000000 in
set_option maxRecDepth 100000 in
theorem c_Or_scaled_t (l : Launch) (dC : Nat → ClassId) (dI : Nat → Nat → Nat) (ct : Nat → ClassId) (L : List Nat) (f : TF) (hO_0 : Ok L f) (p_0 : Int32) (p_1 : Int32)   : Met l y_Or_scaled (.code y_Or_scaled b_Or_scaled 4 (some .int) :: TB) ({ frames := 0, cells := 0, slots := 0, locals := 0 }) (va_Pc [.int p_0, .int p_1] (PR dC dI (TW ct L f) (TT ct))) (vp_Si (fun r => True)) 0 0 (fun _ => False) := by
  refine Met.ofW (cc := b_Or_scaled) (maxL := 4) (ret := (some .int)) (by decide) rfl ?_
  intro p e s m args below meth c s₁ B hml hv
  obtain ⟨rfl, hP, hK, hN⟩ := hv
  have hx := B.exec
  have hb := B.bytes
  have hr := B.returns
  have hts := atoms_spec (ws := (.code y_Or_scaled b_Or_scaled 4 (some .int) :: TB)) B.pre
  have htb := fun w (h : w ∈ TB) => hts w (List.mem_cons_of_mem _ h)
  have hown : s.vm.findClass R_Or = some m.cls := findClass_of_methodNamed B.named
  have hlocks := B.notSynchronized
  have hl := lv_entry ([.int p_0, .int p_1]) (n := 4) (Nat.le_of_ble_eq_true rfl)
  rw [lg_entry_eq]
  generalize (lg_sl ([.int p_0, .int p_1]) ++ List.replicate (4 - (lg_sl ([.int p_0, .int p_1])).length) Slot.unset).toArray = ls at hl ⊢
  have hl : lv_has ls 4 [(0, .int p_0), (1, .int p_1)] := hl
  refine lv_iload_n hx hb d_Or_scaled_0 rfl (lv_at hl 1 rfl) ?_
  refine lv_iconst (v := (-1)) hx hb d_Or_scaled_1 (by decide +kernel) ?_
  refine lv_icmp_ne (tgt := 7) hx hb d_Or_scaled_2 (by decide) (fun c_1 => ?_) (fun c_1 => ?_)
  · refine lv_iload_n hx hb d_Or_scaled_7 rfl (lv_at hl 0 rfl) ?_
    refine lv_i2l hx hb d_Or_scaled_8 rfl ?_
    refine lv_iload_n hx hb d_Or_scaled_9 rfl (lv_at hl 1 rfl) ?_
    refine lv_i2l hx hb d_Or_scaled_10 rfl ?_
    refine lv_lmul hx hb d_Or_scaled_11 ?_
    refine hb_anyl (fun y_2 => ?_)
    refine lv_ldc2 (v := 100) hx hb hown (htb (.constantLong R_Or 61 100) tw_77) d_Or_scaled_12 ?_
    refine lv_ldiv hx hb d_Or_scaled_15 (by decide) ?_
    refine hb_anyl (fun y_3 => ?_)
    refine lv_lstore_n (lv' := [(2, .long y_3), (0, .int p_0), (1, .int p_1)]) hx hb d_Or_scaled_16 rfl hl (by decide) rfl (fun ls hl => ?_)
    refine lv_lload_n hx hb d_Or_scaled_17 rfl (lv_at hl 0 rfl) ?_
    refine lv_ldc2 (v := 1000000) hx hb hown (htb (.constantLong R_Or 63 1000000) tw_78) d_Or_scaled_18 ?_
    refine W.lcmp hx hb d_Or_scaled_21 ?_
    refine hb_anyi (fun y_4 => ?_)
    refine lv_if_le (tgt := 30) hx hb d_Or_scaled_22 (by decide) (fun c_5 => ?_) (fun c_5 => ?_)
    · refine lv_lload_n hx hb d_Or_scaled_30 rfl (lv_at hl 0 rfl) ?_
      refine lv_l2i hx hb d_Or_scaled_31 rfl ?_
      refine hb_anyi (fun y_6 => ?_)
      exact W.iret (v := y_6) hx hb hr (fun t ht hW => ⟨y_6, rfl, trivial, ht⟩) t_nil d_Or_scaled_32
    · refine lv_ldc (v := 1000000) hx hb hown (htb (.constant R_Or 65 1000000) tw_79) d_Or_scaled_25 ?_
      refine lv_goto (tgt := 32) hx hb d_Or_scaled_27 (by decide) ?_
      exact W.iret (v := 1000000) hx hb hr (fun t ht hW => ⟨1000000, rfl, trivial, ht⟩) t_nil d_Or_scaled_32
  · refine lv_iload_n hx hb d_Or_scaled_5 rfl (lv_at hl 0 rfl) ?_
    exact W.iret (v := p_0) hx hb hr (fun t ht hW => ⟨p_0, rfl, trivial, ht⟩) t_nil d_Or_scaled_6
set_option maxHeartbeats 4000000 in
set_option maxRecDepth 100000 in
theorem c_Or_lineHolds_k17_t (l : Launch) (dC : Nat → ClassId) (dI : Nat → Nat → Nat) (ct : Nat → ClassId) (L : List Nat) (f : TF) (hO_0 : Ok L f) (pq_0 : Nat) (pm_0 : pq_0 ∈ L ∧ tk f pq_0 = 17) (p_1 : Int32) (p_2 : Int32)  (as_0 : ¬ (p_1 < 0)) (as_1 : ¬ (11 < p_1)) : Met l y_Or_lineHolds (.code y_Or_lineHolds b_Or_lineHolds 3 (some .boolean) :: TB) ({ frames := 0, cells := 0, slots := 0, locals := 0 }) (va_Pc [.ref pq_0, .int p_1, .int p_2] (PR dC dI (TW ct L f) (TT ct))) (vp_Si (fun r => (r = 0 ∧ True) ∨ (r = 1 ∧ True))) 0 0 (fun _ => False) := by
  refine Met.ofW (cc := b_Or_lineHolds) (maxL := 3) (ret := (some .boolean)) (by decide) rfl ?_
  intro p e s m args below meth c s₁ B hml hv
  obtain ⟨rfl, hP, hK, hN⟩ := hv
  have hx := B.exec
  have hb := B.bytes
  have hr := B.returns
  have hts := atoms_spec (ws := (.code y_Or_lineHolds b_Or_lineHolds 3 (some .boolean) :: TB)) B.pre
  have htb := fun w (h : w ∈ TB) => hts w (List.mem_cons_of_mem _ h)
  have hown : s.vm.findClass R_Or = some m.cls := findClass_of_methodNamed B.named
  have hlocks := B.notSynchronized
  have hl := lv_entry ([.ref pq_0, .int p_1, .int p_2]) (n := 3) (Nat.le_of_ble_eq_true rfl)
  rw [lg_entry_eq]
  generalize (lg_sl ([.ref pq_0, .int p_1, .int p_2]) ++ List.replicate (3 - (lg_sl ([.ref pq_0, .int p_1, .int p_2])).length) Slot.unset).toArray = ls at hl ⊢
  have hl : lv_has ls 3 [(0, .ref pq_0), (1, .int p_1), (2, .int p_2)] := hl
  refine lv_aload_n hx hb d_Or_lineHolds_0 rfl (lv_at hl 0 rfl) ?_
  refine lv_iload_n hx hb d_Or_lineHolds_1 rfl (lv_at hl 1 rfl) ?_
  refine lv_iconst (v := 3) hx hb d_Or_lineHolds_2 (by decide +kernel) ?_
  refine lv_imul hx hb d_Or_lineHolds_3 ?_
  refine tw_aldI (ct := ct) hx hb hK hP hO_0 pm_0 rfl ((fun (a_0 : Int32) (k_0 : ¬ (a_0 < 0)) (k_1 : ¬ (11 < a_0)) => (show vp_in ((a_0 * 3)) 36 from by have z0 : (0 : Int32).toInt = 0 := (by decide +kernel); have z1 : (3 : Int32).toInt = 3 := (by decide +kernel); have z2 : (11 : Int32).toInt = 11 := (by decide +kernel); have r0 := fb_rng (a_0); have e0 := k_0; rw [Int32.lt_iff_toInt_lt, z0] at e0; have e1 := k_1; rw [Int32.lt_iff_toInt_lt, z2] at e1; obtain ⟨n_0, hn_0, s0⟩ := nd_mul (x := (a_0)) (y := (3 : Int32)) (by (try rw [z1]); omega) (by (try rw [z1]); omega); rw [z1] at s0; rw [hn_0, vp_in_iff]; omega)) p_1 as_0 as_1) d_Or_lineHolds_4 (fun x_1 e_1 b_1 => ?_)
  refine lv_iload_n hx hb d_Or_lineHolds_5 rfl (lv_at hl 2 rfl) ?_
  refine lv_icmp_gt (tgt := 24) hx hb d_Or_lineHolds_6 (by decide) (fun c_2 => ?_) (fun c_2 => ?_)
  · refine lv_iconst (v := 0) hx hb d_Or_lineHolds_24 (by decide +kernel) ?_
    exact W.zret (v := 0) hx hb hr (by decide +kernel) (fun t ht hW => ⟨0, rfl, (Or.inl ⟨rfl, trivial⟩), ht⟩) t_nil d_Or_lineHolds_25
  · refine lv_iload_n hx hb d_Or_lineHolds_9 rfl (lv_at hl 2 rfl) ?_
    refine lv_aload_n hx hb d_Or_lineHolds_10 rfl (lv_at hl 0 rfl) ?_
    refine lv_iload_n hx hb d_Or_lineHolds_11 rfl (lv_at hl 1 rfl) ?_
    refine lv_iconst (v := 3) hx hb d_Or_lineHolds_12 (by decide +kernel) ?_
    refine lv_imul hx hb d_Or_lineHolds_13 ?_
    refine lv_iconst (v := 1) hx hb d_Or_lineHolds_14 (by decide +kernel) ?_
    refine lv_iadd hx hb d_Or_lineHolds_15 ?_
    refine tw_aldI (ct := ct) hx hb hK hP hO_0 pm_0 rfl ((fun (a_0 : Int32) (k_0 : ¬ (a_0 < 0)) (k_1 : ¬ (11 < a_0)) => (show vp_in (((a_0 * 3) + 1)) 36 from by have z0 : (0 : Int32).toInt = 0 := (by decide +kernel); have z1 : (1 : Int32).toInt = 1 := (by decide +kernel); have z2 : (3 : Int32).toInt = 3 := (by decide +kernel); have z3 : (11 : Int32).toInt = 11 := (by decide +kernel); have r0 := fb_rng (a_0); have e0 := k_0; rw [Int32.lt_iff_toInt_lt, z0] at e0; have e1 := k_1; rw [Int32.lt_iff_toInt_lt, z3] at e1; obtain ⟨n_0, hn_0, s0⟩ := nd_mul (x := (a_0)) (y := (3 : Int32)) (by (try rw [z2]); omega) (by (try rw [z2]); omega); rw [z2] at s0; obtain ⟨n_1, hn_1, s1⟩ := nd_add (x := n_0) (y := (1 : Int32)) (by (try rw [z1]); omega) (by (try rw [z1]); omega); rw [z1] at s1; rw [hn_0, hn_1, vp_in_iff]; omega)) p_1 as_0 as_1) d_Or_lineHolds_16 (fun x_3 e_3 b_3 => ?_)
    refine lv_icmp_gt (tgt := 24) hx hb d_Or_lineHolds_17 (by decide) (fun c_4 => ?_) (fun c_4 => ?_)
    · refine lv_iconst (v := 0) hx hb d_Or_lineHolds_24 (by decide +kernel) ?_
      exact W.zret (v := 0) hx hb hr (by decide +kernel) (fun t ht hW => ⟨0, rfl, (Or.inl ⟨rfl, trivial⟩), ht⟩) t_nil d_Or_lineHolds_25
    · refine lv_iconst (v := 1) hx hb d_Or_lineHolds_20 (by decide +kernel) ?_
      refine lv_goto (tgt := 25) hx hb d_Or_lineHolds_21 (by decide) ?_
      exact W.zret (v := 1) hx hb hr (by decide +kernel) (fun t ht hW => ⟨1, rfl, (Or.inr ⟨rfl, trivial⟩), ht⟩) t_nil d_Or_lineHolds_25
set_option maxHeartbeats 4000000 in
set_option maxRecDepth 100000 in
theorem c_Or_price_t (l : Launch) (dC : Nat → ClassId) (dI : Nat → Nat → Nat) (ct : Nat → ClassId) (L : List Nat) (f : TF) (hO_0 : Ok L f) (q0 : Nat) (m0 : q0 ∈ L ∧ tk f q0 = 15) (p_0 : Int32) (p_1 : Int32) (p_2 : Int32) (p_3 : Int32) (p_4 : Int32)   : Met l y_Or_price (.code y_Or_price b_Or_price 8 (some .int) :: TB) ({ frames := 2, cells := 0, slots := 0, locals := 44 }) (va_Pc [.ref q0, .int p_0, .int p_1, .int p_2, .int p_3, .int p_4] (PR dC dI (TW ct L f) (TT ct))) (vp_Si (fun r => True)) 0 0 (fun _ => False) := by
  refine Met.ofW (cc := b_Or_price) (maxL := 8) (ret := (some .int)) (by decide) rfl ?_
  intro p e s m args below meth c s₁ B hml hv
  obtain ⟨rfl, hP, hK, hN⟩ := hv
  have hx := B.exec
  have hb := B.bytes
  have hr := B.returns
  have hts := atoms_spec (ws := (.code y_Or_price b_Or_price 8 (some .int) :: TB)) B.pre
  have htb := fun w (h : w ∈ TB) => hts w (List.mem_cons_of_mem _ h)
  have hown : s.vm.findClass R_Or = some m.cls := findClass_of_methodNamed B.named
  have hlocks := B.notSynchronized
  have hl := lv_entry ([.ref q0, .int p_0, .int p_1, .int p_2, .int p_3, .int p_4]) (n := 8) (Nat.le_of_ble_eq_true rfl)
  rw [lg_entry_eq]
  generalize (lg_sl ([.ref q0, .int p_0, .int p_1, .int p_2, .int p_3, .int p_4]) ++ List.replicate (8 - (lg_sl ([.ref q0, .int p_0, .int p_1, .int p_2, .int p_3, .int p_4])).length) Slot.unset).toArray = ls at hl ⊢
  have hl : lv_has ls 8 [(0, .ref q0), (1, .int p_0), (2, .int p_1), (3, .int p_2), (4, .int p_3), (5, .int p_4)] := hl
  refine lv_aload_n hx hb d_Or_price_0 rfl (lv_at hl 0 rfl) ?_
  refine lv_iload_n hx hb d_Or_price_1 rfl (lv_at hl 1 rfl) ?_
  refine vp_callSi (va_Run.run (va_runV (As := [.int p_0]) (rest := []) ⟨hx, hb, hml, hown, htb⟩ (c_Or_basePrice_t l dC dI ct L f hO_0 q0 m0 p_0) (cwV 1 htb (gd_V tw_72 tw_73 tw_74 tw_68 tw_71) rfl rfl rfl (by decide +kernel) ⟨Nat.le_of_ble_eq_true rfl, Nat.le_of_ble_eq_true rfl⟩) ⟨pr_blind, tw_recv hK hP m0 rfl rfl, pr_pre hP hK hN⟩ rfl rfl hl.1 rfl (lv_room (Nat.le_of_ble_eq_true rfl)) d_Or_price_2 ⟨Nat.le_of_ble_eq_true rfl, Nat.le_of_ble_eq_true rfl⟩)) (fun r_1 er_1 => ?_)
  clear er_1
  refine lv_istore (lv' := [(6, .int r_1), (0, .ref q0), (1, .int p_0), (2, .int p_1), (3, .int p_2), (4, .int p_3), (5, .int p_4)]) hx hb d_Or_price_5 hl (by decide) rfl (fun ls hl => ?_)
  refine lv_iload hx hb d_Or_price_7 (lv_at hl 0 rfl) ?_
  refine lv_iconst (v := (-1)) hx hb d_Or_price_9 (by decide +kernel) ?_
  refine lv_icmp_ne (tgt := 15) hx hb d_Or_price_10 (by decide) (fun c_2 => ?_) (fun c_2 => ?_)
  · refine lv_iload_n hx hb d_Or_price_15 rfl (lv_at hl 3 rfl) ?_
    refine lv_if_le (tgt := 35) hx hb d_Or_price_16 (by decide) (fun c_3 => ?_) (fun c_3 => ?_)
    · refine lv_iload_n hx hb d_Or_price_35 rfl (lv_at hl 3 rfl) ?_
      refine lv_if_ge (tgt := 52) hx hb d_Or_price_36 (by decide) (fun c_4 => ?_) (fun c_4 => ?_)
      · refine lv_iconst (v := 0) hx hb d_Or_price_52 (by decide +kernel) ?_
        refine lv_istore (lv' := [(7, .int 0), (6, .int r_1), (0, .ref q0), (1, .int p_0), (2, .int p_1), (3, .int p_2), (4, .int p_3), (5, .int p_4)]) hx hb d_Or_price_53 hl (by decide) rfl (fun ls hl => ?_)
        have cut_5 : ∀ (n_5 : Nat) (v6_5 v7_5 : Int32) (ls : Array Slot), ¬ (v7_5 < 0) → ¬ (12 < v7_5) → (12 : Int32).toInt - (v7_5 : Int32).toInt ≤ (n_5 : Int) → lv_has ls 8 [(0, .ref q0), (3, .int p_2), (4, .int p_3), (5, .int p_4), (6, .int v6_5), (7, .int v7_5)] → W p l e (headSpec (.code y_Or_price b_Or_price 8 (some .int) :: TB) ({ frames := 2, cells := 0, slots := 0, locals := 44 })).room s m [.ref q0, .int p_0, .int p_1, .int p_2, .int p_3, .int p_4].toArray below meth c s.heap [] 0 0 (MQ below (vp_Si (fun r => True)) [.ref q0, .int p_0, .int p_1, .int p_2, .int p_3, .int p_4].toArray s 0 0 (fun _ => False)) (F0 m 55 ls []) := by
          intro n_5
          induction n_5 using Nat.strongRecOn with
          | _ n_5 ih_5 =>
            intro v6_5 v7_5 ls iv0_5 iv1_5 hm_5 hl
            refine lv_iload hx hb d_Or_price_55 (lv_at hl 5 rfl) ?_
            refine lv_aload_n hx hb d_Or_price_57 rfl (lv_at hl 0 rfl) ?_
            refine tw_geti (D := (dC, dI)) (C := R_Or) (T := F_Or) (N := 9) (ci := 3) (kd := 15) (ct := ct) hx hb htb i_Or hown hK hP hO_0 m0 rfl rfl 6 (by decide) (htb (.fieldLink R_Or 27 "WaterMen$Order" "hourCount" "I") tw_64) (fun _ h9 => h9) rfl d_Or_price_58 (fun x_6 e_6 b_6 => ?_)
            refine lv_icmp_ge (tgt := 102) hx hb d_Or_price_61 (by decide) (fun c_7 => ?_) (fun c_7 => ?_)
            · refine lv_iload_n hx hb d_Or_price_102 rfl (lv_at hl 1 rfl) ?_
              refine vp_callSi (va_Run.run (va_runSN (As := [.int p_2]) (rest := []) ⟨hx, hb, hml, hown, htb⟩ (c_WM_isSunday l p_2) ⟨va_cnB 1 htb (gd_I tw_75) rfl rfl rfl (hN.1 _ nw_6) (htb (.initialized R_WM) tw_25) (by decide +kernel) ⟨Nat.le_of_ble_eq_true rfl, Nat.le_of_ble_eq_true rfl⟩, (htb (.static y_WM_isSunday) tw_76), trivial⟩ ⟨fun _ _ _ _ h => h, fun U _ _ => ⟨rfl, trivial⟩⟩ rfl rfl hl.1 rfl (lv_room (Nat.le_of_ble_eq_true rfl)) d_Or_price_103 ⟨Nat.le_of_ble_eq_true rfl, Nat.le_of_ble_eq_true rfl⟩)) (fun r er => ?_)
              subst er
              by_cases c_9 : (p_2 - p_2 / 7 * 7) = 0
              · refine hb_ti 1 (by unfold f_WM_isSunday; rw [if_pos c_9]; first | done | rfl) ?_
                refine lv_if_eq (tgt := 122) hx hb d_Or_price_106 (by decide) (fun h => absurd h (by decide +kernel)) (fun _ => ?_)
                refine lv_iload hx hb d_Or_price_109 (lv_at hl 4 rfl) ?_
                refine lv_aload_n hx hb d_Or_price_111 rfl (lv_at hl 0 rfl) ?_
                refine tw_getr (D := (dC, dI)) (C := R_Or) (T := F_Or) (N := 9) (ci := 3) (kd := 15) (ct := ct) hx hb htb i_Or hown hK hP hO_0 m0 rfl rfl 4 (by decide) (htb (.fieldLink R_Or 20 "WaterMen$Order" "single" "[I") tw_65) (fun _ h9 => h9) rfl d_Or_price_112 (fun q_10 e_10 m_10 => ?_)
                refine lv_iconst (v := 4) hx hb d_Or_price_115 (by decide +kernel) ?_
                refine tw_aldI (ct := ct) hx hb hK hP hO_0 m_10 rfl (by unfold vp_in; decide +kernel) d_Or_price_116 (fun x_11 e_11 b_11 => ?_)
                refine vp_callSi (va_Run.run (va_runS (As := [.int v6_5, .int x_11]) (rest := []) ⟨hx, hb, hml, hown, htb⟩ (c_Or_scaled_t l dC dI ct L f hO_0 v6_5 x_11) (cwS 2 htb (gd_S tw_81 tw_82 tw_68 tw_80) rfl rfl rfl (by decide +kernel) ⟨Nat.le_of_ble_eq_true rfl, Nat.le_of_ble_eq_true rfl⟩) ⟨pr_blind, pr_pre hP hK hN⟩ rfl rfl hl.1 rfl (lv_room (Nat.le_of_ble_eq_true rfl)) d_Or_price_117 ⟨Nat.le_of_ble_eq_true rfl, Nat.le_of_ble_eq_true rfl⟩)) (fun r_12 er_12 => ?_)
                clear er_12
                refine lv_istore (lv' := [(6, .int r_12), (0, .ref q0), (3, .int p_2), (4, .int p_3), (5, .int p_4), (7, .int v7_5)]) hx hb d_Or_price_120 hl (by decide) rfl (fun ls hl => ?_)
                refine lv_iload hx hb d_Or_price_122 (lv_at hl 4 rfl) ?_
                refine lv_iconst (v := 2) hx hb d_Or_price_124 (by decide +kernel) ?_
                refine lv_icmp_ne (tgt := 142) hx hb d_Or_price_125 (by decide) (fun c_13 => ?_) (fun c_13 => ?_)
                · refine lv_iload hx hb d_Or_price_142 (lv_at hl 0 rfl) ?_
                  refine lv_aload_n hx hb d_Or_price_144 rfl (lv_at hl 1 rfl) ?_
                  refine tw_getR (D := (dC, dI)) (C := R_Or) (T := F_Or) (N := 9) (ci := 3) (kd := 15) (ct := ct) hx hb htb i_Or hown hK hP m0 rfl rfl 4 e_10 (by decide) (htb (.fieldLink R_Or 20 "WaterMen$Order" "single" "[I") tw_65) (fun _ h9 => h9) rfl d_Or_price_145 ?_
                  refine hb_tv (.ref q_10) rfl ?_
                  refine lv_iconst (v := 5) hx hb d_Or_price_148 (by decide +kernel) ?_
                  refine tw_aldI (ct := ct) hx hb hK hP hO_0 m_10 rfl (by unfold vp_in; decide +kernel) d_Or_price_149 (fun x_14 e_14 b_14 => ?_)
                  refine va_mmax hx hb (hml.trans hl.1.symm) hown (htb (.methodLink R_Or 56 Lib.Math.max.name) tw_83) (htb (.static Lib.Math.max.name) tw_39) (htb (.initialized "java/lang/Math") tw_32) (htb (.code Lib.Math.max.name Lib.Math.max.code 2 (some .int)) tw_40) (Nat.le_of_ble_eq_true rfl) (Nat.le_of_ble_eq_true rfl) (Nat.le_of_ble_eq_true rfl) (Nat.le_of_ble_eq_true rfl) d_Or_price_150 ?_
                  refine hb_anyi (fun y_15 => ?_)
                  exact W.iret (v := y_15) hx hb hr (fun t ht hW => ⟨y_15, rfl, trivial, ht⟩) t_nil d_Or_price_153
                · refine lv_iload hx hb d_Or_price_128 (lv_at hl 0 rfl) ?_
                  refine lv_aload_n hx hb d_Or_price_130 rfl (lv_at hl 1 rfl) ?_
                  refine tw_getR (D := (dC, dI)) (C := R_Or) (T := F_Or) (N := 9) (ci := 3) (kd := 15) (ct := ct) hx hb htb i_Or hown hK hP m0 rfl rfl 4 e_10 (by decide) (htb (.fieldLink R_Or 20 "WaterMen$Order" "single" "[I") tw_65) (fun _ h9 => h9) rfl d_Or_price_131 ?_
                  refine hb_tv (.ref q_10) rfl ?_
                  refine lv_bipush (v := 8) hx hb d_Or_price_134 (by decide +kernel) ?_
                  refine tw_aldI (ct := ct) hx hb hK hP hO_0 m_10 rfl (by unfold vp_in; decide +kernel) d_Or_price_136 (fun x_16 e_16 b_16 => ?_)
                  refine vp_callSi (va_Run.run (va_runS (As := [.int r_12, .int x_16]) (rest := []) ⟨hx, hb, hml, hown, htb⟩ (c_Or_scaled_t l dC dI ct L f hO_0 r_12 x_16) (cwS 2 htb (gd_S tw_81 tw_82 tw_68 tw_80) rfl rfl rfl (by decide +kernel) ⟨Nat.le_of_ble_eq_true rfl, Nat.le_of_ble_eq_true rfl⟩) ⟨pr_blind, pr_pre hP hK hN⟩ rfl rfl hl.1 rfl (lv_room (Nat.le_of_ble_eq_true rfl)) d_Or_price_137 ⟨Nat.le_of_ble_eq_true rfl, Nat.le_of_ble_eq_true rfl⟩)) (fun r_17 er_17 => ?_)
                  clear er_17
                  refine lv_istore (lv' := [(6, .int r_17), (0, .ref q0), (3, .int p_2), (4, .int p_3), (5, .int p_4), (7, .int v7_5)]) hx hb d_Or_price_140 hl (by decide) rfl (fun ls hl => ?_)
                  refine lv_iload hx hb d_Or_price_142 (lv_at hl 0 rfl) ?_
                  refine lv_aload_n hx hb d_Or_price_144 rfl (lv_at hl 1 rfl) ?_
                  refine tw_getR (D := (dC, dI)) (C := R_Or) (T := F_Or) (N := 9) (ci := 3) (kd := 15) (ct := ct) hx hb htb i_Or hown hK hP m0 rfl rfl 4 e_10 (by decide) (htb (.fieldLink R_Or 20 "WaterMen$Order" "single" "[I") tw_65) (fun _ h9 => h9) rfl d_Or_price_145 ?_
                  refine hb_tv (.ref q_10) rfl ?_
                  refine lv_iconst (v := 5) hx hb d_Or_price_148 (by decide +kernel) ?_
                  refine tw_aldI (ct := ct) hx hb hK hP hO_0 m_10 rfl (by unfold vp_in; decide +kernel) d_Or_price_149 (fun x_18 e_18 b_18 => ?_)
                  refine va_mmax hx hb (hml.trans hl.1.symm) hown (htb (.methodLink R_Or 56 Lib.Math.max.name) tw_83) (htb (.static Lib.Math.max.name) tw_39) (htb (.initialized "java/lang/Math") tw_32) (htb (.code Lib.Math.max.name Lib.Math.max.code 2 (some .int)) tw_40) (Nat.le_of_ble_eq_true rfl) (Nat.le_of_ble_eq_true rfl) (Nat.le_of_ble_eq_true rfl) (Nat.le_of_ble_eq_true rfl) d_Or_price_150 ?_
                  refine hb_anyi (fun y_19 => ?_)
                  exact W.iret (v := y_19) hx hb hr (fun t ht hW => ⟨y_19, rfl, trivial, ht⟩) t_nil d_Or_price_153
              · refine hb_ti 0 (by unfold f_WM_isSunday; rw [if_neg c_9]; first | done | rfl) ?_
                refine lv_if_eq (tgt := 122) hx hb d_Or_price_106 (by decide) (fun _ => ?_) (fun h => absurd (by decide +kernel) h)
                refine lv_iload hx hb d_Or_price_122 (lv_at hl 3 rfl) ?_
                refine lv_iconst (v := 2) hx hb d_Or_price_124 (by decide +kernel) ?_
                refine lv_icmp_ne (tgt := 142) hx hb d_Or_price_125 (by decide) (fun c_20 => ?_) (fun c_20 => ?_)
                · refine lv_iload hx hb d_Or_price_142 (lv_at hl 4 rfl) ?_
                  refine lv_aload_n hx hb d_Or_price_144 rfl (lv_at hl 0 rfl) ?_
                  refine tw_getr (D := (dC, dI)) (C := R_Or) (T := F_Or) (N := 9) (ci := 3) (kd := 15) (ct := ct) hx hb htb i_Or hown hK hP hO_0 m0 rfl rfl 4 (by decide) (htb (.fieldLink R_Or 20 "WaterMen$Order" "single" "[I") tw_65) (fun _ h9 => h9) rfl d_Or_price_145 (fun q_21 e_21 m_21 => ?_)
                  refine lv_iconst (v := 5) hx hb d_Or_price_148 (by decide +kernel) ?_
                  refine tw_aldI (ct := ct) hx hb hK hP hO_0 m_21 rfl (by unfold vp_in; decide +kernel) d_Or_price_149 (fun x_22 e_22 b_22 => ?_)
                  refine va_mmax hx hb (hml.trans hl.1.symm) hown (htb (.methodLink R_Or 56 Lib.Math.max.name) tw_83) (htb (.static Lib.Math.max.name) tw_39) (htb (.initialized "java/lang/Math") tw_32) (htb (.code Lib.Math.max.name Lib.Math.max.code 2 (some .int)) tw_40) (Nat.le_of_ble_eq_true rfl) (Nat.le_of_ble_eq_true rfl) (Nat.le_of_ble_eq_true rfl) (Nat.le_of_ble_eq_true rfl) d_Or_price_150 ?_
                  refine hb_anyi (fun y_23 => ?_)
                  exact W.iret (v := y_23) hx hb hr (fun t ht hW => ⟨y_23, rfl, trivial, ht⟩) t_nil d_Or_price_153
                · refine lv_iload hx hb d_Or_price_128 (lv_at hl 4 rfl) ?_
                  refine lv_aload_n hx hb d_Or_price_130 rfl (lv_at hl 0 rfl) ?_
                  refine tw_getr (D := (dC, dI)) (C := R_Or) (T := F_Or) (N := 9) (ci := 3) (kd := 15) (ct := ct) hx hb htb i_Or hown hK hP hO_0 m0 rfl rfl 4 (by decide) (htb (.fieldLink R_Or 20 "WaterMen$Order" "single" "[I") tw_65) (fun _ h9 => h9) rfl d_Or_price_131 (fun q_24 e_24 m_24 => ?_)
                  refine lv_bipush (v := 8) hx hb d_Or_price_134 (by decide +kernel) ?_
                  refine tw_aldI (ct := ct) hx hb hK hP hO_0 m_24 rfl (by unfold vp_in; decide +kernel) d_Or_price_136 (fun x_25 e_25 b_25 => ?_)
                  refine vp_callSi (va_Run.run (va_runS (As := [.int v6_5, .int x_25]) (rest := []) ⟨hx, hb, hml, hown, htb⟩ (c_Or_scaled_t l dC dI ct L f hO_0 v6_5 x_25) (cwS 2 htb (gd_S tw_81 tw_82 tw_68 tw_80) rfl rfl rfl (by decide +kernel) ⟨Nat.le_of_ble_eq_true rfl, Nat.le_of_ble_eq_true rfl⟩) ⟨pr_blind, pr_pre hP hK hN⟩ rfl rfl hl.1 rfl (lv_room (Nat.le_of_ble_eq_true rfl)) d_Or_price_137 ⟨Nat.le_of_ble_eq_true rfl, Nat.le_of_ble_eq_true rfl⟩)) (fun r_26 er_26 => ?_)
                  clear er_26
                  refine lv_istore (lv' := [(6, .int r_26), (0, .ref q0), (3, .int p_2), (4, .int p_3), (5, .int p_4), (7, .int v7_5)]) hx hb d_Or_price_140 hl (by decide) rfl (fun ls hl => ?_)
                  refine lv_iload hx hb d_Or_price_142 (lv_at hl 0 rfl) ?_
                  refine lv_aload_n hx hb d_Or_price_144 rfl (lv_at hl 1 rfl) ?_
                  refine tw_getR (D := (dC, dI)) (C := R_Or) (T := F_Or) (N := 9) (ci := 3) (kd := 15) (ct := ct) hx hb htb i_Or hown hK hP m0 rfl rfl 4 e_24 (by decide) (htb (.fieldLink R_Or 20 "WaterMen$Order" "single" "[I") tw_65) (fun _ h9 => h9) rfl d_Or_price_145 ?_
                  refine hb_tv (.ref q_24) rfl ?_
                  refine lv_iconst (v := 5) hx hb d_Or_price_148 (by decide +kernel) ?_
                  refine tw_aldI (ct := ct) hx hb hK hP hO_0 m_24 rfl (by unfold vp_in; decide +kernel) d_Or_price_149 (fun x_27 e_27 b_27 => ?_)
                  refine va_mmax hx hb (hml.trans hl.1.symm) hown (htb (.methodLink R_Or 56 Lib.Math.max.name) tw_83) (htb (.static Lib.Math.max.name) tw_39) (htb (.initialized "java/lang/Math") tw_32) (htb (.code Lib.Math.max.name Lib.Math.max.code 2 (some .int)) tw_40) (Nat.le_of_ble_eq_true rfl) (Nat.le_of_ble_eq_true rfl) (Nat.le_of_ble_eq_true rfl) (Nat.le_of_ble_eq_true rfl) d_Or_price_150 ?_
                  refine hb_anyi (fun y_28 => ?_)
                  exact W.iret (v := y_28) hx hb hr (fun t ht hW => ⟨y_28, rfl, trivial, ht⟩) t_nil d_Or_price_153
            · refine lv_aload_n hx hb d_Or_price_64 rfl (lv_at hl 0 rfl) ?_
              refine tw_getr (D := (dC, dI)) (C := R_Or) (T := F_Or) (N := 9) (ci := 3) (kd := 15) (ct := ct) hx hb htb i_Or hown hK hP hO_0 m0 rfl rfl 3 (by decide) (htb (.fieldLink R_Or 15 "WaterMen$Order" "hours" "[I") tw_84) (fun _ h9 => h9) rfl d_Or_price_65 (fun q_29 e_29 m_29 => ?_)
              refine lv_iload hx hb d_Or_price_68 (lv_at hl 5 rfl) ?_
              refine lv_iload hx hb d_Or_price_70 (lv_at hl 2 rfl) ?_
              refine vp_callSi (va_Run.run (va_runS (As := [.ref q_29, .int v7_5, .int p_3]) (rest := []) ⟨hx, hb, hml, hown, htb⟩ (c_Or_lineHolds_k17_t l dC dI ct L f hO_0 q_29 m_29 v7_5 p_3 iv0_5 (show ¬ (11 < v7_5) from ((fun (a_0 : Int32) (a_1 : Int32) (k_0 : ¬ (a_1 ≤ a_0)) (k_1 : ¬ (12 < a_1)) => (show ¬ (11 < a_0) from by have z0 : (11 : Int32).toInt = 11 := (by decide +kernel); have z1 : (12 : Int32).toInt = 12 := (by decide +kernel); have r0 := fb_rng (a_0); have r1 := fb_rng (a_1); have e0 := k_0; rw [Int32.le_iff_toInt_le] at e0; have e1 := k_1; rw [Int32.lt_iff_toInt_lt, z1] at e1; rw [Int32.lt_iff_toInt_lt, z0]; omega)) v7_5 x_6 c_7 b_6.2))) (cwS 3 htb (gd_S tw_69 tw_70 tw_68 tw_67) rfl rfl rfl (by decide +kernel) ⟨Nat.le_of_ble_eq_true rfl, Nat.le_of_ble_eq_true rfl⟩) ⟨pr_blind, pr_pre hP hK hN⟩ rfl rfl hl.1 rfl (lv_room (Nat.le_of_ble_eq_true rfl)) d_Or_price_72 ⟨Nat.le_of_ble_eq_true rfl, Nat.le_of_ble_eq_true rfl⟩)) (fun r_30 er_30 => ?_)
              rcases er_30 with ⟨rfl, -⟩ | ⟨rfl, -⟩
              · refine lv_if_eq (tgt := 96) hx hb d_Or_price_75 (by decide) (fun _ => ?_) (fun h => absurd (by decide +kernel) h)
                refine lv_iinc (v := (v7_5 + 1)) (lv' := [(7, .int (v7_5 + 1)), (0, .ref q0), (3, .int p_2), (4, .int p_3), (5, .int p_4), (6, .int v6_5)]) hx hb d_Or_price_96 hl (k := 5) rfl rfl (by decide) rfl (fun ls hl => ?_)
                refine lv_goto (tgt := 55) hx hb d_Or_price_99 (by decide) ?_
                exact ih_5 (n_5 - 1) (ms_1 ((fun (a_0 : Int32) (a_1 : Int32) (k_0 : ¬ (a_1 ≤ a_0)) (k_1 : ¬ (12 < a_1)) => (show 1 ≤ (12 : Int32).toInt - (a_0).toInt ∧ (12 : Int32).toInt - ((a_0) + (1 : Int32)).toInt + 1 ≤ (12 : Int32).toInt - (a_0).toInt from by have z0 : (1 : Int32).toInt = 1 := (by decide +kernel); have z1 : (12 : Int32).toInt = 12 := (by decide +kernel); have r0 := fb_rng (a_0); have r1 := fb_rng (a_1); have e0 := k_0; rw [Int32.le_iff_toInt_le] at e0; have e1 := k_1; rw [Int32.lt_iff_toInt_lt, z1] at e1; obtain ⟨n_0, hn_0, s0⟩ := nd_add (x := (a_0)) (y := (1 : Int32)) (by (try rw [z0]); omega) (by (try rw [z0]); omega); rw [z0] at s0; rw [hn_0]; (try rw [z1]); omega)) v7_5 x_6 c_7 b_6.2) hm_5) v6_5 (v7_5 + 1) _ (show ¬ ((v7_5 + 1) < 0) from by have e0 := iv0_5; rw [Int32.lt_iff_toInt_lt] at e0; have e1 := iv1_5; rw [Int32.lt_iff_toInt_lt] at e1; have z0 : (0 : Int32).toInt = 0 := (by decide +kernel); have z1 : (1 : Int32).toInt = 1 := (by decide +kernel); have z2 : (12 : Int32).toInt = 12 := (by decide +kernel); have ss := fb_addI (x := v7_5) (y := 1) (by omega) (by omega); rw [Int32.lt_iff_toInt_lt]; omega) (show ¬ (12 < (v7_5 + 1)) from ((fun (a_0 : Int32) (a_1 : Int32) (k_0 : ¬ (a_1 ≤ a_0)) (k_1 : ¬ (12 < a_1)) => (show ¬ (12 < (a_0 + 1)) from by have z0 : (1 : Int32).toInt = 1 := (by decide +kernel); have z1 : (12 : Int32).toInt = 12 := (by decide +kernel); have r0 := fb_rng (a_0); have r1 := fb_rng (a_1); have e0 := k_0; rw [Int32.le_iff_toInt_le] at e0; have e1 := k_1; rw [Int32.lt_iff_toInt_lt, z1] at e1; obtain ⟨n_0, hn_0, s0⟩ := nd_add (x := (a_0)) (y := (1 : Int32)) (by (try rw [z0]); omega) (by (try rw [z0]); omega); rw [z0] at s0; rw [hn_0, Int32.lt_iff_toInt_lt, z1]; omega)) v7_5 x_6 c_7 b_6.2)) (by exact ms_2 ((fun (a_0 : Int32) (a_1 : Int32) (k_0 : ¬ (a_1 ≤ a_0)) (k_1 : ¬ (12 < a_1)) => (show 1 ≤ (12 : Int32).toInt - (a_0).toInt ∧ (12 : Int32).toInt - ((a_0) + (1 : Int32)).toInt + 1 ≤ (12 : Int32).toInt - (a_0).toInt from by have z0 : (1 : Int32).toInt = 1 := (by decide +kernel); have z1 : (12 : Int32).toInt = 12 := (by decide +kernel); have r0 := fb_rng (a_0); have r1 := fb_rng (a_1); have e0 := k_0; rw [Int32.le_iff_toInt_le] at e0; have e1 := k_1; rw [Int32.lt_iff_toInt_lt, z1] at e1; obtain ⟨n_0, hn_0, s0⟩ := nd_add (x := (a_0)) (y := (1 : Int32)) (by (try rw [z0]); omega) (by (try rw [z0]); omega); rw [z0] at s0; rw [hn_0]; (try rw [z1]); omega)) v7_5 x_6 c_7 b_6.2) hm_5) (lv_sub hl [1, 2, 3, 4, 5, 0] rfl)
              · refine lv_if_eq (tgt := 96) hx hb d_Or_price_75 (by decide) (fun h => absurd h (by decide +kernel)) (fun _ => ?_)
                refine lv_iload hx hb d_Or_price_78 (lv_at hl 4 rfl) ?_
                refine lv_aload_n hx hb d_Or_price_80 rfl (lv_at hl 0 rfl) ?_
                refine tw_getR (D := (dC, dI)) (C := R_Or) (T := F_Or) (N := 9) (ci := 3) (kd := 15) (ct := ct) hx hb htb i_Or hown hK hP m0 rfl rfl 3 e_29 (by decide) (htb (.fieldLink R_Or 15 "WaterMen$Order" "hours" "[I") tw_84) (fun _ h9 => h9) rfl d_Or_price_81 ?_
                refine hb_tv (.ref q_29) rfl ?_
                refine lv_iload hx hb d_Or_price_84 (lv_at hl 5 rfl) ?_
                refine lv_iconst (v := 3) hx hb d_Or_price_86 (by decide +kernel) ?_
                refine lv_imul hx hb d_Or_price_87 ?_
                refine lv_iconst (v := 2) hx hb d_Or_price_88 (by decide +kernel) ?_
                refine lv_iadd hx hb d_Or_price_89 ?_
                refine tw_aldI (ct := ct) hx hb hK hP hO_0 m_29 rfl ((fun (a_0 : Int32) (a_1 : Int32) (k_0 : ¬ (a_0 < 0)) (k_1 : ¬ (a_1 ≤ a_0)) (k_2 : ¬ (12 < a_1)) => (show vp_in (((a_0 * 3) + 2)) 36 from by have z0 : (0 : Int32).toInt = 0 := (by decide +kernel); have z1 : (2 : Int32).toInt = 2 := (by decide +kernel); have z2 : (3 : Int32).toInt = 3 := (by decide +kernel); have z3 : (12 : Int32).toInt = 12 := (by decide +kernel); have r0 := fb_rng (a_0); have r1 := fb_rng (a_1); have e0 := k_0; rw [Int32.lt_iff_toInt_lt, z0] at e0; have e1 := k_1; rw [Int32.le_iff_toInt_le] at e1; have e2 := k_2; rw [Int32.lt_iff_toInt_lt, z3] at e2; obtain ⟨n_0, hn_0, s0⟩ := nd_mul (x := (a_0)) (y := (3 : Int32)) (by (try rw [z2]); omega) (by (try rw [z2]); omega); rw [z2] at s0; obtain ⟨n_1, hn_1, s1⟩ := nd_add (x := n_0) (y := (2 : Int32)) (by (try rw [z1]); omega) (by (try rw [z1]); omega); rw [z1] at s1; rw [hn_0, hn_1, vp_in_iff]; omega)) v7_5 x_6 iv0_5 c_7 b_6.2) d_Or_price_90 (fun x_31 e_31 b_31 => ?_)
                refine vp_callSi (va_Run.run (va_runS (As := [.int v6_5, .int x_31]) (rest := []) ⟨hx, hb, hml, hown, htb⟩ (c_Or_scaled_t l dC dI ct L f hO_0 v6_5 x_31) (cwS 2 htb (gd_S tw_81 tw_82 tw_68 tw_80) rfl rfl rfl (by decide +kernel) ⟨Nat.le_of_ble_eq_true rfl, Nat.le_of_ble_eq_true rfl⟩) ⟨pr_blind, pr_pre hP hK hN⟩ rfl rfl hl.1 rfl (lv_room (Nat.le_of_ble_eq_true rfl)) d_Or_price_91 ⟨Nat.le_of_ble_eq_true rfl, Nat.le_of_ble_eq_true rfl⟩)) (fun r_32 er_32 => ?_)
                clear er_32
                refine lv_istore (lv' := [(6, .int r_32), (0, .ref q0), (3, .int p_2), (4, .int p_3), (5, .int p_4), (7, .int v7_5)]) hx hb d_Or_price_94 hl (by decide) rfl (fun ls hl => ?_)
                refine lv_iinc (v := (v7_5 + 1)) (lv' := [(7, .int (v7_5 + 1)), (6, .int r_32), (0, .ref q0), (3, .int p_2), (4, .int p_3), (5, .int p_4)]) hx hb d_Or_price_96 hl (k := 5) rfl rfl (by decide) rfl (fun ls hl => ?_)
                refine lv_goto (tgt := 55) hx hb d_Or_price_99 (by decide) ?_
                exact ih_5 (n_5 - 1) (ms_1 ((fun (a_0 : Int32) (a_1 : Int32) (k_0 : ¬ (a_1 ≤ a_0)) (k_1 : ¬ (12 < a_1)) => (show 1 ≤ (12 : Int32).toInt - (a_0).toInt ∧ (12 : Int32).toInt - ((a_0) + (1 : Int32)).toInt + 1 ≤ (12 : Int32).toInt - (a_0).toInt from by have z0 : (1 : Int32).toInt = 1 := (by decide +kernel); have z1 : (12 : Int32).toInt = 12 := (by decide +kernel); have r0 := fb_rng (a_0); have r1 := fb_rng (a_1); have e0 := k_0; rw [Int32.le_iff_toInt_le] at e0; have e1 := k_1; rw [Int32.lt_iff_toInt_lt, z1] at e1; obtain ⟨n_0, hn_0, s0⟩ := nd_add (x := (a_0)) (y := (1 : Int32)) (by (try rw [z0]); omega) (by (try rw [z0]); omega); rw [z0] at s0; rw [hn_0]; (try rw [z1]); omega)) v7_5 x_6 c_7 b_6.2) hm_5) r_32 (v7_5 + 1) _ (show ¬ ((v7_5 + 1) < 0) from by have e0 := iv0_5; rw [Int32.lt_iff_toInt_lt] at e0; have e1 := iv1_5; rw [Int32.lt_iff_toInt_lt] at e1; have z0 : (0 : Int32).toInt = 0 := (by decide +kernel); have z1 : (1 : Int32).toInt = 1 := (by decide +kernel); have z2 : (12 : Int32).toInt = 12 := (by decide +kernel); have ss := fb_addI (x := v7_5) (y := 1) (by omega) (by omega); rw [Int32.lt_iff_toInt_lt]; omega) (show ¬ (12 < (v7_5 + 1)) from ((fun (a_0 : Int32) (a_1 : Int32) (k_0 : ¬ (a_1 ≤ a_0)) (k_1 : ¬ (12 < a_1)) => (show ¬ (12 < (a_0 + 1)) from by have z0 : (1 : Int32).toInt = 1 := (by decide +kernel); have z1 : (12 : Int32).toInt = 12 := (by decide +kernel); have r0 := fb_rng (a_0); have r1 := fb_rng (a_1); have e0 := k_0; rw [Int32.le_iff_toInt_le] at e0; have e1 := k_1; rw [Int32.lt_iff_toInt_lt, z1] at e1; obtain ⟨n_0, hn_0, s0⟩ := nd_add (x := (a_0)) (y := (1 : Int32)) (by (try rw [z0]); omega) (by (try rw [z0]); omega); rw [z0] at s0; rw [hn_0, Int32.lt_iff_toInt_lt, z1]; omega)) v7_5 x_6 c_7 b_6.2)) (by exact ms_2 ((fun (a_0 : Int32) (a_1 : Int32) (k_0 : ¬ (a_1 ≤ a_0)) (k_1 : ¬ (12 < a_1)) => (show 1 ≤ (12 : Int32).toInt - (a_0).toInt ∧ (12 : Int32).toInt - ((a_0) + (1 : Int32)).toInt + 1 ≤ (12 : Int32).toInt - (a_0).toInt from by have z0 : (1 : Int32).toInt = 1 := (by decide +kernel); have z1 : (12 : Int32).toInt = 12 := (by decide +kernel); have r0 := fb_rng (a_0); have r1 := fb_rng (a_1); have e0 := k_0; rw [Int32.le_iff_toInt_le] at e0; have e1 := k_1; rw [Int32.lt_iff_toInt_lt, z1] at e1; obtain ⟨n_0, hn_0, s0⟩ := nd_add (x := (a_0)) (y := (1 : Int32)) (by (try rw [z0]); omega) (by (try rw [z0]); omega); rw [z0] at s0; rw [hn_0]; (try rw [z1]); omega)) v7_5 x_6 c_7 b_6.2) hm_5) (lv_sub hl [2, 3, 4, 5, 1, 0] rfl)
        exact cut_5 4294967296 r_1 (0 : Int32) _ (by decide +kernel) (by decide +kernel) (by exact ms_0 _ _) (lv_sub hl [2, 5, 6, 7, 1, 0] rfl)
      · refine lv_iload hx hb d_Or_price_39 (lv_at hl 0 rfl) ?_
        refine lv_aload_n hx hb d_Or_price_41 rfl (lv_at hl 1 rfl) ?_
        refine tw_getr (D := (dC, dI)) (C := R_Or) (T := F_Or) (N := 9) (ci := 3) (kd := 15) (ct := ct) hx hb htb i_Or hown hK hP hO_0 m0 rfl rfl 4 (by decide) (htb (.fieldLink R_Or 20 "WaterMen$Order" "single" "[I") tw_65) (fun _ h9 => h9) rfl d_Or_price_42 (fun q_33 e_33 m_33 => ?_)
        refine lv_iconst (v := 3) hx hb d_Or_price_45 (by decide +kernel) ?_
        refine tw_aldI (ct := ct) hx hb hK hP hO_0 m_33 rfl (by unfold vp_in; decide +kernel) d_Or_price_46 (fun x_34 e_34 b_34 => ?_)
        refine vp_callSi (va_Run.run (va_runS (As := [.int r_1, .int x_34]) (rest := []) ⟨hx, hb, hml, hown, htb⟩ (c_Or_scaled_t l dC dI ct L f hO_0 r_1 x_34) (cwS 2 htb (gd_S tw_81 tw_82 tw_68 tw_80) rfl rfl rfl (by decide +kernel) ⟨Nat.le_of_ble_eq_true rfl, Nat.le_of_ble_eq_true rfl⟩) ⟨pr_blind, pr_pre hP hK hN⟩ rfl rfl hl.1 rfl (lv_room (Nat.le_of_ble_eq_true rfl)) d_Or_price_47 ⟨Nat.le_of_ble_eq_true rfl, Nat.le_of_ble_eq_true rfl⟩)) (fun r_35 er_35 => ?_)
        clear er_35
        refine lv_istore (lv' := [(6, .int r_35), (0, .ref q0), (1, .int p_0), (2, .int p_1), (3, .int p_2), (4, .int p_3), (5, .int p_4)]) hx hb d_Or_price_50 hl (by decide) rfl (fun ls hl => ?_)
        refine lv_iconst (v := 0) hx hb d_Or_price_52 (by decide +kernel) ?_
        refine lv_istore (lv' := [(7, .int 0), (6, .int r_35), (0, .ref q0), (1, .int p_0), (2, .int p_1), (3, .int p_2), (4, .int p_3), (5, .int p_4)]) hx hb d_Or_price_53 hl (by decide) rfl (fun ls hl => ?_)
        have cut_36 : ∀ (n_36 : Nat) (v6_36 v7_36 : Int32) (ls : Array Slot), ¬ (v7_36 < 0) → ¬ (12 < v7_36) → (12 : Int32).toInt - (v7_36 : Int32).toInt ≤ (n_36 : Int) → lv_has ls 8 [(0, .ref q0), (3, .int p_2), (4, .int p_3), (5, .int p_4), (6, .int v6_36), (7, .int v7_36)] → W p l e (headSpec (.code y_Or_price b_Or_price 8 (some .int) :: TB) ({ frames := 2, cells := 0, slots := 0, locals := 44 })).room s m [.ref q0, .int p_0, .int p_1, .int p_2, .int p_3, .int p_4].toArray below meth c s.heap [] 0 0 (MQ below (vp_Si (fun r => True)) [.ref q0, .int p_0, .int p_1, .int p_2, .int p_3, .int p_4].toArray s 0 0 (fun _ => False)) (F0 m 55 ls []) := by
          intro n_36
          induction n_36 using Nat.strongRecOn with
          | _ n_36 ih_36 =>
            intro v6_36 v7_36 ls iv0_36 iv1_36 hm_36 hl
            refine lv_iload hx hb d_Or_price_55 (lv_at hl 5 rfl) ?_
            refine lv_aload_n hx hb d_Or_price_57 rfl (lv_at hl 0 rfl) ?_
            refine tw_geti (D := (dC, dI)) (C := R_Or) (T := F_Or) (N := 9) (ci := 3) (kd := 15) (ct := ct) hx hb htb i_Or hown hK hP hO_0 m0 rfl rfl 6 (by decide) (htb (.fieldLink R_Or 27 "WaterMen$Order" "hourCount" "I") tw_64) (fun _ h9 => h9) rfl d_Or_price_58 (fun x_37 e_37 b_37 => ?_)
            refine lv_icmp_ge (tgt := 102) hx hb d_Or_price_61 (by decide) (fun c_38 => ?_) (fun c_38 => ?_)
            · refine lv_iload_n hx hb d_Or_price_102 rfl (lv_at hl 1 rfl) ?_
              refine vp_callSi (va_Run.run (va_runSN (As := [.int p_2]) (rest := []) ⟨hx, hb, hml, hown, htb⟩ (c_WM_isSunday l p_2) ⟨va_cnB 1 htb (gd_I tw_75) rfl rfl rfl (hN.1 _ nw_6) (htb (.initialized R_WM) tw_25) (by decide +kernel) ⟨Nat.le_of_ble_eq_true rfl, Nat.le_of_ble_eq_true rfl⟩, (htb (.static y_WM_isSunday) tw_76), trivial⟩ ⟨fun _ _ _ _ h => h, fun U _ _ => ⟨rfl, trivial⟩⟩ rfl rfl hl.1 rfl (lv_room (Nat.le_of_ble_eq_true rfl)) d_Or_price_103 ⟨Nat.le_of_ble_eq_true rfl, Nat.le_of_ble_eq_true rfl⟩)) (fun r er => ?_)
              subst er
              by_cases c_40 : (p_2 - p_2 / 7 * 7) = 0
              · refine hb_ti 1 (by unfold f_WM_isSunday; rw [if_pos c_40]; first | done | rfl) ?_
                refine lv_if_eq (tgt := 122) hx hb d_Or_price_106 (by decide) (fun h => absurd h (by decide +kernel)) (fun _ => ?_)
                refine lv_iload hx hb d_Or_price_109 (lv_at hl 4 rfl) ?_
                refine lv_aload_n hx hb d_Or_price_111 rfl (lv_at hl 0 rfl) ?_
                refine tw_getR (D := (dC, dI)) (C := R_Or) (T := F_Or) (N := 9) (ci := 3) (kd := 15) (ct := ct) hx hb htb i_Or hown hK hP m0 rfl rfl 4 e_33 (by decide) (htb (.fieldLink R_Or 20 "WaterMen$Order" "single" "[I") tw_65) (fun _ h9 => h9) rfl d_Or_price_112 ?_
                refine hb_tv (.ref q_33) rfl ?_
                refine lv_iconst (v := 4) hx hb d_Or_price_115 (by decide +kernel) ?_
                refine tw_aldI (ct := ct) hx hb hK hP hO_0 m_33 rfl (by unfold vp_in; decide +kernel) d_Or_price_116 (fun x_41 e_41 b_41 => ?_)
                refine vp_callSi (va_Run.run (va_runS (As := [.int v6_36, .int x_41]) (rest := []) ⟨hx, hb, hml, hown, htb⟩ (c_Or_scaled_t l dC dI ct L f hO_0 v6_36 x_41) (cwS 2 htb (gd_S tw_81 tw_82 tw_68 tw_80) rfl rfl rfl (by decide +kernel) ⟨Nat.le_of_ble_eq_true rfl, Nat.le_of_ble_eq_true rfl⟩) ⟨pr_blind, pr_pre hP hK hN⟩ rfl rfl hl.1 rfl (lv_room (Nat.le_of_ble_eq_true rfl)) d_Or_price_117 ⟨Nat.le_of_ble_eq_true rfl, Nat.le_of_ble_eq_true rfl⟩)) (fun r_42 er_42 => ?_)
                clear er_42
                refine lv_istore (lv' := [(6, .int r_42), (0, .ref q0), (3, .int p_2), (4, .int p_3), (5, .int p_4), (7, .int v7_36)]) hx hb d_Or_price_120 hl (by decide) rfl (fun ls hl => ?_)
                refine lv_iload hx hb d_Or_price_122 (lv_at hl 4 rfl) ?_
                refine lv_iconst (v := 2) hx hb d_Or_price_124 (by decide +kernel) ?_
                refine lv_icmp_ne (tgt := 142) hx hb d_Or_price_125 (by decide) (fun c_43 => ?_) (fun c_43 => ?_)
                · refine lv_iload hx hb d_Or_price_142 (lv_at hl 0 rfl) ?_
                  refine lv_aload_n hx hb d_Or_price_144 rfl (lv_at hl 1 rfl) ?_
                  refine tw_getR (D := (dC, dI)) (C := R_Or) (T := F_Or) (N := 9) (ci := 3) (kd := 15) (ct := ct) hx hb htb i_Or hown hK hP m0 rfl rfl 4 e_33 (by decide) (htb (.fieldLink R_Or 20 "WaterMen$Order" "single" "[I") tw_65) (fun _ h9 => h9) rfl d_Or_price_145 ?_
                  refine hb_tv (.ref q_33) rfl ?_
                  refine lv_iconst (v := 5) hx hb d_Or_price_148 (by decide +kernel) ?_
                  refine tw_aldI (ct := ct) hx hb hK hP hO_0 m_33 rfl (by unfold vp_in; decide +kernel) d_Or_price_149 (fun x_44 e_44 b_44 => ?_)
                  refine va_mmax hx hb (hml.trans hl.1.symm) hown (htb (.methodLink R_Or 56 Lib.Math.max.name) tw_83) (htb (.static Lib.Math.max.name) tw_39) (htb (.initialized "java/lang/Math") tw_32) (htb (.code Lib.Math.max.name Lib.Math.max.code 2 (some .int)) tw_40) (Nat.le_of_ble_eq_true rfl) (Nat.le_of_ble_eq_true rfl) (Nat.le_of_ble_eq_true rfl) (Nat.le_of_ble_eq_true rfl) d_Or_price_150 ?_
                  refine hb_anyi (fun y_45 => ?_)
                  exact W.iret (v := y_45) hx hb hr (fun t ht hW => ⟨y_45, rfl, trivial, ht⟩) t_nil d_Or_price_153
                · refine lv_iload hx hb d_Or_price_128 (lv_at hl 0 rfl) ?_
                  refine lv_aload_n hx hb d_Or_price_130 rfl (lv_at hl 1 rfl) ?_
                  refine tw_getR (D := (dC, dI)) (C := R_Or) (T := F_Or) (N := 9) (ci := 3) (kd := 15) (ct := ct) hx hb htb i_Or hown hK hP m0 rfl rfl 4 e_33 (by decide) (htb (.fieldLink R_Or 20 "WaterMen$Order" "single" "[I") tw_65) (fun _ h9 => h9) rfl d_Or_price_131 ?_
                  refine hb_tv (.ref q_33) rfl ?_
                  refine lv_bipush (v := 8) hx hb d_Or_price_134 (by decide +kernel) ?_
                  refine tw_aldI (ct := ct) hx hb hK hP hO_0 m_33 rfl (by unfold vp_in; decide +kernel) d_Or_price_136 (fun x_46 e_46 b_46 => ?_)
                  refine vp_callSi (va_Run.run (va_runS (As := [.int r_42, .int x_46]) (rest := []) ⟨hx, hb, hml, hown, htb⟩ (c_Or_scaled_t l dC dI ct L f hO_0 r_42 x_46) (cwS 2 htb (gd_S tw_81 tw_82 tw_68 tw_80) rfl rfl rfl (by decide +kernel) ⟨Nat.le_of_ble_eq_true rfl, Nat.le_of_ble_eq_true rfl⟩) ⟨pr_blind, pr_pre hP hK hN⟩ rfl rfl hl.1 rfl (lv_room (Nat.le_of_ble_eq_true rfl)) d_Or_price_137 ⟨Nat.le_of_ble_eq_true rfl, Nat.le_of_ble_eq_true rfl⟩)) (fun r_47 er_47 => ?_)
                  clear er_47
                  refine lv_istore (lv' := [(6, .int r_47), (0, .ref q0), (3, .int p_2), (4, .int p_3), (5, .int p_4), (7, .int v7_36)]) hx hb d_Or_price_140 hl (by decide) rfl (fun ls hl => ?_)
                  refine lv_iload hx hb d_Or_price_142 (lv_at hl 0 rfl) ?_
                  refine lv_aload_n hx hb d_Or_price_144 rfl (lv_at hl 1 rfl) ?_
                  refine tw_getR (D := (dC, dI)) (C := R_Or) (T := F_Or) (N := 9) (ci := 3) (kd := 15) (ct := ct) hx hb htb i_Or hown hK hP m0 rfl rfl 4 e_33 (by decide) (htb (.fieldLink R_Or 20 "WaterMen$Order" "single" "[I") tw_65) (fun _ h9 => h9) rfl d_Or_price_145 ?_
                  refine hb_tv (.ref q_33) rfl ?_
                  refine lv_iconst (v := 5) hx hb d_Or_price_148 (by decide +kernel) ?_
                  refine tw_aldI (ct := ct) hx hb hK hP hO_0 m_33 rfl (by unfold vp_in; decide +kernel) d_Or_price_149 (fun x_48 e_48 b_48 => ?_)
                  refine va_mmax hx hb (hml.trans hl.1.symm) hown (htb (.methodLink R_Or 56 Lib.Math.max.name) tw_83) (htb (.static Lib.Math.max.name) tw_39) (htb (.initialized "java/lang/Math") tw_32) (htb (.code Lib.Math.max.name Lib.Math.max.code 2 (some .int)) tw_40) (Nat.le_of_ble_eq_true rfl) (Nat.le_of_ble_eq_true rfl) (Nat.le_of_ble_eq_true rfl) (Nat.le_of_ble_eq_true rfl) d_Or_price_150 ?_
                  refine hb_anyi (fun y_49 => ?_)
                  exact W.iret (v := y_49) hx hb hr (fun t ht hW => ⟨y_49, rfl, trivial, ht⟩) t_nil d_Or_price_153
              · refine hb_ti 0 (by unfold f_WM_isSunday; rw [if_neg c_40]; first | done | rfl) ?_
                refine lv_if_eq (tgt := 122) hx hb d_Or_price_106 (by decide) (fun _ => ?_) (fun h => absurd (by decide +kernel) h)
                refine lv_iload hx hb d_Or_price_122 (lv_at hl 3 rfl) ?_
                refine lv_iconst (v := 2) hx hb d_Or_price_124 (by decide +kernel) ?_
                refine lv_icmp_ne (tgt := 142) hx hb d_Or_price_125 (by decide) (fun c_50 => ?_) (fun c_50 => ?_)
                · refine lv_iload hx hb d_Or_price_142 (lv_at hl 4 rfl) ?_
                  refine lv_aload_n hx hb d_Or_price_144 rfl (lv_at hl 0 rfl) ?_
                  refine tw_getR (D := (dC, dI)) (C := R_Or) (T := F_Or) (N := 9) (ci := 3) (kd := 15) (ct := ct) hx hb htb i_Or hown hK hP m0 rfl rfl 4 e_33 (by decide) (htb (.fieldLink R_Or 20 "WaterMen$Order" "single" "[I") tw_65) (fun _ h9 => h9) rfl d_Or_price_145 ?_
                  refine hb_tv (.ref q_33) rfl ?_
                  refine lv_iconst (v := 5) hx hb d_Or_price_148 (by decide +kernel) ?_
                  refine tw_aldI (ct := ct) hx hb hK hP hO_0 m_33 rfl (by unfold vp_in; decide +kernel) d_Or_price_149 (fun x_51 e_51 b_51 => ?_)
                  refine va_mmax hx hb (hml.trans hl.1.symm) hown (htb (.methodLink R_Or 56 Lib.Math.max.name) tw_83) (htb (.static Lib.Math.max.name) tw_39) (htb (.initialized "java/lang/Math") tw_32) (htb (.code Lib.Math.max.name Lib.Math.max.code 2 (some .int)) tw_40) (Nat.le_of_ble_eq_true rfl) (Nat.le_of_ble_eq_true rfl) (Nat.le_of_ble_eq_true rfl) (Nat.le_of_ble_eq_true rfl) d_Or_price_150 ?_
                  refine hb_anyi (fun y_52 => ?_)
                  exact W.iret (v := y_52) hx hb hr (fun t ht hW => ⟨y_52, rfl, trivial, ht⟩) t_nil d_Or_price_153
                · refine lv_iload hx hb d_Or_price_128 (lv_at hl 4 rfl) ?_
                  refine lv_aload_n hx hb d_Or_price_130 rfl (lv_at hl 0 rfl) ?_
                  refine tw_getR (D := (dC, dI)) (C := R_Or) (T := F_Or) (N := 9) (ci := 3) (kd := 15) (ct := ct) hx hb htb i_Or hown hK hP m0 rfl rfl 4 e_33 (by decide) (htb (.fieldLink R_Or 20 "WaterMen$Order" "single" "[I") tw_65) (fun _ h9 => h9) rfl d_Or_price_131 ?_
                  refine hb_tv (.ref q_33) rfl ?_
                  refine lv_bipush (v := 8) hx hb d_Or_price_134 (by decide +kernel) ?_
                  refine tw_aldI (ct := ct) hx hb hK hP hO_0 m_33 rfl (by unfold vp_in; decide +kernel) d_Or_price_136 (fun x_53 e_53 b_53 => ?_)
                  refine vp_callSi (va_Run.run (va_runS (As := [.int v6_36, .int x_53]) (rest := []) ⟨hx, hb, hml, hown, htb⟩ (c_Or_scaled_t l dC dI ct L f hO_0 v6_36 x_53) (cwS 2 htb (gd_S tw_81 tw_82 tw_68 tw_80) rfl rfl rfl (by decide +kernel) ⟨Nat.le_of_ble_eq_true rfl, Nat.le_of_ble_eq_true rfl⟩) ⟨pr_blind, pr_pre hP hK hN⟩ rfl rfl hl.1 rfl (lv_room (Nat.le_of_ble_eq_true rfl)) d_Or_price_137 ⟨Nat.le_of_ble_eq_true rfl, Nat.le_of_ble_eq_true rfl⟩)) (fun r_54 er_54 => ?_)
                  clear er_54
                  refine lv_istore (lv' := [(6, .int r_54), (0, .ref q0), (3, .int p_2), (4, .int p_3), (5, .int p_4), (7, .int v7_36)]) hx hb d_Or_price_140 hl (by decide) rfl (fun ls hl => ?_)
                  refine lv_iload hx hb d_Or_price_142 (lv_at hl 0 rfl) ?_
                  refine lv_aload_n hx hb d_Or_price_144 rfl (lv_at hl 1 rfl) ?_
                  refine tw_getR (D := (dC, dI)) (C := R_Or) (T := F_Or) (N := 9) (ci := 3) (kd := 15) (ct := ct) hx hb htb i_Or hown hK hP m0 rfl rfl 4 e_33 (by decide) (htb (.fieldLink R_Or 20 "WaterMen$Order" "single" "[I") tw_65) (fun _ h9 => h9) rfl d_Or_price_145 ?_
                  refine hb_tv (.ref q_33) rfl ?_
                  refine lv_iconst (v := 5) hx hb d_Or_price_148 (by decide +kernel) ?_
                  refine tw_aldI (ct := ct) hx hb hK hP hO_0 m_33 rfl (by unfold vp_in; decide +kernel) d_Or_price_149 (fun x_55 e_55 b_55 => ?_)
                  refine va_mmax hx hb (hml.trans hl.1.symm) hown (htb (.methodLink R_Or 56 Lib.Math.max.name) tw_83) (htb (.static Lib.Math.max.name) tw_39) (htb (.initialized "java/lang/Math") tw_32) (htb (.code Lib.Math.max.name Lib.Math.max.code 2 (some .int)) tw_40) (Nat.le_of_ble_eq_true rfl) (Nat.le_of_ble_eq_true rfl) (Nat.le_of_ble_eq_true rfl) (Nat.le_of_ble_eq_true rfl) d_Or_price_150 ?_
                  refine hb_anyi (fun y_56 => ?_)
                  exact W.iret (v := y_56) hx hb hr (fun t ht hW => ⟨y_56, rfl, trivial, ht⟩) t_nil d_Or_price_153
            · refine lv_aload_n hx hb d_Or_price_64 rfl (lv_at hl 0 rfl) ?_
              refine tw_getr (D := (dC, dI)) (C := R_Or) (T := F_Or) (N := 9) (ci := 3) (kd := 15) (ct := ct) hx hb htb i_Or hown hK hP hO_0 m0 rfl rfl 3 (by decide) (htb (.fieldLink R_Or 15 "WaterMen$Order" "hours" "[I") tw_84) (fun _ h9 => h9) rfl d_Or_price_65 (fun q_57 e_57 m_57 => ?_)
              refine lv_iload hx hb d_Or_price_68 (lv_at hl 5 rfl) ?_
              refine lv_iload hx hb d_Or_price_70 (lv_at hl 2 rfl) ?_
              refine vp_callSi (va_Run.run (va_runS (As := [.ref q_57, .int v7_36, .int p_3]) (rest := []) ⟨hx, hb, hml, hown, htb⟩ (c_Or_lineHolds_k17_t l dC dI ct L f hO_0 q_57 m_57 v7_36 p_3 iv0_36 (show ¬ (11 < v7_36) from ((fun (a_0 : Int32) (a_1 : Int32) (k_0 : ¬ (a_1 ≤ a_0)) (k_1 : ¬ (12 < a_1)) => (show ¬ (11 < a_0) from by have z0 : (11 : Int32).toInt = 11 := (by decide +kernel); have z1 : (12 : Int32).toInt = 12 := (by decide +kernel); have r0 := fb_rng (a_0); have r1 := fb_rng (a_1); have e0 := k_0; rw [Int32.le_iff_toInt_le] at e0; have e1 := k_1; rw [Int32.lt_iff_toInt_lt, z1] at e1; rw [Int32.lt_iff_toInt_lt, z0]; omega)) v7_36 x_37 c_38 b_37.2))) (cwS 3 htb (gd_S tw_69 tw_70 tw_68 tw_67) rfl rfl rfl (by decide +kernel) ⟨Nat.le_of_ble_eq_true rfl, Nat.le_of_ble_eq_true rfl⟩) ⟨pr_blind, pr_pre hP hK hN⟩ rfl rfl hl.1 rfl (lv_room (Nat.le_of_ble_eq_true rfl)) d_Or_price_72 ⟨Nat.le_of_ble_eq_true rfl, Nat.le_of_ble_eq_true rfl⟩)) (fun r_58 er_58 => ?_)
              rcases er_58 with ⟨rfl, -⟩ | ⟨rfl, -⟩
              · refine lv_if_eq (tgt := 96) hx hb d_Or_price_75 (by decide) (fun _ => ?_) (fun h => absurd (by decide +kernel) h)
                refine lv_iinc (v := (v7_36 + 1)) (lv' := [(7, .int (v7_36 + 1)), (0, .ref q0), (3, .int p_2), (4, .int p_3), (5, .int p_4), (6, .int v6_36)]) hx hb d_Or_price_96 hl (k := 5) rfl rfl (by decide) rfl (fun ls hl => ?_)
                refine lv_goto (tgt := 55) hx hb d_Or_price_99 (by decide) ?_
                exact ih_36 (n_36 - 1) (ms_1 ((fun (a_0 : Int32) (a_1 : Int32) (k_0 : ¬ (a_1 ≤ a_0)) (k_1 : ¬ (12 < a_1)) => (show 1 ≤ (12 : Int32).toInt - (a_0).toInt ∧ (12 : Int32).toInt - ((a_0) + (1 : Int32)).toInt + 1 ≤ (12 : Int32).toInt - (a_0).toInt from by have z0 : (1 : Int32).toInt = 1 := (by decide +kernel); have z1 : (12 : Int32).toInt = 12 := (by decide +kernel); have r0 := fb_rng (a_0); have r1 := fb_rng (a_1); have e0 := k_0; rw [Int32.le_iff_toInt_le] at e0; have e1 := k_1; rw [Int32.lt_iff_toInt_lt, z1] at e1; obtain ⟨n_0, hn_0, s0⟩ := nd_add (x := (a_0)) (y := (1 : Int32)) (by (try rw [z0]); omega) (by (try rw [z0]); omega); rw [z0] at s0; rw [hn_0]; (try rw [z1]); omega)) v7_36 x_37 c_38 b_37.2) hm_36) v6_36 (v7_36 + 1) _ (show ¬ ((v7_36 + 1) < 0) from by have e0 := iv0_36; rw [Int32.lt_iff_toInt_lt] at e0; have e1 := iv1_36; rw [Int32.lt_iff_toInt_lt] at e1; have z0 : (0 : Int32).toInt = 0 := (by decide +kernel); have z1 : (1 : Int32).toInt = 1 := (by decide +kernel); have z2 : (12 : Int32).toInt = 12 := (by decide +kernel); have ss := fb_addI (x := v7_36) (y := 1) (by omega) (by omega); rw [Int32.lt_iff_toInt_lt]; omega) (show ¬ (12 < (v7_36 + 1)) from ((fun (a_0 : Int32) (a_1 : Int32) (k_0 : ¬ (a_1 ≤ a_0)) (k_1 : ¬ (12 < a_1)) => (show ¬ (12 < (a_0 + 1)) from by have z0 : (1 : Int32).toInt = 1 := (by decide +kernel); have z1 : (12 : Int32).toInt = 12 := (by decide +kernel); have r0 := fb_rng (a_0); have r1 := fb_rng (a_1); have e0 := k_0; rw [Int32.le_iff_toInt_le] at e0; have e1 := k_1; rw [Int32.lt_iff_toInt_lt, z1] at e1; obtain ⟨n_0, hn_0, s0⟩ := nd_add (x := (a_0)) (y := (1 : Int32)) (by (try rw [z0]); omega) (by (try rw [z0]); omega); rw [z0] at s0; rw [hn_0, Int32.lt_iff_toInt_lt, z1]; omega)) v7_36 x_37 c_38 b_37.2)) (by exact ms_2 ((fun (a_0 : Int32) (a_1 : Int32) (k_0 : ¬ (a_1 ≤ a_0)) (k_1 : ¬ (12 < a_1)) => (show 1 ≤ (12 : Int32).toInt - (a_0).toInt ∧ (12 : Int32).toInt - ((a_0) + (1 : Int32)).toInt + 1 ≤ (12 : Int32).toInt - (a_0).toInt from by have z0 : (1 : Int32).toInt = 1 := (by decide +kernel); have z1 : (12 : Int32).toInt = 12 := (by decide +kernel); have r0 := fb_rng (a_0); have r1 := fb_rng (a_1); have e0 := k_0; rw [Int32.le_iff_toInt_le] at e0; have e1 := k_1; rw [Int32.lt_iff_toInt_lt, z1] at e1; obtain ⟨n_0, hn_0, s0⟩ := nd_add (x := (a_0)) (y := (1 : Int32)) (by (try rw [z0]); omega) (by (try rw [z0]); omega); rw [z0] at s0; rw [hn_0]; (try rw [z1]); omega)) v7_36 x_37 c_38 b_37.2) hm_36) (lv_sub hl [1, 2, 3, 4, 5, 0] rfl)
              · refine lv_if_eq (tgt := 96) hx hb d_Or_price_75 (by decide) (fun h => absurd h (by decide +kernel)) (fun _ => ?_)
                refine lv_iload hx hb d_Or_price_78 (lv_at hl 4 rfl) ?_
                refine lv_aload_n hx hb d_Or_price_80 rfl (lv_at hl 0 rfl) ?_
                refine tw_getR (D := (dC, dI)) (C := R_Or) (T := F_Or) (N := 9) (ci := 3) (kd := 15) (ct := ct) hx hb htb i_Or hown hK hP m0 rfl rfl 3 e_57 (by decide) (htb (.fieldLink R_Or 15 "WaterMen$Order" "hours" "[I") tw_84) (fun _ h9 => h9) rfl d_Or_price_81 ?_
                refine hb_tv (.ref q_57) rfl ?_
                refine lv_iload hx hb d_Or_price_84 (lv_at hl 5 rfl) ?_
                refine lv_iconst (v := 3) hx hb d_Or_price_86 (by decide +kernel) ?_
                refine lv_imul hx hb d_Or_price_87 ?_
                refine lv_iconst (v := 2) hx hb d_Or_price_88 (by decide +kernel) ?_
                refine lv_iadd hx hb d_Or_price_89 ?_
                refine tw_aldI (ct := ct) hx hb hK hP hO_0 m_57 rfl ((fun (a_0 : Int32) (a_1 : Int32) (k_0 : ¬ (a_0 < 0)) (k_1 : ¬ (a_1 ≤ a_0)) (k_2 : ¬ (12 < a_1)) => (show vp_in (((a_0 * 3) + 2)) 36 from by have z0 : (0 : Int32).toInt = 0 := (by decide +kernel); have z1 : (2 : Int32).toInt = 2 := (by decide +kernel); have z2 : (3 : Int32).toInt = 3 := (by decide +kernel); have z3 : (12 : Int32).toInt = 12 := (by decide +kernel); have r0 := fb_rng (a_0); have r1 := fb_rng (a_1); have e0 := k_0; rw [Int32.lt_iff_toInt_lt, z0] at e0; have e1 := k_1; rw [Int32.le_iff_toInt_le] at e1; have e2 := k_2; rw [Int32.lt_iff_toInt_lt, z3] at e2; obtain ⟨n_0, hn_0, s0⟩ := nd_mul (x := (a_0)) (y := (3 : Int32)) (by (try rw [z2]); omega) (by (try rw [z2]); omega); rw [z2] at s0; obtain ⟨n_1, hn_1, s1⟩ := nd_add (x := n_0) (y := (2 : Int32)) (by (try rw [z1]); omega) (by (try rw [z1]); omega); rw [z1] at s1; rw [hn_0, hn_1, vp_in_iff]; omega)) v7_36 x_37 iv0_36 c_38 b_37.2) d_Or_price_90 (fun x_59 e_59 b_59 => ?_)
                refine vp_callSi (va_Run.run (va_runS (As := [.int v6_36, .int x_59]) (rest := []) ⟨hx, hb, hml, hown, htb⟩ (c_Or_scaled_t l dC dI ct L f hO_0 v6_36 x_59) (cwS 2 htb (gd_S tw_81 tw_82 tw_68 tw_80) rfl rfl rfl (by decide +kernel) ⟨Nat.le_of_ble_eq_true rfl, Nat.le_of_ble_eq_true rfl⟩) ⟨pr_blind, pr_pre hP hK hN⟩ rfl rfl hl.1 rfl (lv_room (Nat.le_of_ble_eq_true rfl)) d_Or_price_91 ⟨Nat.le_of_ble_eq_true rfl, Nat.le_of_ble_eq_true rfl⟩)) (fun r_60 er_60 => ?_)
                clear er_60
                refine lv_istore (lv' := [(6, .int r_60), (0, .ref q0), (3, .int p_2), (4, .int p_3), (5, .int p_4), (7, .int v7_36)]) hx hb d_Or_price_94 hl (by decide) rfl (fun ls hl => ?_)
                refine lv_iinc (v := (v7_36 + 1)) (lv' := [(7, .int (v7_36 + 1)), (6, .int r_60), (0, .ref q0), (3, .int p_2), (4, .int p_3), (5, .int p_4)]) hx hb d_Or_price_96 hl (k := 5) rfl rfl (by decide) rfl (fun ls hl => ?_)
                refine lv_goto (tgt := 55) hx hb d_Or_price_99 (by decide) ?_
                exact ih_36 (n_36 - 1) (ms_1 ((fun (a_0 : Int32) (a_1 : Int32) (k_0 : ¬ (a_1 ≤ a_0)) (k_1 : ¬ (12 < a_1)) => (show 1 ≤ (12 : Int32).toInt - (a_0).toInt ∧ (12 : Int32).toInt - ((a_0) + (1 : Int32)).toInt + 1 ≤ (12 : Int32).toInt - (a_0).toInt from by have z0 : (1 : Int32).toInt = 1 := (by decide +kernel); have z1 : (12 : Int32).toInt = 12 := (by decide +kernel); have r0 := fb_rng (a_0); have r1 := fb_rng (a_1); have e0 := k_0; rw [Int32.le_iff_toInt_le] at e0; have e1 := k_1; rw [Int32.lt_iff_toInt_lt, z1] at e1; obtain ⟨n_0, hn_0, s0⟩ := nd_add (x := (a_0)) (y := (1 : Int32)) (by (try rw [z0]); omega) (by (try rw [z0]); omega); rw [z0] at s0; rw [hn_0]; (try rw [z1]); omega)) v7_36 x_37 c_38 b_37.2) hm_36) r_60 (v7_36 + 1) _ (show ¬ ((v7_36 + 1) < 0) from by have e0 := iv0_36; rw [Int32.lt_iff_toInt_lt] at e0; have e1 := iv1_36; rw [Int32.lt_iff_toInt_lt] at e1; have z0 : (0 : Int32).toInt = 0 := (by decide +kernel); have z1 : (1 : Int32).toInt = 1 := (by decide +kernel); have z2 : (12 : Int32).toInt = 12 := (by decide +kernel); have ss := fb_addI (x := v7_36) (y := 1) (by omega) (by omega); rw [Int32.lt_iff_toInt_lt]; omega) (show ¬ (12 < (v7_36 + 1)) from ((fun (a_0 : Int32) (a_1 : Int32) (k_0 : ¬ (a_1 ≤ a_0)) (k_1 : ¬ (12 < a_1)) => (show ¬ (12 < (a_0 + 1)) from by have z0 : (1 : Int32).toInt = 1 := (by decide +kernel); have z1 : (12 : Int32).toInt = 12 := (by decide +kernel); have r0 := fb_rng (a_0); have r1 := fb_rng (a_1); have e0 := k_0; rw [Int32.le_iff_toInt_le] at e0; have e1 := k_1; rw [Int32.lt_iff_toInt_lt, z1] at e1; obtain ⟨n_0, hn_0, s0⟩ := nd_add (x := (a_0)) (y := (1 : Int32)) (by (try rw [z0]); omega) (by (try rw [z0]); omega); rw [z0] at s0; rw [hn_0, Int32.lt_iff_toInt_lt, z1]; omega)) v7_36 x_37 c_38 b_37.2)) (by exact ms_2 ((fun (a_0 : Int32) (a_1 : Int32) (k_0 : ¬ (a_1 ≤ a_0)) (k_1 : ¬ (12 < a_1)) => (show 1 ≤ (12 : Int32).toInt - (a_0).toInt ∧ (12 : Int32).toInt - ((a_0) + (1 : Int32)).toInt + 1 ≤ (12 : Int32).toInt - (a_0).toInt from by have z0 : (1 : Int32).toInt = 1 := (by decide +kernel); have z1 : (12 : Int32).toInt = 12 := (by decide +kernel); have r0 := fb_rng (a_0); have r1 := fb_rng (a_1); have e0 := k_0; rw [Int32.le_iff_toInt_le] at e0; have e1 := k_1; rw [Int32.lt_iff_toInt_lt, z1] at e1; obtain ⟨n_0, hn_0, s0⟩ := nd_add (x := (a_0)) (y := (1 : Int32)) (by (try rw [z0]); omega) (by (try rw [z0]); omega); rw [z0] at s0; rw [hn_0]; (try rw [z1]); omega)) v7_36 x_37 c_38 b_37.2) hm_36) (lv_sub hl [2, 3, 4, 5, 1, 0] rfl)
        exact cut_36 4294967296 r_35 (0 : Int32) _ (by decide +kernel) (by decide +kernel) (by exact ms_0 _ _) (lv_sub hl [2, 5, 6, 7, 1, 0] rfl)
    · refine lv_iload hx hb d_Or_price_19 (lv_at hl 0 rfl) ?_
      refine lv_aload_n hx hb d_Or_price_21 rfl (lv_at hl 1 rfl) ?_
      refine tw_getr (D := (dC, dI)) (C := R_Or) (T := F_Or) (N := 9) (ci := 3) (kd := 15) (ct := ct) hx hb htb i_Or hown hK hP hO_0 m0 rfl rfl 4 (by decide) (htb (.fieldLink R_Or 20 "WaterMen$Order" "single" "[I") tw_65) (fun _ h9 => h9) rfl d_Or_price_22 (fun q_61 e_61 m_61 => ?_)
      refine lv_iconst (v := 2) hx hb d_Or_price_25 (by decide +kernel) ?_
      refine tw_aldI (ct := ct) hx hb hK hP hO_0 m_61 rfl (by unfold vp_in; decide +kernel) d_Or_price_26 (fun x_62 e_62 b_62 => ?_)
      refine vp_callSi (va_Run.run (va_runS (As := [.int r_1, .int x_62]) (rest := []) ⟨hx, hb, hml, hown, htb⟩ (c_Or_scaled_t l dC dI ct L f hO_0 r_1 x_62) (cwS 2 htb (gd_S tw_81 tw_82 tw_68 tw_80) rfl rfl rfl (by decide +kernel) ⟨Nat.le_of_ble_eq_true rfl, Nat.le_of_ble_eq_true rfl⟩) ⟨pr_blind, pr_pre hP hK hN⟩ rfl rfl hl.1 rfl (lv_room (Nat.le_of_ble_eq_true rfl)) d_Or_price_27 ⟨Nat.le_of_ble_eq_true rfl, Nat.le_of_ble_eq_true rfl⟩)) (fun r_63 er_63 => ?_)
      clear er_63
      refine lv_istore (lv' := [(6, .int r_63), (0, .ref q0), (1, .int p_0), (2, .int p_1), (3, .int p_2), (4, .int p_3), (5, .int p_4)]) hx hb d_Or_price_30 hl (by decide) rfl (fun ls hl => ?_)
      refine lv_goto (tgt := 52) hx hb d_Or_price_32 (by decide) ?_
      refine lv_iconst (v := 0) hx hb d_Or_price_52 (by decide +kernel) ?_
      refine lv_istore (lv' := [(7, .int 0), (6, .int r_63), (0, .ref q0), (1, .int p_0), (2, .int p_1), (3, .int p_2), (4, .int p_3), (5, .int p_4)]) hx hb d_Or_price_53 hl (by decide) rfl (fun ls hl => ?_)
      have cut_64 : ∀ (n_64 : Nat) (v6_64 v7_64 : Int32) (ls : Array Slot), ¬ (v7_64 < 0) → ¬ (12 < v7_64) → (12 : Int32).toInt - (v7_64 : Int32).toInt ≤ (n_64 : Int) → lv_has ls 8 [(0, .ref q0), (3, .int p_2), (4, .int p_3), (5, .int p_4), (6, .int v6_64), (7, .int v7_64)] → W p l e (headSpec (.code y_Or_price b_Or_price 8 (some .int) :: TB) ({ frames := 2, cells := 0, slots := 0, locals := 44 })).room s m [.ref q0, .int p_0, .int p_1, .int p_2, .int p_3, .int p_4].toArray below meth c s.heap [] 0 0 (MQ below (vp_Si (fun r => True)) [.ref q0, .int p_0, .int p_1, .int p_2, .int p_3, .int p_4].toArray s 0 0 (fun _ => False)) (F0 m 55 ls []) := by
        intro n_64
        induction n_64 using Nat.strongRecOn with
        | _ n_64 ih_64 =>
          intro v6_64 v7_64 ls iv0_64 iv1_64 hm_64 hl
          refine lv_iload hx hb d_Or_price_55 (lv_at hl 5 rfl) ?_
          refine lv_aload_n hx hb d_Or_price_57 rfl (lv_at hl 0 rfl) ?_
          refine tw_geti (D := (dC, dI)) (C := R_Or) (T := F_Or) (N := 9) (ci := 3) (kd := 15) (ct := ct) hx hb htb i_Or hown hK hP hO_0 m0 rfl rfl 6 (by decide) (htb (.fieldLink R_Or 27 "WaterMen$Order" "hourCount" "I") tw_64) (fun _ h9 => h9) rfl d_Or_price_58 (fun x_65 e_65 b_65 => ?_)
          refine lv_icmp_ge (tgt := 102) hx hb d_Or_price_61 (by decide) (fun c_66 => ?_) (fun c_66 => ?_)
          · refine lv_iload_n hx hb d_Or_price_102 rfl (lv_at hl 1 rfl) ?_
            refine vp_callSi (va_Run.run (va_runSN (As := [.int p_2]) (rest := []) ⟨hx, hb, hml, hown, htb⟩ (c_WM_isSunday l p_2) ⟨va_cnB 1 htb (gd_I tw_75) rfl rfl rfl (hN.1 _ nw_6) (htb (.initialized R_WM) tw_25) (by decide +kernel) ⟨Nat.le_of_ble_eq_true rfl, Nat.le_of_ble_eq_true rfl⟩, (htb (.static y_WM_isSunday) tw_76), trivial⟩ ⟨fun _ _ _ _ h => h, fun U _ _ => ⟨rfl, trivial⟩⟩ rfl rfl hl.1 rfl (lv_room (Nat.le_of_ble_eq_true rfl)) d_Or_price_103 ⟨Nat.le_of_ble_eq_true rfl, Nat.le_of_ble_eq_true rfl⟩)) (fun r er => ?_)
            subst er
            by_cases c_68 : (p_2 - p_2 / 7 * 7) = 0
            · refine hb_ti 1 (by unfold f_WM_isSunday; rw [if_pos c_68]; first | done | rfl) ?_
              refine lv_if_eq (tgt := 122) hx hb d_Or_price_106 (by decide) (fun h => absurd h (by decide +kernel)) (fun _ => ?_)
              refine lv_iload hx hb d_Or_price_109 (lv_at hl 4 rfl) ?_
              refine lv_aload_n hx hb d_Or_price_111 rfl (lv_at hl 0 rfl) ?_
              refine tw_getR (D := (dC, dI)) (C := R_Or) (T := F_Or) (N := 9) (ci := 3) (kd := 15) (ct := ct) hx hb htb i_Or hown hK hP m0 rfl rfl 4 e_61 (by decide) (htb (.fieldLink R_Or 20 "WaterMen$Order" "single" "[I") tw_65) (fun _ h9 => h9) rfl d_Or_price_112 ?_
              refine hb_tv (.ref q_61) rfl ?_
              refine lv_iconst (v := 4) hx hb d_Or_price_115 (by decide +kernel) ?_
              refine tw_aldI (ct := ct) hx hb hK hP hO_0 m_61 rfl (by unfold vp_in; decide +kernel) d_Or_price_116 (fun x_69 e_69 b_69 => ?_)
              refine vp_callSi (va_Run.run (va_runS (As := [.int v6_64, .int x_69]) (rest := []) ⟨hx, hb, hml, hown, htb⟩ (c_Or_scaled_t l dC dI ct L f hO_0 v6_64 x_69) (cwS 2 htb (gd_S tw_81 tw_82 tw_68 tw_80) rfl rfl rfl (by decide +kernel) ⟨Nat.le_of_ble_eq_true rfl, Nat.le_of_ble_eq_true rfl⟩) ⟨pr_blind, pr_pre hP hK hN⟩ rfl rfl hl.1 rfl (lv_room (Nat.le_of_ble_eq_true rfl)) d_Or_price_117 ⟨Nat.le_of_ble_eq_true rfl, Nat.le_of_ble_eq_true rfl⟩)) (fun r_70 er_70 => ?_)
              clear er_70
              refine lv_istore (lv' := [(6, .int r_70), (0, .ref q0), (3, .int p_2), (4, .int p_3), (5, .int p_4), (7, .int v7_64)]) hx hb d_Or_price_120 hl (by decide) rfl (fun ls hl => ?_)
              refine lv_iload hx hb d_Or_price_122 (lv_at hl 4 rfl) ?_
              refine lv_iconst (v := 2) hx hb d_Or_price_124 (by decide +kernel) ?_
              refine lv_icmp_ne (tgt := 142) hx hb d_Or_price_125 (by decide) (fun c_71 => ?_) (fun c_71 => ?_)
              · refine lv_iload hx hb d_Or_price_142 (lv_at hl 0 rfl) ?_
                refine lv_aload_n hx hb d_Or_price_144 rfl (lv_at hl 1 rfl) ?_
                refine tw_getR (D := (dC, dI)) (C := R_Or) (T := F_Or) (N := 9) (ci := 3) (kd := 15) (ct := ct) hx hb htb i_Or hown hK hP m0 rfl rfl 4 e_61 (by decide) (htb (.fieldLink R_Or 20 "WaterMen$Order" "single" "[I") tw_65) (fun _ h9 => h9) rfl d_Or_price_145 ?_
                refine hb_tv (.ref q_61) rfl ?_
                refine lv_iconst (v := 5) hx hb d_Or_price_148 (by decide +kernel) ?_
                refine tw_aldI (ct := ct) hx hb hK hP hO_0 m_61 rfl (by unfold vp_in; decide +kernel) d_Or_price_149 (fun x_72 e_72 b_72 => ?_)
                refine va_mmax hx hb (hml.trans hl.1.symm) hown (htb (.methodLink R_Or 56 Lib.Math.max.name) tw_83) (htb (.static Lib.Math.max.name) tw_39) (htb (.initialized "java/lang/Math") tw_32) (htb (.code Lib.Math.max.name Lib.Math.max.code 2 (some .int)) tw_40) (Nat.le_of_ble_eq_true rfl) (Nat.le_of_ble_eq_true rfl) (Nat.le_of_ble_eq_true rfl) (Nat.le_of_ble_eq_true rfl) d_Or_price_150 ?_
                refine hb_anyi (fun y_73 => ?_)
                exact W.iret (v := y_73) hx hb hr (fun t ht hW => ⟨y_73, rfl, trivial, ht⟩) t_nil d_Or_price_153
              · refine lv_iload hx hb d_Or_price_128 (lv_at hl 0 rfl) ?_
                refine lv_aload_n hx hb d_Or_price_130 rfl (lv_at hl 1 rfl) ?_
                refine tw_getR (D := (dC, dI)) (C := R_Or) (T := F_Or) (N := 9) (ci := 3) (kd := 15) (ct := ct) hx hb htb i_Or hown hK hP m0 rfl rfl 4 e_61 (by decide) (htb (.fieldLink R_Or 20 "WaterMen$Order" "single" "[I") tw_65) (fun _ h9 => h9) rfl d_Or_price_131 ?_
                refine hb_tv (.ref q_61) rfl ?_
                refine lv_bipush (v := 8) hx hb d_Or_price_134 (by decide +kernel) ?_
                refine tw_aldI (ct := ct) hx hb hK hP hO_0 m_61 rfl (by unfold vp_in; decide +kernel) d_Or_price_136 (fun x_74 e_74 b_74 => ?_)
                refine vp_callSi (va_Run.run (va_runS (As := [.int r_70, .int x_74]) (rest := []) ⟨hx, hb, hml, hown, htb⟩ (c_Or_scaled_t l dC dI ct L f hO_0 r_70 x_74) (cwS 2 htb (gd_S tw_81 tw_82 tw_68 tw_80) rfl rfl rfl (by decide +kernel) ⟨Nat.le_of_ble_eq_true rfl, Nat.le_of_ble_eq_true rfl⟩) ⟨pr_blind, pr_pre hP hK hN⟩ rfl rfl hl.1 rfl (lv_room (Nat.le_of_ble_eq_true rfl)) d_Or_price_137 ⟨Nat.le_of_ble_eq_true rfl, Nat.le_of_ble_eq_true rfl⟩)) (fun r_75 er_75 => ?_)
                clear er_75
                refine lv_istore (lv' := [(6, .int r_75), (0, .ref q0), (3, .int p_2), (4, .int p_3), (5, .int p_4), (7, .int v7_64)]) hx hb d_Or_price_140 hl (by decide) rfl (fun ls hl => ?_)
                refine lv_iload hx hb d_Or_price_142 (lv_at hl 0 rfl) ?_
                refine lv_aload_n hx hb d_Or_price_144 rfl (lv_at hl 1 rfl) ?_
                refine tw_getR (D := (dC, dI)) (C := R_Or) (T := F_Or) (N := 9) (ci := 3) (kd := 15) (ct := ct) hx hb htb i_Or hown hK hP m0 rfl rfl 4 e_61 (by decide) (htb (.fieldLink R_Or 20 "WaterMen$Order" "single" "[I") tw_65) (fun _ h9 => h9) rfl d_Or_price_145 ?_
                refine hb_tv (.ref q_61) rfl ?_
                refine lv_iconst (v := 5) hx hb d_Or_price_148 (by decide +kernel) ?_
                refine tw_aldI (ct := ct) hx hb hK hP hO_0 m_61 rfl (by unfold vp_in; decide +kernel) d_Or_price_149 (fun x_76 e_76 b_76 => ?_)
                refine va_mmax hx hb (hml.trans hl.1.symm) hown (htb (.methodLink R_Or 56 Lib.Math.max.name) tw_83) (htb (.static Lib.Math.max.name) tw_39) (htb (.initialized "java/lang/Math") tw_32) (htb (.code Lib.Math.max.name Lib.Math.max.code 2 (some .int)) tw_40) (Nat.le_of_ble_eq_true rfl) (Nat.le_of_ble_eq_true rfl) (Nat.le_of_ble_eq_true rfl) (Nat.le_of_ble_eq_true rfl) d_Or_price_150 ?_
                refine hb_anyi (fun y_77 => ?_)
                exact W.iret (v := y_77) hx hb hr (fun t ht hW => ⟨y_77, rfl, trivial, ht⟩) t_nil d_Or_price_153
            · refine hb_ti 0 (by unfold f_WM_isSunday; rw [if_neg c_68]; first | done | rfl) ?_
              refine lv_if_eq (tgt := 122) hx hb d_Or_price_106 (by decide) (fun _ => ?_) (fun h => absurd (by decide +kernel) h)
              refine lv_iload hx hb d_Or_price_122 (lv_at hl 3 rfl) ?_
              refine lv_iconst (v := 2) hx hb d_Or_price_124 (by decide +kernel) ?_
              refine lv_icmp_ne (tgt := 142) hx hb d_Or_price_125 (by decide) (fun c_78 => ?_) (fun c_78 => ?_)
              · refine lv_iload hx hb d_Or_price_142 (lv_at hl 4 rfl) ?_
                refine lv_aload_n hx hb d_Or_price_144 rfl (lv_at hl 0 rfl) ?_
                refine tw_getR (D := (dC, dI)) (C := R_Or) (T := F_Or) (N := 9) (ci := 3) (kd := 15) (ct := ct) hx hb htb i_Or hown hK hP m0 rfl rfl 4 e_61 (by decide) (htb (.fieldLink R_Or 20 "WaterMen$Order" "single" "[I") tw_65) (fun _ h9 => h9) rfl d_Or_price_145 ?_
                refine hb_tv (.ref q_61) rfl ?_
                refine lv_iconst (v := 5) hx hb d_Or_price_148 (by decide +kernel) ?_
                refine tw_aldI (ct := ct) hx hb hK hP hO_0 m_61 rfl (by unfold vp_in; decide +kernel) d_Or_price_149 (fun x_79 e_79 b_79 => ?_)
                refine va_mmax hx hb (hml.trans hl.1.symm) hown (htb (.methodLink R_Or 56 Lib.Math.max.name) tw_83) (htb (.static Lib.Math.max.name) tw_39) (htb (.initialized "java/lang/Math") tw_32) (htb (.code Lib.Math.max.name Lib.Math.max.code 2 (some .int)) tw_40) (Nat.le_of_ble_eq_true rfl) (Nat.le_of_ble_eq_true rfl) (Nat.le_of_ble_eq_true rfl) (Nat.le_of_ble_eq_true rfl) d_Or_price_150 ?_
                refine hb_anyi (fun y_80 => ?_)
                exact W.iret (v := y_80) hx hb hr (fun t ht hW => ⟨y_80, rfl, trivial, ht⟩) t_nil d_Or_price_153
              · refine lv_iload hx hb d_Or_price_128 (lv_at hl 4 rfl) ?_
                refine lv_aload_n hx hb d_Or_price_130 rfl (lv_at hl 0 rfl) ?_
                refine tw_getR (D := (dC, dI)) (C := R_Or) (T := F_Or) (N := 9) (ci := 3) (kd := 15) (ct := ct) hx hb htb i_Or hown hK hP m0 rfl rfl 4 e_61 (by decide) (htb (.fieldLink R_Or 20 "WaterMen$Order" "single" "[I") tw_65) (fun _ h9 => h9) rfl d_Or_price_131 ?_
                refine hb_tv (.ref q_61) rfl ?_
                refine lv_bipush (v := 8) hx hb d_Or_price_134 (by decide +kernel) ?_
                refine tw_aldI (ct := ct) hx hb hK hP hO_0 m_61 rfl (by unfold vp_in; decide +kernel) d_Or_price_136 (fun x_81 e_81 b_81 => ?_)
                refine vp_callSi (va_Run.run (va_runS (As := [.int v6_64, .int x_81]) (rest := []) ⟨hx, hb, hml, hown, htb⟩ (c_Or_scaled_t l dC dI ct L f hO_0 v6_64 x_81) (cwS 2 htb (gd_S tw_81 tw_82 tw_68 tw_80) rfl rfl rfl (by decide +kernel) ⟨Nat.le_of_ble_eq_true rfl, Nat.le_of_ble_eq_true rfl⟩) ⟨pr_blind, pr_pre hP hK hN⟩ rfl rfl hl.1 rfl (lv_room (Nat.le_of_ble_eq_true rfl)) d_Or_price_137 ⟨Nat.le_of_ble_eq_true rfl, Nat.le_of_ble_eq_true rfl⟩)) (fun r_82 er_82 => ?_)
                clear er_82
                refine lv_istore (lv' := [(6, .int r_82), (0, .ref q0), (3, .int p_2), (4, .int p_3), (5, .int p_4), (7, .int v7_64)]) hx hb d_Or_price_140 hl (by decide) rfl (fun ls hl => ?_)
                refine lv_iload hx hb d_Or_price_142 (lv_at hl 0 rfl) ?_
                refine lv_aload_n hx hb d_Or_price_144 rfl (lv_at hl 1 rfl) ?_
                refine tw_getR (D := (dC, dI)) (C := R_Or) (T := F_Or) (N := 9) (ci := 3) (kd := 15) (ct := ct) hx hb htb i_Or hown hK hP m0 rfl rfl 4 e_61 (by decide) (htb (.fieldLink R_Or 20 "WaterMen$Order" "single" "[I") tw_65) (fun _ h9 => h9) rfl d_Or_price_145 ?_
                refine hb_tv (.ref q_61) rfl ?_
                refine lv_iconst (v := 5) hx hb d_Or_price_148 (by decide +kernel) ?_
                refine tw_aldI (ct := ct) hx hb hK hP hO_0 m_61 rfl (by unfold vp_in; decide +kernel) d_Or_price_149 (fun x_83 e_83 b_83 => ?_)
                refine va_mmax hx hb (hml.trans hl.1.symm) hown (htb (.methodLink R_Or 56 Lib.Math.max.name) tw_83) (htb (.static Lib.Math.max.name) tw_39) (htb (.initialized "java/lang/Math") tw_32) (htb (.code Lib.Math.max.name Lib.Math.max.code 2 (some .int)) tw_40) (Nat.le_of_ble_eq_true rfl) (Nat.le_of_ble_eq_true rfl) (Nat.le_of_ble_eq_true rfl) (Nat.le_of_ble_eq_true rfl) d_Or_price_150 ?_
                refine hb_anyi (fun y_84 => ?_)
                exact W.iret (v := y_84) hx hb hr (fun t ht hW => ⟨y_84, rfl, trivial, ht⟩) t_nil d_Or_price_153
          · refine lv_aload_n hx hb d_Or_price_64 rfl (lv_at hl 0 rfl) ?_
            refine tw_getr (D := (dC, dI)) (C := R_Or) (T := F_Or) (N := 9) (ci := 3) (kd := 15) (ct := ct) hx hb htb i_Or hown hK hP hO_0 m0 rfl rfl 3 (by decide) (htb (.fieldLink R_Or 15 "WaterMen$Order" "hours" "[I") tw_84) (fun _ h9 => h9) rfl d_Or_price_65 (fun q_85 e_85 m_85 => ?_)
            refine lv_iload hx hb d_Or_price_68 (lv_at hl 5 rfl) ?_
            refine lv_iload hx hb d_Or_price_70 (lv_at hl 2 rfl) ?_
            refine vp_callSi (va_Run.run (va_runS (As := [.ref q_85, .int v7_64, .int p_3]) (rest := []) ⟨hx, hb, hml, hown, htb⟩ (c_Or_lineHolds_k17_t l dC dI ct L f hO_0 q_85 m_85 v7_64 p_3 iv0_64 (show ¬ (11 < v7_64) from ((fun (a_0 : Int32) (a_1 : Int32) (k_0 : ¬ (a_1 ≤ a_0)) (k_1 : ¬ (12 < a_1)) => (show ¬ (11 < a_0) from by have z0 : (11 : Int32).toInt = 11 := (by decide +kernel); have z1 : (12 : Int32).toInt = 12 := (by decide +kernel); have r0 := fb_rng (a_0); have r1 := fb_rng (a_1); have e0 := k_0; rw [Int32.le_iff_toInt_le] at e0; have e1 := k_1; rw [Int32.lt_iff_toInt_lt, z1] at e1; rw [Int32.lt_iff_toInt_lt, z0]; omega)) v7_64 x_65 c_66 b_65.2))) (cwS 3 htb (gd_S tw_69 tw_70 tw_68 tw_67) rfl rfl rfl (by decide +kernel) ⟨Nat.le_of_ble_eq_true rfl, Nat.le_of_ble_eq_true rfl⟩) ⟨pr_blind, pr_pre hP hK hN⟩ rfl rfl hl.1 rfl (lv_room (Nat.le_of_ble_eq_true rfl)) d_Or_price_72 ⟨Nat.le_of_ble_eq_true rfl, Nat.le_of_ble_eq_true rfl⟩)) (fun r_86 er_86 => ?_)
            rcases er_86 with ⟨rfl, -⟩ | ⟨rfl, -⟩
            · refine lv_if_eq (tgt := 96) hx hb d_Or_price_75 (by decide) (fun _ => ?_) (fun h => absurd (by decide +kernel) h)
              refine lv_iinc (v := (v7_64 + 1)) (lv' := [(7, .int (v7_64 + 1)), (0, .ref q0), (3, .int p_2), (4, .int p_3), (5, .int p_4), (6, .int v6_64)]) hx hb d_Or_price_96 hl (k := 5) rfl rfl (by decide) rfl (fun ls hl => ?_)
              refine lv_goto (tgt := 55) hx hb d_Or_price_99 (by decide) ?_
              exact ih_64 (n_64 - 1) (ms_1 ((fun (a_0 : Int32) (a_1 : Int32) (k_0 : ¬ (a_1 ≤ a_0)) (k_1 : ¬ (12 < a_1)) => (show 1 ≤ (12 : Int32).toInt - (a_0).toInt ∧ (12 : Int32).toInt - ((a_0) + (1 : Int32)).toInt + 1 ≤ (12 : Int32).toInt - (a_0).toInt from by have z0 : (1 : Int32).toInt = 1 := (by decide +kernel); have z1 : (12 : Int32).toInt = 12 := (by decide +kernel); have r0 := fb_rng (a_0); have r1 := fb_rng (a_1); have e0 := k_0; rw [Int32.le_iff_toInt_le] at e0; have e1 := k_1; rw [Int32.lt_iff_toInt_lt, z1] at e1; obtain ⟨n_0, hn_0, s0⟩ := nd_add (x := (a_0)) (y := (1 : Int32)) (by (try rw [z0]); omega) (by (try rw [z0]); omega); rw [z0] at s0; rw [hn_0]; (try rw [z1]); omega)) v7_64 x_65 c_66 b_65.2) hm_64) v6_64 (v7_64 + 1) _ (show ¬ ((v7_64 + 1) < 0) from by have e0 := iv0_64; rw [Int32.lt_iff_toInt_lt] at e0; have e1 := iv1_64; rw [Int32.lt_iff_toInt_lt] at e1; have z0 : (0 : Int32).toInt = 0 := (by decide +kernel); have z1 : (1 : Int32).toInt = 1 := (by decide +kernel); have z2 : (12 : Int32).toInt = 12 := (by decide +kernel); have ss := fb_addI (x := v7_64) (y := 1) (by omega) (by omega); rw [Int32.lt_iff_toInt_lt]; omega) (show ¬ (12 < (v7_64 + 1)) from ((fun (a_0 : Int32) (a_1 : Int32) (k_0 : ¬ (a_1 ≤ a_0)) (k_1 : ¬ (12 < a_1)) => (show ¬ (12 < (a_0 + 1)) from by have z0 : (1 : Int32).toInt = 1 := (by decide +kernel); have z1 : (12 : Int32).toInt = 12 := (by decide +kernel); have r0 := fb_rng (a_0); have r1 := fb_rng (a_1); have e0 := k_0; rw [Int32.le_iff_toInt_le] at e0; have e1 := k_1; rw [Int32.lt_iff_toInt_lt, z1] at e1; obtain ⟨n_0, hn_0, s0⟩ := nd_add (x := (a_0)) (y := (1 : Int32)) (by (try rw [z0]); omega) (by (try rw [z0]); omega); rw [z0] at s0; rw [hn_0, Int32.lt_iff_toInt_lt, z1]; omega)) v7_64 x_65 c_66 b_65.2)) (by exact ms_2 ((fun (a_0 : Int32) (a_1 : Int32) (k_0 : ¬ (a_1 ≤ a_0)) (k_1 : ¬ (12 < a_1)) => (show 1 ≤ (12 : Int32).toInt - (a_0).toInt ∧ (12 : Int32).toInt - ((a_0) + (1 : Int32)).toInt + 1 ≤ (12 : Int32).toInt - (a_0).toInt from by have z0 : (1 : Int32).toInt = 1 := (by decide +kernel); have z1 : (12 : Int32).toInt = 12 := (by decide +kernel); have r0 := fb_rng (a_0); have r1 := fb_rng (a_1); have e0 := k_0; rw [Int32.le_iff_toInt_le] at e0; have e1 := k_1; rw [Int32.lt_iff_toInt_lt, z1] at e1; obtain ⟨n_0, hn_0, s0⟩ := nd_add (x := (a_0)) (y := (1 : Int32)) (by (try rw [z0]); omega) (by (try rw [z0]); omega); rw [z0] at s0; rw [hn_0]; (try rw [z1]); omega)) v7_64 x_65 c_66 b_65.2) hm_64) (lv_sub hl [1, 2, 3, 4, 5, 0] rfl)
            · refine lv_if_eq (tgt := 96) hx hb d_Or_price_75 (by decide) (fun h => absurd h (by decide +kernel)) (fun _ => ?_)
              refine lv_iload hx hb d_Or_price_78 (lv_at hl 4 rfl) ?_
              refine lv_aload_n hx hb d_Or_price_80 rfl (lv_at hl 0 rfl) ?_
              refine tw_getR (D := (dC, dI)) (C := R_Or) (T := F_Or) (N := 9) (ci := 3) (kd := 15) (ct := ct) hx hb htb i_Or hown hK hP m0 rfl rfl 3 e_85 (by decide) (htb (.fieldLink R_Or 15 "WaterMen$Order" "hours" "[I") tw_84) (fun _ h9 => h9) rfl d_Or_price_81 ?_
              refine hb_tv (.ref q_85) rfl ?_
              refine lv_iload hx hb d_Or_price_84 (lv_at hl 5 rfl) ?_
              refine lv_iconst (v := 3) hx hb d_Or_price_86 (by decide +kernel) ?_
              refine lv_imul hx hb d_Or_price_87 ?_
              refine lv_iconst (v := 2) hx hb d_Or_price_88 (by decide +kernel) ?_
              refine lv_iadd hx hb d_Or_price_89 ?_
              refine tw_aldI (ct := ct) hx hb hK hP hO_0 m_85 rfl ((fun (a_0 : Int32) (a_1 : Int32) (k_0 : ¬ (a_0 < 0)) (k_1 : ¬ (a_1 ≤ a_0)) (k_2 : ¬ (12 < a_1)) => (show vp_in (((a_0 * 3) + 2)) 36 from by have z0 : (0 : Int32).toInt = 0 := (by decide +kernel); have z1 : (2 : Int32).toInt = 2 := (by decide +kernel); have z2 : (3 : Int32).toInt = 3 := (by decide +kernel); have z3 : (12 : Int32).toInt = 12 := (by decide +kernel); have r0 := fb_rng (a_0); have r1 := fb_rng (a_1); have e0 := k_0; rw [Int32.lt_iff_toInt_lt, z0] at e0; have e1 := k_1; rw [Int32.le_iff_toInt_le] at e1; have e2 := k_2; rw [Int32.lt_iff_toInt_lt, z3] at e2; obtain ⟨n_0, hn_0, s0⟩ := nd_mul (x := (a_0)) (y := (3 : Int32)) (by (try rw [z2]); omega) (by (try rw [z2]); omega); rw [z2] at s0; obtain ⟨n_1, hn_1, s1⟩ := nd_add (x := n_0) (y := (2 : Int32)) (by (try rw [z1]); omega) (by (try rw [z1]); omega); rw [z1] at s1; rw [hn_0, hn_1, vp_in_iff]; omega)) v7_64 x_65 iv0_64 c_66 b_65.2) d_Or_price_90 (fun x_87 e_87 b_87 => ?_)
              refine vp_callSi (va_Run.run (va_runS (As := [.int v6_64, .int x_87]) (rest := []) ⟨hx, hb, hml, hown, htb⟩ (c_Or_scaled_t l dC dI ct L f hO_0 v6_64 x_87) (cwS 2 htb (gd_S tw_81 tw_82 tw_68 tw_80) rfl rfl rfl (by decide +kernel) ⟨Nat.le_of_ble_eq_true rfl, Nat.le_of_ble_eq_true rfl⟩) ⟨pr_blind, pr_pre hP hK hN⟩ rfl rfl hl.1 rfl (lv_room (Nat.le_of_ble_eq_true rfl)) d_Or_price_91 ⟨Nat.le_of_ble_eq_true rfl, Nat.le_of_ble_eq_true rfl⟩)) (fun r_88 er_88 => ?_)
              clear er_88
              refine lv_istore (lv' := [(6, .int r_88), (0, .ref q0), (3, .int p_2), (4, .int p_3), (5, .int p_4), (7, .int v7_64)]) hx hb d_Or_price_94 hl (by decide) rfl (fun ls hl => ?_)
              refine lv_iinc (v := (v7_64 + 1)) (lv' := [(7, .int (v7_64 + 1)), (6, .int r_88), (0, .ref q0), (3, .int p_2), (4, .int p_3), (5, .int p_4)]) hx hb d_Or_price_96 hl (k := 5) rfl rfl (by decide) rfl (fun ls hl => ?_)
              refine lv_goto (tgt := 55) hx hb d_Or_price_99 (by decide) ?_
              exact ih_64 (n_64 - 1) (ms_1 ((fun (a_0 : Int32) (a_1 : Int32) (k_0 : ¬ (a_1 ≤ a_0)) (k_1 : ¬ (12 < a_1)) => (show 1 ≤ (12 : Int32).toInt - (a_0).toInt ∧ (12 : Int32).toInt - ((a_0) + (1 : Int32)).toInt + 1 ≤ (12 : Int32).toInt - (a_0).toInt from by have z0 : (1 : Int32).toInt = 1 := (by decide +kernel); have z1 : (12 : Int32).toInt = 12 := (by decide +kernel); have r0 := fb_rng (a_0); have r1 := fb_rng (a_1); have e0 := k_0; rw [Int32.le_iff_toInt_le] at e0; have e1 := k_1; rw [Int32.lt_iff_toInt_lt, z1] at e1; obtain ⟨n_0, hn_0, s0⟩ := nd_add (x := (a_0)) (y := (1 : Int32)) (by (try rw [z0]); omega) (by (try rw [z0]); omega); rw [z0] at s0; rw [hn_0]; (try rw [z1]); omega)) v7_64 x_65 c_66 b_65.2) hm_64) r_88 (v7_64 + 1) _ (show ¬ ((v7_64 + 1) < 0) from by have e0 := iv0_64; rw [Int32.lt_iff_toInt_lt] at e0; have e1 := iv1_64; rw [Int32.lt_iff_toInt_lt] at e1; have z0 : (0 : Int32).toInt = 0 := (by decide +kernel); have z1 : (1 : Int32).toInt = 1 := (by decide +kernel); have z2 : (12 : Int32).toInt = 12 := (by decide +kernel); have ss := fb_addI (x := v7_64) (y := 1) (by omega) (by omega); rw [Int32.lt_iff_toInt_lt]; omega) (show ¬ (12 < (v7_64 + 1)) from ((fun (a_0 : Int32) (a_1 : Int32) (k_0 : ¬ (a_1 ≤ a_0)) (k_1 : ¬ (12 < a_1)) => (show ¬ (12 < (a_0 + 1)) from by have z0 : (1 : Int32).toInt = 1 := (by decide +kernel); have z1 : (12 : Int32).toInt = 12 := (by decide +kernel); have r0 := fb_rng (a_0); have r1 := fb_rng (a_1); have e0 := k_0; rw [Int32.le_iff_toInt_le] at e0; have e1 := k_1; rw [Int32.lt_iff_toInt_lt, z1] at e1; obtain ⟨n_0, hn_0, s0⟩ := nd_add (x := (a_0)) (y := (1 : Int32)) (by (try rw [z0]); omega) (by (try rw [z0]); omega); rw [z0] at s0; rw [hn_0, Int32.lt_iff_toInt_lt, z1]; omega)) v7_64 x_65 c_66 b_65.2)) (by exact ms_2 ((fun (a_0 : Int32) (a_1 : Int32) (k_0 : ¬ (a_1 ≤ a_0)) (k_1 : ¬ (12 < a_1)) => (show 1 ≤ (12 : Int32).toInt - (a_0).toInt ∧ (12 : Int32).toInt - ((a_0) + (1 : Int32)).toInt + 1 ≤ (12 : Int32).toInt - (a_0).toInt from by have z0 : (1 : Int32).toInt = 1 := (by decide +kernel); have z1 : (12 : Int32).toInt = 12 := (by decide +kernel); have r0 := fb_rng (a_0); have r1 := fb_rng (a_1); have e0 := k_0; rw [Int32.le_iff_toInt_le] at e0; have e1 := k_1; rw [Int32.lt_iff_toInt_lt, z1] at e1; obtain ⟨n_0, hn_0, s0⟩ := nd_add (x := (a_0)) (y := (1 : Int32)) (by (try rw [z0]); omega) (by (try rw [z0]); omega); rw [z0] at s0; rw [hn_0]; (try rw [z1]); omega)) v7_64 x_65 c_66 b_65.2) hm_64) (lv_sub hl [2, 3, 4, 5, 1, 0] rfl)
      exact cut_64 4294967296 r_63 (0 : Int32) _ (by decide +kernel) (by decide +kernel) (by exact ms_0 _ _) (lv_sub hl [2, 5, 6, 7, 1, 0] rfl)
  · refine lv_iconst (v := (-1)) hx hb d_Or_price_13 (by decide +kernel) ?_
    exact W.iret (v := (-1)) hx hb hr (fun t ht hW => ⟨(-1), rfl, trivial, ht⟩) t_nil d_Or_price_14
