def f_Md_in  (p_0 : Int32) (p_1 : Int32) (p_2 : Int32) : Int32 := if p_0 < p_1 then (0) else (if p_2 < p_0 then (0) else (1))
set_option maxHeartbeats 4000000 in
set_option maxRecDepth 100000 in
theorem c_Md_in (l : Launch)  (p_0 : Int32) (p_1 : Int32) (p_2 : Int32)  : Met l y_Md_in (.code y_Md_in b_Md_in 3 (some .boolean) :: TB) ({ frames := 0, cells := 0, slots := 0, locals := 0 }) (va_Pc [.int p_0, .int p_1, .int p_2] (fun _ => True)) (vp_Si (fun r => r = f_Md_in p_0 p_1 p_2)) 0 0 (fun _ => False) := by
  refine Met.ofW (cc := b_Md_in) (maxL := 3) (ret := (some .boolean)) (by decide) rfl ?_
  intro p e s m args below meth c s₁ B hml hv
  obtain ⟨rfl, -⟩ := hv
  have hx := B.exec
  have hb := B.bytes
  have hr := B.returns
  have hts := atoms_spec (ws := (.code y_Md_in b_Md_in 3 (some .boolean) :: TB)) B.pre
  have htb := fun w (h : w ∈ TB) => hts w (List.mem_cons_of_mem _ h)
  have hown : s.vm.findClass R_Md = some m.cls := findClass_of_methodNamed B.named
  have hlocks := B.notSynchronized
  have hl := lv_entry ([.int p_0, .int p_1, .int p_2]) (n := 3) (Nat.le_of_ble_eq_true rfl)
  rw [lg_entry_eq]
  generalize (lg_sl ([.int p_0, .int p_1, .int p_2]) ++ List.replicate (3 - (lg_sl ([.int p_0, .int p_1, .int p_2])).length) Slot.unset).toArray = ls at hl ⊢
  have hl : lv_has ls 3 [(0, .int p_0), (1, .int p_1), (2, .int p_2)] := hl
  refine lv_iload_n hx hb d_Md_in_0 rfl (lv_at hl 0 rfl) ?_
  refine lv_iload_n hx hb d_Md_in_1 rfl (lv_at hl 1 rfl) ?_
  refine lv_icmp_lt (tgt := 14) hx hb d_Md_in_2 (by decide) (fun c_1 => ?_) (fun c_1 => ?_)
  · refine lv_iconst (v := 0) hx hb d_Md_in_14 (by decide +kernel) ?_
    exact W.zret (v := 0) hx hb hr (by decide +kernel) (fun t ht hW => ⟨0, rfl, (by unfold f_Md_in; rw [if_pos c_1]), ht⟩) t_nil d_Md_in_15
  · refine lv_iload_n hx hb d_Md_in_5 rfl (lv_at hl 0 rfl) ?_
    refine lv_iload_n hx hb d_Md_in_6 rfl (lv_at hl 2 rfl) ?_
    refine lv_icmp_gt (tgt := 14) hx hb d_Md_in_7 (by decide) (fun c_2 => ?_) (fun c_2 => ?_)
    · refine lv_iconst (v := 0) hx hb d_Md_in_14 (by decide +kernel) ?_
      exact W.zret (v := 0) hx hb hr (by decide +kernel) (fun t ht hW => ⟨0, rfl, (by unfold f_Md_in; rw [if_neg c_1, if_pos c_2]), ht⟩) t_nil d_Md_in_15
    · refine lv_iconst (v := 1) hx hb d_Md_in_10 (by decide +kernel) ?_
      refine lv_goto (tgt := 15) hx hb d_Md_in_11 (by decide) ?_
      exact W.zret (v := 1) hx hb hr (by decide +kernel) (fun t ht hW => ⟨1, rfl, (by unfold f_Md_in; rw [if_neg c_1, if_neg c_2]), ht⟩) t_nil d_Md_in_15
def f_Md_isMan  (p_0 : Int32) : Int32 := if p_0 < 0 then (0) else (if 39 < p_0 then (0) else (1))
set_option maxHeartbeats 4000000 in
set_option maxRecDepth 100000 in
theorem c_Md_isMan (l : Launch)  (p_0 : Int32)  : Met l y_Md_isMan (.code y_Md_isMan b_Md_isMan 1 (some .boolean) :: TB) ({ frames := 1, cells := 0, slots := 0, locals := 22 }) (va_Pc [.int p_0] (fun _ => True)) (vp_Si (fun r => r = f_Md_isMan p_0)) 0 0 (fun _ => False) := by
  refine Met.ofW (cc := b_Md_isMan) (maxL := 1) (ret := (some .boolean)) (by decide) rfl ?_
  intro p e s m args below meth c s₁ B hml hv
  obtain ⟨rfl, -⟩ := hv
  have hx := B.exec
  have hb := B.bytes
  have hr := B.returns
  have hts := atoms_spec (ws := (.code y_Md_isMan b_Md_isMan 1 (some .boolean) :: TB)) B.pre
  have htb := fun w (h : w ∈ TB) => hts w (List.mem_cons_of_mem _ h)
  have hown : s.vm.findClass R_Md = some m.cls := findClass_of_methodNamed B.named
  have hlocks := B.notSynchronized
  have hl := lv_entry ([.int p_0]) (n := 1) (Nat.le_of_ble_eq_true rfl)
  rw [lg_entry_eq]
  generalize (lg_sl ([.int p_0]) ++ List.replicate (1 - (lg_sl ([.int p_0])).length) Slot.unset).toArray = ls at hl ⊢
  have hl : lv_has ls 1 [(0, .int p_0)] := hl
  refine lv_iload_n hx hb d_Md_isMan_0 rfl (lv_at hl 0 rfl) ?_
  refine lv_iconst (v := 0) hx hb d_Md_isMan_1 (by decide +kernel) ?_
  refine lv_bipush (v := 39) hx hb d_Md_isMan_2 (by decide +kernel) ?_
  refine vp_callSi (va_Run.run (va_runS (As := [.int p_0, .int 0, .int 39]) (rest := []) ⟨hx, hb, hml, hown, htb⟩ (c_Md_in l p_0 0 39) (cwS 3 htb (gd_S tw_90 tw_91 tw_89 tw_88) rfl rfl rfl (by decide +kernel) ⟨Nat.le_of_ble_eq_true rfl, Nat.le_of_ble_eq_true rfl⟩) ⟨fun _ _ _ _ h => h, fun U _ _ => ⟨rfl, trivial⟩⟩ rfl rfl hl.1 rfl (lv_room (Nat.le_of_ble_eq_true rfl)) d_Md_isMan_4 ⟨Nat.le_of_ble_eq_true rfl, Nat.le_of_ble_eq_true rfl⟩)) (fun r er => ?_)
  subst er
  by_cases c_2 : p_0 < 0
  · refine hb_ti 0 (by unfold f_Md_in; rw [if_pos c_2]) ?_
    exact W.zret (v := 0) hx hb hr (by decide +kernel) (fun t ht hW => ⟨0, rfl, (by unfold f_Md_isMan; rw [if_pos c_2]), ht⟩) t_nil d_Md_isMan_7
  · by_cases c_3 : 39 < p_0
    · refine hb_ti 0 (by unfold f_Md_in; rw [if_neg c_2, if_pos c_3]) ?_
      exact W.zret (v := 0) hx hb hr (by decide +kernel) (fun t ht hW => ⟨0, rfl, (by unfold f_Md_isMan; rw [if_neg c_2, if_pos c_3]), ht⟩) t_nil d_Md_isMan_7
    · refine hb_ti 1 (by unfold f_Md_in; rw [if_neg c_2, if_neg c_3]) ?_
      exact W.zret (v := 1) hx hb hr (by decide +kernel) (fun t ht hW => ⟨1, rfl, (by unfold f_Md_isMan; rw [if_neg c_2, if_neg c_3]), ht⟩) t_nil d_Md_isMan_7
set_option maxHeartbeats 4000000 in
set_option maxRecDepth 100000 in
theorem c_Md_rowOf_t (l : Launch) (dC : Nat → ClassId) (dI : Nat → Nat → Nat) (ct : Nat → ClassId) (L : List Nat) (f : TF) (hO_0 : Ok L f) (q0 : Nat) (m0 : q0 ∈ L ∧ tk f q0 = 27) (p_0 : Int32)   : Met l y_Md_rowOf (.code y_Md_rowOf b_Md_rowOf 4 (some .int) :: TB) ({ frames := 0, cells := 0, slots := 0, locals := 0 }) (va_Pc [.ref q0, .int p_0] (PR dC dI (TW ct L f) (TT ct))) (vp_Si (fun r => (r = (-1) ∧ NotIn f q0 (ti f q0 2) p_0 ∧ True) ∨ (¬ (r < 0) ∧ ¬ (11 < r) ∧ ¬ ((ti f q0 2) ≤ r) ∧ IsIn f q0 r p_0 ∧ True))) 0 0 (fun _ => False) := by
  refine Met.ofW (cc := b_Md_rowOf) (maxL := 4) (ret := (some .int)) (by decide) rfl ?_
  intro p e s m args below meth c s₁ B hml hv
  obtain ⟨rfl, hP, hK, hN⟩ := hv
  have hx := B.exec
  have hb := B.bytes
  have hr := B.returns
  have hts := atoms_spec (ws := (.code y_Md_rowOf b_Md_rowOf 4 (some .int) :: TB)) B.pre
  have htb := fun w (h : w ∈ TB) => hts w (List.mem_cons_of_mem _ h)
  have hown : s.vm.findClass R_Md = some m.cls := findClass_of_methodNamed B.named
  have hlocks := B.notSynchronized
  have hl := lv_entry ([.ref q0, .int p_0]) (n := 4) (Nat.le_of_ble_eq_true rfl)
  rw [lg_entry_eq]
  generalize (lg_sl ([.ref q0, .int p_0]) ++ List.replicate (4 - (lg_sl ([.ref q0, .int p_0])).length) Slot.unset).toArray = ls at hl ⊢
  have hl : lv_has ls 4 [(0, .ref q0), (1, .int p_0)] := hl
  obtain ⟨qT, eqT, mqT⟩ := hO_0.r m0 (j := 20) (k' := 44) rfl
  obtain ⟨qS, eqS, mqS⟩ := hO_0.r m0 (j := 19) (k' := 43) rfl
  have bs_1 := hO_0.i m0 (show slotD 27 2 = some (.inl (0, 12)) from rfl)
  refine lv_iconst (v := 0) hx hb d_Md_rowOf_0 (by decide +kernel) ?_
  refine lv_istore_n (lv' := [(2, .int 0), (0, .ref q0), (1, .int p_0)]) hx hb d_Md_rowOf_1 rfl hl (by decide) rfl (fun ls hl => ?_)
  have cut_2 : ∀ (n_2 : Nat) (v2_2 : Int32) (ls : Array Slot), ¬ (v2_2 < 0) → ¬ (12 < v2_2) → TRows f qT qS p_0 (v2_2 : Int32).toNatClampNeg → (12 : Int32).toInt - (v2_2 : Int32).toInt ≤ (n_2 : Int) → lv_has ls 4 [(0, .ref q0), (1, .int p_0), (2, .int v2_2)] → W p l e (headSpec (.code y_Md_rowOf b_Md_rowOf 4 (some .int) :: TB) ({ frames := 0, cells := 0, slots := 0, locals := 0 })).room s m [.ref q0, .int p_0].toArray below meth c s.heap [] 0 0 (MQ below (vp_Si (fun r => (r = (-1) ∧ NotIn f q0 (ti f q0 2) p_0 ∧ True) ∨ (¬ (r < 0) ∧ ¬ (11 < r) ∧ ¬ ((ti f q0 2) ≤ r) ∧ IsIn f q0 r p_0 ∧ True))) [.ref q0, .int p_0].toArray s 0 0 (fun _ => False)) (F0 m 2 ls []) := by
    intro n_2
    induction n_2 using Nat.strongRecOn with
    | _ n_2 ih_2 =>
      intro v2_2 ls iv0_2 iv1_2 rw_2 hm_2 hl
      refine lv_iload_n hx hb d_Md_rowOf_2 rfl (lv_at hl 2 rfl) ?_
      refine lv_aload_n hx hb d_Md_rowOf_3 rfl (lv_at hl 0 rfl) ?_
      refine tw_getI (x := (ti f q0 2)) (D := (dC, dI)) (C := R_Md) (T := F_Md) (N := 64) (ci := 7) (kd := 27) (ct := ct) hx hb htb i_Md hown hK hP m0 rfl rfl 2 rfl (by decide) (htb (.fieldLink R_Md 14 "WaterMenModel" "stairs" "I") tw_97) (fun _ h9 => h9) rfl d_Md_rowOf_4 ?_
      refine lv_icmp_ge (tgt := 51) hx hb d_Md_rowOf_7 (by decide) (fun c_3 => ?_) (fun c_3 => ?_)
      · refine lv_iconst (v := (-1)) hx hb d_Md_rowOf_51 (by decide +kernel) ?_
        exact W.iret (v := (-1)) hx hb hr (fun t ht hW => ⟨(-1), rfl, (Or.inl ⟨rfl, (notin_end eqT eqS rw_2 iv0_2 c_3), trivial⟩), ht⟩) t_nil d_Md_rowOf_52
      · refine lv_iconst (v := 0) hx hb d_Md_rowOf_10 (by decide +kernel) ?_
        refine lv_istore_n (lv' := [(3, .int 0), (0, .ref q0), (1, .int p_0), (2, .int v2_2)]) hx hb d_Md_rowOf_11 rfl hl (by decide) rfl (fun ls hl => ?_)
        have cut_4 : ∀ (n_4 : Nat) (v3_4 : Int32) (ls : Array Slot), ¬ (v3_4 < 0) → ¬ (40 < v3_4) → TOut f qT (v2_2 : Int32).toNatClampNeg p_0 (v3_4 : Int32).toNatClampNeg → (40 : Int32).toInt - (v3_4 : Int32).toInt ≤ (n_4 : Int) → lv_has ls 4 [(0, .ref q0), (1, .int p_0), (2, .int v2_2), (3, .int v3_4)] → W p l e (headSpec (.code y_Md_rowOf b_Md_rowOf 4 (some .int) :: TB) ({ frames := 0, cells := 0, slots := 0, locals := 0 })).room s m [.ref q0, .int p_0].toArray below meth c s.heap [] 0 0 (MQ below (vp_Si (fun r => (r = (-1) ∧ NotIn f q0 (ti f q0 2) p_0 ∧ True) ∨ (¬ (r < 0) ∧ ¬ (11 < r) ∧ ¬ ((ti f q0 2) ≤ r) ∧ IsIn f q0 r p_0 ∧ True))) [.ref q0, .int p_0].toArray s 0 0 (fun _ => False)) (F0 m 12 ls []) := by
          intro n_4
          induction n_4 using Nat.strongRecOn with
          | _ n_4 ih_4 =>
            intro v3_4 ls iv0_4 iv1_4 rw_4 hm_4 hl
            refine lv_iload_n hx hb d_Md_rowOf_12 rfl (lv_at hl 3 rfl) ?_
            refine lv_aload_n hx hb d_Md_rowOf_13 rfl (lv_at hl 0 rfl) ?_
            refine tw_getR (D := (dC, dI)) (C := R_Md) (T := F_Md) (N := 64) (ci := 7) (kd := 27) (ct := ct) hx hb htb i_Md hown hK hP m0 rfl rfl 19 eqS (by decide) (htb (.fieldLink R_Md 88 "WaterMenModel" "turns" "[I") tw_98) (fun _ h9 => h9) rfl d_Md_rowOf_14 ?_
            refine hb_tv (.ref qS) rfl ?_
            refine lv_iload_n hx hb d_Md_rowOf_17 rfl (lv_at hl 2 rfl) ?_
            refine tw_aldI (ct := ct) hx hb hK hP hO_0 mqS rfl ((fun (a_0 : Int32) (a_1 : Int32) (k_0 : ¬ (a_1 < 0)) (k_1 : ¬ (a_0 ≤ a_1)) (k_2 : ¬ (12 < a_0)) => (show vp_in (a_1) 12 from by have z0 : (0 : Int32).toInt = 0 := (by decide +kernel); have z1 : (12 : Int32).toInt = 12 := (by decide +kernel); have r0 := fb_rng (a_0); have r1 := fb_rng (a_1); have e0 := k_0; rw [Int32.lt_iff_toInt_lt, z0] at e0; have e1 := k_1; rw [Int32.le_iff_toInt_le] at e1; have e2 := k_2; rw [Int32.lt_iff_toInt_lt, z1] at e2; rw [vp_in_iff]; omega)) (ti f q0 2) v2_2 iv0_2 c_3 bs_1.2) d_Md_rowOf_18 (fun x_5 e_5 b_5 => ?_)
            refine lv_icmp_ge (tgt := 45) hx hb d_Md_rowOf_19 (by decide) (fun c_6 => ?_) (fun c_6 => ?_)
            · refine lv_iinc (v := (v2_2 + 1)) (lv' := [(2, .int (v2_2 + 1)), (0, .ref q0), (1, .int p_0), (3, .int v3_4)]) hx hb d_Md_rowOf_45 hl (k := 2) rfl rfl (by decide) rfl (fun ls hl => ?_)
              refine lv_goto (tgt := 2) hx hb d_Md_rowOf_48 (by decide) ?_
              exact ih_2 (n_2 - 1) (ms_1 ((fun (a_0 : Int32) (a_1 : Int32) (k_0 : ¬ (a_0 ≤ a_1)) (k_1 : ¬ (12 < a_0)) => (show 1 ≤ (12 : Int32).toInt - (a_1).toInt ∧ (12 : Int32).toInt - ((a_1) + (1 : Int32)).toInt + 1 ≤ (12 : Int32).toInt - (a_1).toInt from by have z0 : (1 : Int32).toInt = 1 := (by decide +kernel); have z1 : (12 : Int32).toInt = 12 := (by decide +kernel); have r0 := fb_rng (a_0); have r1 := fb_rng (a_1); have e0 := k_0; rw [Int32.le_iff_toInt_le] at e0; have e1 := k_1; rw [Int32.lt_iff_toInt_lt, z1] at e1; obtain ⟨n_0, hn_0, s0⟩ := nd_add (x := (a_1)) (y := (1 : Int32)) (by (try rw [z0]); omega) (by (try rw [z0]); omega); rw [z0] at s0; rw [hn_0]; (try rw [z1]); omega)) (ti f q0 2) v2_2 c_3 bs_1.2) hm_2) (v2_2 + 1) _ (show ¬ ((v2_2 + 1) < 0) from by have e0 := iv0_2; rw [Int32.lt_iff_toInt_lt] at e0; have e1 := iv1_2; rw [Int32.lt_iff_toInt_lt] at e1; have z0 : (0 : Int32).toInt = 0 := (by decide +kernel); have z1 : (1 : Int32).toInt = 1 := (by decide +kernel); have z2 : (12 : Int32).toInt = 12 := (by decide +kernel); have ss := fb_addI (x := v2_2) (y := 1) (by omega) (by omega); rw [Int32.lt_iff_toInt_lt]; omega) (show ¬ (12 < (v2_2 + 1)) from ((fun (a_0 : Int32) (a_1 : Int32) (k_0 : ¬ (a_0 ≤ a_1)) (k_1 : ¬ (12 < a_0)) => (show ¬ (12 < (a_1 + 1)) from by have z0 : (1 : Int32).toInt = 1 := (by decide +kernel); have z1 : (12 : Int32).toInt = 12 := (by decide +kernel); have r0 := fb_rng (a_0); have r1 := fb_rng (a_1); have e0 := k_0; rw [Int32.le_iff_toInt_le] at e0; have e1 := k_1; rw [Int32.lt_iff_toInt_lt, z1] at e1; obtain ⟨n_0, hn_0, s0⟩ := nd_add (x := (a_1)) (y := (1 : Int32)) (by (try rw [z0]); omega) (by (try rw [z0]); omega); rw [z0] at s0; rw [hn_0, Int32.lt_iff_toInt_lt, z1]; omega)) (ti f q0 2) v2_2 c_3 bs_1.2)) (rows_next rw_2 rw_4 iv0_2 (show ¬ (11 < v2_2) from ((fun (a_0 : Int32) (a_1 : Int32) (k_0 : ¬ (a_0 ≤ a_1)) (k_1 : ¬ (12 < a_0)) => (show ¬ (11 < a_1) from by have z0 : (11 : Int32).toInt = 11 := (by decide +kernel); have z1 : (12 : Int32).toInt = 12 := (by decide +kernel); have r0 := fb_rng (a_0); have r1 := fb_rng (a_1); have e0 := k_0; rw [Int32.le_iff_toInt_le] at e0; have e1 := k_1; rw [Int32.lt_iff_toInt_lt, z1] at e1; rw [Int32.lt_iff_toInt_lt, z0]; omega)) (ti f q0 2) v2_2 c_3 bs_1.2)) iv0_4 b_5.1 e_5 c_6) (by exact ms_2 ((fun (a_0 : Int32) (a_1 : Int32) (k_0 : ¬ (a_0 ≤ a_1)) (k_1 : ¬ (12 < a_0)) => (show 1 ≤ (12 : Int32).toInt - (a_1).toInt ∧ (12 : Int32).toInt - ((a_1) + (1 : Int32)).toInt + 1 ≤ (12 : Int32).toInt - (a_1).toInt from by have z0 : (1 : Int32).toInt = 1 := (by decide +kernel); have z1 : (12 : Int32).toInt = 12 := (by decide +kernel); have r0 := fb_rng (a_0); have r1 := fb_rng (a_1); have e0 := k_0; rw [Int32.le_iff_toInt_le] at e0; have e1 := k_1; rw [Int32.lt_iff_toInt_lt, z1] at e1; obtain ⟨n_0, hn_0, s0⟩ := nd_add (x := (a_1)) (y := (1 : Int32)) (by (try rw [z0]); omega) (by (try rw [z0]); omega); rw [z0] at s0; rw [hn_0]; (try rw [z1]); omega)) (ti f q0 2) v2_2 c_3 bs_1.2) hm_2) (lv_sub hl [1, 2, 0] rfl)
            · refine lv_aload_n hx hb d_Md_rowOf_22 rfl (lv_at hl 0 rfl) ?_
              refine tw_getR (D := (dC, dI)) (C := R_Md) (T := F_Md) (N := 64) (ci := 7) (kd := 27) (ct := ct) hx hb htb i_Md hown hK hP m0 rfl rfl 20 eqT (by decide) (htb (.fieldLink R_Md 91 "WaterMenModel" "turn" "[I") tw_99) (fun _ h9 => h9) rfl d_Md_rowOf_23 ?_
              refine hb_tv (.ref qT) rfl ?_
              refine lv_bipush (v := 40) hx hb d_Md_rowOf_26 (by decide +kernel) ?_
              refine lv_iload_n hx hb d_Md_rowOf_28 rfl (lv_at hl 2 rfl) ?_
              refine lv_imul hx hb d_Md_rowOf_29 ?_
              refine lv_iload_n hx hb d_Md_rowOf_30 rfl (lv_at hl 3 rfl) ?_
              refine lv_iadd hx hb d_Md_rowOf_31 ?_
              refine tw_aldI (ct := ct) hx hb hK hP hO_0 mqT rfl ((fun (a_0 : Int32) (a_1 : Int32) (a_2 : Int32) (a_3 : Int32) (k_0 : ¬ (a_1 < 0)) (k_1 : ¬ (a_0 ≤ a_1)) (k_2 : ¬ (a_2 < 0)) (k_3 : ¬ (a_3 ≤ a_2)) (k_4 : ¬ (12 < a_0)) (k_5 : ¬ (40 < a_3)) => (show vp_in (((40 * a_1) + a_2)) 480 from by have z0 : (0 : Int32).toInt = 0 := (by decide +kernel); have z1 : (12 : Int32).toInt = 12 := (by decide +kernel); have z2 : (40 : Int32).toInt = 40 := (by decide +kernel); have r0 := fb_rng (a_0); have r1 := fb_rng (a_1); have r2 := fb_rng (a_2); have r3 := fb_rng (a_3); have e0 := k_0; rw [Int32.lt_iff_toInt_lt, z0] at e0; have e1 := k_1; rw [Int32.le_iff_toInt_le] at e1; have e2 := k_2; rw [Int32.lt_iff_toInt_lt, z0] at e2; have e3 := k_3; rw [Int32.le_iff_toInt_le] at e3; have e4 := k_4; rw [Int32.lt_iff_toInt_lt, z1] at e4; have e5 := k_5; rw [Int32.lt_iff_toInt_lt, z2] at e5; obtain ⟨n_0, hn_0, s0⟩ := nd_mul (x := (40 : Int32)) (y := (a_1)) (by (try rw [z2]); omega) (by (try rw [z2]); omega); rw [z2] at s0; obtain ⟨n_1, hn_1, s1⟩ := nd_add (x := n_0) (y := (a_2)) (by omega) (by omega); rw [hn_0, hn_1, vp_in_iff]; omega)) (ti f q0 2) v2_2 v3_4 x_5 iv0_2 c_3 iv0_4 c_6 bs_1.2 b_5.2) d_Md_rowOf_32 (fun x_7 e_7 b_7 => ?_)
              refine lv_iload_n hx hb d_Md_rowOf_33 rfl (lv_at hl 1 rfl) ?_
              refine lv_icmp_ne (tgt := 39) hx hb d_Md_rowOf_34 (by decide) (fun c_8 => ?_) (fun c_8 => ?_)
              · refine lv_iinc (v := (v3_4 + 1)) (lv' := [(3, .int (v3_4 + 1)), (0, .ref q0), (1, .int p_0), (2, .int v2_2)]) hx hb d_Md_rowOf_39 hl (k := 3) rfl rfl (by decide) rfl (fun ls hl => ?_)
                refine lv_goto (tgt := 12) hx hb d_Md_rowOf_42 (by decide) ?_
                exact ih_4 (n_4 - 1) (ms_1 ((fun (a_0 : Int32) (a_1 : Int32) (k_0 : ¬ (a_1 ≤ a_0)) (k_1 : ¬ (40 < a_1)) => (show 1 ≤ (40 : Int32).toInt - (a_0).toInt ∧ (40 : Int32).toInt - ((a_0) + (1 : Int32)).toInt + 1 ≤ (40 : Int32).toInt - (a_0).toInt from by have z0 : (1 : Int32).toInt = 1 := (by decide +kernel); have z1 : (40 : Int32).toInt = 40 := (by decide +kernel); have r0 := fb_rng (a_0); have r1 := fb_rng (a_1); have e0 := k_0; rw [Int32.le_iff_toInt_le] at e0; have e1 := k_1; rw [Int32.lt_iff_toInt_lt, z1] at e1; obtain ⟨n_0, hn_0, s0⟩ := nd_add (x := (a_0)) (y := (1 : Int32)) (by (try rw [z0]); omega) (by (try rw [z0]); omega); rw [z0] at s0; rw [hn_0]; (try rw [z1]); omega)) v3_4 x_5 c_6 b_5.2) hm_4) (v3_4 + 1) _ (show ¬ ((v3_4 + 1) < 0) from by have e0 := iv0_4; rw [Int32.lt_iff_toInt_lt] at e0; have e1 := iv1_4; rw [Int32.lt_iff_toInt_lt] at e1; have z0 : (0 : Int32).toInt = 0 := (by decide +kernel); have z1 : (1 : Int32).toInt = 1 := (by decide +kernel); have z2 : (40 : Int32).toInt = 40 := (by decide +kernel); have ss := fb_addI (x := v3_4) (y := 1) (by omega) (by omega); rw [Int32.lt_iff_toInt_lt]; omega) (show ¬ (40 < (v3_4 + 1)) from ((fun (a_0 : Int32) (a_1 : Int32) (k_0 : ¬ (a_1 ≤ a_0)) (k_1 : ¬ (40 < a_1)) => (show ¬ (40 < (a_0 + 1)) from by have z0 : (1 : Int32).toInt = 1 := (by decide +kernel); have z1 : (40 : Int32).toInt = 40 := (by decide +kernel); have r0 := fb_rng (a_0); have r1 := fb_rng (a_1); have e0 := k_0; rw [Int32.le_iff_toInt_le] at e0; have e1 := k_1; rw [Int32.lt_iff_toInt_lt, z1] at e1; obtain ⟨n_0, hn_0, s0⟩ := nd_add (x := (a_0)) (y := (1 : Int32)) (by (try rw [z0]); omega) (by (try rw [z0]); omega); rw [z0] at s0; rw [hn_0, Int32.lt_iff_toInt_lt, z1]; omega)) v3_4 x_5 c_6 b_5.2)) (out_next rw_4 iv0_2 (show ¬ (11 < v2_2) from ((fun (a_0 : Int32) (a_1 : Int32) (k_0 : ¬ (a_0 ≤ a_1)) (k_1 : ¬ (12 < a_0)) => (show ¬ (11 < a_1) from by have z0 : (11 : Int32).toInt = 11 := (by decide +kernel); have z1 : (12 : Int32).toInt = 12 := (by decide +kernel); have r0 := fb_rng (a_0); have r1 := fb_rng (a_1); have e0 := k_0; rw [Int32.le_iff_toInt_le] at e0; have e1 := k_1; rw [Int32.lt_iff_toInt_lt, z1] at e1; rw [Int32.lt_iff_toInt_lt, z0]; omega)) (ti f q0 2) v2_2 c_3 bs_1.2)) iv0_4 iv1_4 e_7 c_8) (by exact ms_2 ((fun (a_0 : Int32) (a_1 : Int32) (k_0 : ¬ (a_1 ≤ a_0)) (k_1 : ¬ (40 < a_1)) => (show 1 ≤ (40 : Int32).toInt - (a_0).toInt ∧ (40 : Int32).toInt - ((a_0) + (1 : Int32)).toInt + 1 ≤ (40 : Int32).toInt - (a_0).toInt from by have z0 : (1 : Int32).toInt = 1 := (by decide +kernel); have z1 : (40 : Int32).toInt = 40 := (by decide +kernel); have r0 := fb_rng (a_0); have r1 := fb_rng (a_1); have e0 := k_0; rw [Int32.le_iff_toInt_le] at e0; have e1 := k_1; rw [Int32.lt_iff_toInt_lt, z1] at e1; obtain ⟨n_0, hn_0, s0⟩ := nd_add (x := (a_0)) (y := (1 : Int32)) (by (try rw [z0]); omega) (by (try rw [z0]); omega); rw [z0] at s0; rw [hn_0]; (try rw [z1]); omega)) v3_4 x_5 c_6 b_5.2) hm_4) (lv_sub hl [1, 2, 3, 0] rfl)
              · refine lv_iload_n hx hb d_Md_rowOf_37 rfl (lv_at hl 2 rfl) ?_
                exact W.iret (v := v2_2) hx hb hr (fun t ht hW => ⟨v2_2, rfl, (Or.inr ⟨iv0_2, (show ¬ (11 < v2_2) from ((fun (a_0 : Int32) (a_1 : Int32) (k_0 : ¬ (a_0 ≤ a_1)) (k_1 : ¬ (12 < a_0)) => (show ¬ (11 < a_1) from by have z0 : (11 : Int32).toInt = 11 := (by decide +kernel); have z1 : (12 : Int32).toInt = 12 := (by decide +kernel); have r0 := fb_rng (a_0); have r1 := fb_rng (a_1); have e0 := k_0; rw [Int32.le_iff_toInt_le] at e0; have e1 := k_1; rw [Int32.lt_iff_toInt_lt, z1] at e1; rw [Int32.lt_iff_toInt_lt, z0]; omega)) (ti f q0 2) v2_2 c_3 bs_1.2)), c_3, (isin_end eqT eqS iv0_2 (show ¬ (11 < v2_2) from ((fun (a_0 : Int32) (a_1 : Int32) (k_0 : ¬ (a_0 ≤ a_1)) (k_1 : ¬ (12 < a_0)) => (show ¬ (11 < a_1) from by have z0 : (11 : Int32).toInt = 11 := (by decide +kernel); have z1 : (12 : Int32).toInt = 12 := (by decide +kernel); have r0 := fb_rng (a_0); have r1 := fb_rng (a_1); have e0 := k_0; rw [Int32.le_iff_toInt_le] at e0; have e1 := k_1; rw [Int32.lt_iff_toInt_lt, z1] at e1; rw [Int32.lt_iff_toInt_lt, z0]; omega)) (ti f q0 2) v2_2 c_3 bs_1.2)) iv0_4 iv1_4 e_5 c_6 e_7 c_8), trivial⟩), ht⟩) t_nil d_Md_rowOf_38
        exact cut_4 4294967296 (0 : Int32) _ (by decide +kernel) (by decide +kernel) out_0 (by exact ms_0 _ _) (lv_sub hl [1, 2, 3, 0] rfl)
  exact cut_2 4294967296 (0 : Int32) _ (by decide +kernel) (by decide +kernel) rows_0 (by exact ms_0 _ _) (lv_sub hl [1, 2, 0] rfl)
set_option maxHeartbeats 4000000 in
set_option maxRecDepth 100000 in
theorem c_Md_placeOf_t (l : Launch) (dC : Nat → ClassId) (dI : Nat → Nat → Nat) (ct : Nat → ClassId) (L : List Nat) (f : TF) (hO_0 : Ok L f) (q0 : Nat) (m0 : q0 ∈ L ∧ tk f q0 = 27) (p_0 : Int32)   : Met l y_Md_placeOf (.code y_Md_placeOf b_Md_placeOf 4 (some .int) :: TB) ({ frames := 1, cells := 0, slots := 0, locals := 23 }) (va_Pc [.ref q0, .int p_0] (PR dC dI (TW ct L f) (TT ct))) (vp_Si (fun r => (r = (-1) ∧ NotIn f q0 (ti f q0 2) p_0 ∧ True) ∨ (¬ (r < 0) ∧ ¬ (39 < r) ∧ True))) 0 0 (fun _ => False) := by
  refine Met.ofW (cc := b_Md_placeOf) (maxL := 4) (ret := (some .int)) (by decide) rfl ?_
  intro p e s m args below meth c s₁ B hml hv
  obtain ⟨rfl, hP, hK, hN⟩ := hv
  have hx := B.exec
  have hb := B.bytes
  have hr := B.returns
  have hts := atoms_spec (ws := (.code y_Md_placeOf b_Md_placeOf 4 (some .int) :: TB)) B.pre
  have htb := fun w (h : w ∈ TB) => hts w (List.mem_cons_of_mem _ h)
  have hown : s.vm.findClass R_Md = some m.cls := findClass_of_methodNamed B.named
  have hlocks := B.notSynchronized
  have hl := lv_entry ([.ref q0, .int p_0]) (n := 4) (Nat.le_of_ble_eq_true rfl)
  rw [lg_entry_eq]
  generalize (lg_sl ([.ref q0, .int p_0]) ++ List.replicate (4 - (lg_sl ([.ref q0, .int p_0])).length) Slot.unset).toArray = ls at hl ⊢
  have hl : lv_has ls 4 [(0, .ref q0), (1, .int p_0)] := hl
  obtain ⟨qT, eqT, mqT⟩ := hO_0.r m0 (j := 20) (k' := 44) rfl
  obtain ⟨qS, eqS, mqS⟩ := hO_0.r m0 (j := 19) (k' := 43) rfl
  have bs_1 := hO_0.i m0 (show slotD 27 2 = some (.inl (0, 12)) from rfl)
  refine lv_aload_n hx hb d_Md_placeOf_0 rfl (lv_at hl 0 rfl) ?_
  refine lv_iload_n hx hb d_Md_placeOf_1 rfl (lv_at hl 1 rfl) ?_
  refine vp_callSi (va_Run.run (va_runV (As := [.int p_0]) (rest := []) ⟨hx, hb, hml, hown, htb⟩ (c_Md_rowOf_t l dC dI ct L f hO_0 q0 m0 p_0) (cwV 1 htb (gd_V tw_101 tw_102 tw_103 tw_89 tw_100) rfl rfl rfl (by decide +kernel) ⟨Nat.le_of_ble_eq_true rfl, Nat.le_of_ble_eq_true rfl⟩) ⟨pr_blind, tw_recv hK hP m0 rfl rfl, pr_pre hP hK hN⟩ rfl rfl hl.1 rfl (lv_room (Nat.le_of_ble_eq_true rfl)) d_Md_placeOf_2 ⟨Nat.le_of_ble_eq_true rfl, Nat.le_of_ble_eq_true rfl⟩)) (fun r_2 er_2 => ?_)
  rcases er_2 with ⟨rfl, ra_3, -⟩ | ⟨po_4, po_5, po_6, ra_7, -⟩
  · refine lv_istore_n (lv' := [(2, .int (-1)), (0, .ref q0), (1, .int p_0)]) hx hb d_Md_placeOf_5 rfl hl (by decide) rfl (fun ls hl => ?_)
    refine lv_iconst (v := 0) hx hb d_Md_placeOf_6 (by decide +kernel) ?_
    refine lv_istore_n (lv' := [(3, .int 0), (2, .int (-1)), (0, .ref q0), (1, .int p_0)]) hx hb d_Md_placeOf_7 rfl hl (by decide) rfl (fun ls hl => ?_)
    refine lv_iload_n hx hb d_Md_placeOf_8 rfl (lv_at hl 1 rfl) ?_
    refine lv_if_lt (tgt := 33) hx hb d_Md_placeOf_9 (by decide) (fun _ => ?_) (fun h => absurd (by decide +kernel) h)
    refine lv_iload_n hx hb d_Md_placeOf_33 rfl (lv_at hl 1 rfl) ?_
    refine lv_if_ge (tgt := 41) hx hb d_Md_placeOf_34 (by decide) (fun h => absurd h (by decide +kernel)) (fun _ => ?_)
    refine lv_iconst (v := (-1)) hx hb d_Md_placeOf_37 (by decide +kernel) ?_
    refine lv_goto (tgt := 42) hx hb d_Md_placeOf_38 (by decide) ?_
    exact W.iret (v := (-1)) hx hb hr (fun t ht hW => ⟨(-1), rfl, (Or.inl ⟨rfl, ra_3, trivial⟩), ht⟩) t_nil d_Md_placeOf_42
  · refine lv_istore_n (lv' := [(2, .int r_2), (0, .ref q0), (1, .int p_0)]) hx hb d_Md_placeOf_5 rfl hl (by decide) rfl (fun ls hl => ?_)
    refine lv_iconst (v := 0) hx hb d_Md_placeOf_6 (by decide +kernel) ?_
    refine lv_istore_n (lv' := [(3, .int 0), (2, .int r_2), (0, .ref q0), (1, .int p_0)]) hx hb d_Md_placeOf_7 rfl hl (by decide) rfl (fun ls hl => ?_)
    have cut_8 : ∀ (n_8 : Nat) (v3_8 : Int32) (ls : Array Slot), ¬ (v3_8 < 0) → TAt f qT r_2 p_0 v3_8 → (40 : Int32).toInt - (v3_8 : Int32).toInt ≤ (n_8 : Int) → lv_has ls 4 [(0, .ref q0), (1, .int p_0), (2, .int r_2), (3, .int v3_8)] → W p l e (headSpec (.code y_Md_placeOf b_Md_placeOf 4 (some .int) :: TB) ({ frames := 1, cells := 0, slots := 0, locals := 23 })).room s m [.ref q0, .int p_0].toArray below meth c s.heap [] 0 0 (MQ below (vp_Si (fun r => (r = (-1) ∧ NotIn f q0 (ti f q0 2) p_0 ∧ True) ∨ (¬ (r < 0) ∧ ¬ (39 < r) ∧ True))) [.ref q0, .int p_0].toArray s 0 0 (fun _ => False)) (F0 m 8 ls []) := by
      intro n_8
      induction n_8 using Nat.strongRecOn with
      | _ n_8 ih_8 =>
        intro v3_8 ls iv0_8 rw_8 hm_8 hl
        refine lv_iload_n hx hb d_Md_placeOf_8 rfl (lv_at hl 2 rfl) ?_
        refine lv_if_lt (tgt := 33) hx hb d_Md_placeOf_9 (by decide) (fun h => absurd h po_4) (fun _ => ?_)
        refine lv_aload_n hx hb d_Md_placeOf_12 rfl (lv_at hl 0 rfl) ?_
        refine tw_getR (D := (dC, dI)) (C := R_Md) (T := F_Md) (N := 64) (ci := 7) (kd := 27) (ct := ct) hx hb htb i_Md hown hK hP m0 rfl rfl 20 eqT (by decide) (htb (.fieldLink R_Md 91 "WaterMenModel" "turn" "[I") tw_99) (fun _ h9 => h9) rfl d_Md_placeOf_13 ?_
        refine hb_tv (.ref qT) rfl ?_
        refine lv_bipush (v := 40) hx hb d_Md_placeOf_16 (by decide +kernel) ?_
        refine lv_iload_n hx hb d_Md_placeOf_18 rfl (lv_at hl 2 rfl) ?_
        refine lv_imul hx hb d_Md_placeOf_19 ?_
        refine lv_iload_n hx hb d_Md_placeOf_20 rfl (lv_at hl 3 rfl) ?_
        refine lv_iadd hx hb d_Md_placeOf_21 ?_
        refine tw_aldI (ct := ct) hx hb hK hP hO_0 mqT rfl ((fun (a_0 : Int32) (a_1 : Int32) (a_2 : Int32) (k_0 : ¬ (a_0 < 0)) (k_1 : ¬ (a_1 ≤ a_0)) (k_2 : ¬ (a_2 < 0)) (k_3 : ¬ (39 < a_2)) (k_4 : ¬ (12 < a_1)) => (show vp_in (((40 * a_0) + a_2)) 480 from by have z0 : (0 : Int32).toInt = 0 := (by decide +kernel); have z1 : (12 : Int32).toInt = 12 := (by decide +kernel); have z2 : (39 : Int32).toInt = 39 := (by decide +kernel); have z3 : (40 : Int32).toInt = 40 := (by decide +kernel); have r0 := fb_rng (a_0); have r1 := fb_rng (a_1); have r2 := fb_rng (a_2); have e0 := k_0; rw [Int32.lt_iff_toInt_lt, z0] at e0; have e1 := k_1; rw [Int32.le_iff_toInt_le] at e1; have e2 := k_2; rw [Int32.lt_iff_toInt_lt, z0] at e2; have e3 := k_3; rw [Int32.lt_iff_toInt_lt, z2] at e3; have e4 := k_4; rw [Int32.lt_iff_toInt_lt, z1] at e4; obtain ⟨n_0, hn_0, s0⟩ := nd_mul (x := (40 : Int32)) (y := (a_0)) (by (try rw [z3]); omega) (by (try rw [z3]); omega); rw [z3] at s0; obtain ⟨n_1, hn_1, s1⟩ := nd_add (x := n_0) (y := (a_2)) (by omega) (by omega); rw [hn_0, hn_1, vp_in_iff]; omega)) r_2 (ti f q0 2) v3_8 po_4 po_6 iv0_8 (at_le rw_8) bs_1.2) d_Md_placeOf_22 (fun x_9 e_9 b_9 => ?_)
        refine lv_iload_n hx hb d_Md_placeOf_23 rfl (lv_at hl 1 rfl) ?_
        refine lv_icmp_eq (tgt := 33) hx hb d_Md_placeOf_24 (by decide) (fun c_10 => ?_) (fun c_10 => ?_)
        · refine lv_iload_n hx hb d_Md_placeOf_33 rfl (lv_at hl 2 rfl) ?_
          refine lv_if_ge (tgt := 41) hx hb d_Md_placeOf_34 (by decide) (fun _ => ?_) (fun h => absurd (show 0 ≤ r_2 from by have e0 := po_4; rw [Int32.lt_iff_toInt_lt] at e0; have e1 := po_5; rw [Int32.lt_iff_toInt_lt] at e1; have z0 : (0 : Int32).toInt = 0 := (by decide +kernel); have z1 : (11 : Int32).toInt = 11 := (by decide +kernel); rw [Int32.le_iff_toInt_le]; omega) h)
          refine lv_iload_n hx hb d_Md_placeOf_41 rfl (lv_at hl 3 rfl) ?_
          exact W.iret (v := v3_8) hx hb hr (fun t ht hW => ⟨v3_8, rfl, (Or.inr ⟨iv0_8, (at_le rw_8), trivial⟩), ht⟩) t_nil d_Md_placeOf_42
        · refine lv_iinc (v := (v3_8 + 1)) (lv' := [(3, .int (v3_8 + 1)), (0, .ref q0), (1, .int p_0), (2, .int r_2)]) hx hb d_Md_placeOf_27 hl (k := 3) rfl rfl (by decide) rfl (fun ls hl => ?_)
          refine lv_goto (tgt := 8) hx hb d_Md_placeOf_30 (by decide) ?_
          exact ih_8 (n_8 - 1) (ms_1 ((fun (a_0 : Int32) (k_0 : ¬ (39 < a_0)) => (show 1 ≤ (40 : Int32).toInt - (a_0).toInt ∧ (40 : Int32).toInt - ((a_0) + (1 : Int32)).toInt + 1 ≤ (40 : Int32).toInt - (a_0).toInt from by have z0 : (1 : Int32).toInt = 1 := (by decide +kernel); have z1 : (39 : Int32).toInt = 39 := (by decide +kernel); have z2 : (40 : Int32).toInt = 40 := (by decide +kernel); have r0 := fb_rng (a_0); have e0 := k_0; rw [Int32.lt_iff_toInt_lt, z1] at e0; obtain ⟨n_0, hn_0, s0⟩ := nd_add (x := (a_0)) (y := (1 : Int32)) (by (try rw [z0]); omega) (by (try rw [z0]); omega); rw [z0] at s0; rw [hn_0]; (try rw [z2]); omega)) v3_8 (at_le rw_8)) hm_8) (v3_8 + 1) _ (show ¬ ((v3_8 + 1) < 0) from by have e0 := iv0_8; rw [Int32.lt_iff_toInt_lt] at e0; have e1 := (at_le rw_8); rw [Int32.lt_iff_toInt_lt] at e1; have z0 : (0 : Int32).toInt = 0 := (by decide +kernel); have z1 : (1 : Int32).toInt = 1 := (by decide +kernel); have z2 : (39 : Int32).toInt = 39 := (by decide +kernel); have ss := fb_addI (x := v3_8) (y := 1) (by omega) (by omega); rw [Int32.lt_iff_toInt_lt]; omega) (at_next rw_8 po_4 po_5 iv0_8 e_9 c_10) (by exact ms_2 ((fun (a_0 : Int32) (k_0 : ¬ (39 < a_0)) => (show 1 ≤ (40 : Int32).toInt - (a_0).toInt ∧ (40 : Int32).toInt - ((a_0) + (1 : Int32)).toInt + 1 ≤ (40 : Int32).toInt - (a_0).toInt from by have z0 : (1 : Int32).toInt = 1 := (by decide +kernel); have z1 : (39 : Int32).toInt = 39 := (by decide +kernel); have z2 : (40 : Int32).toInt = 40 := (by decide +kernel); have r0 := fb_rng (a_0); have e0 := k_0; rw [Int32.lt_iff_toInt_lt, z1] at e0; obtain ⟨n_0, hn_0, s0⟩ := nd_add (x := (a_0)) (y := (1 : Int32)) (by (try rw [z0]); omega) (by (try rw [z0]); omega); rw [z0] at s0; rw [hn_0]; (try rw [z2]); omega)) v3_8 (at_le rw_8)) hm_8) (lv_sub hl [1, 2, 3, 0] rfl)
    exact cut_8 4294967296 (0 : Int32) _ (by decide +kernel) (at_start eqT eqS ra_7 (hO_0.i mqS (slot_arr (n := 12) rfl (vp_in_lt (hb_inl po_4 po_5 (by decide +kernel)))))) (by exact ms_0 _ _) (lv_sub hl [2, 3, 1, 0] rfl)
set_option maxHeartbeats 4000000 in
set_option maxRecDepth 100000 in
theorem c_Md_man_t (l : Launch) (dC : Nat → ClassId) (dI : Nat → Nat → Nat) (ct : Nat → ClassId) (L : List Nat) (f : TF) (hO_0 : Ok L f) (q0 : Nat) (m0 : q0 ∈ L ∧ tk f q0 = 27) (p_0 : Int32) (p_1 : Int32)   : Met l y_Md_man (.code y_Md_man b_Md_man 3 (some .int) :: TB) ({ frames := 2, cells := 0, slots := 0, locals := 46 }) (va_Pc [.ref q0, .int p_0, .int p_1] (PR dC dI (TW ct L f) (TT ct))) (vp_Si (fun r => True)) 0 0 (fun _ => False) := by
  refine Met.ofW (cc := b_Md_man) (maxL := 3) (ret := (some .int)) (by decide) rfl ?_
  intro p e s m args below meth c s₁ B hml hv
  obtain ⟨rfl, hP, hK, hN⟩ := hv
  have hx := B.exec
  have hb := B.bytes
  have hr := B.returns
  have hts := atoms_spec (ws := (.code y_Md_man b_Md_man 3 (some .int) :: TB)) B.pre
  have htb := fun w (h : w ∈ TB) => hts w (List.mem_cons_of_mem _ h)
  have hown : s.vm.findClass R_Md = some m.cls := findClass_of_methodNamed B.named
  have hlocks := B.notSynchronized
  have hl := lv_entry ([.ref q0, .int p_0, .int p_1]) (n := 3) (Nat.le_of_ble_eq_true rfl)
  rw [lg_entry_eq]
  generalize (lg_sl ([.ref q0, .int p_0, .int p_1]) ++ List.replicate (3 - (lg_sl ([.ref q0, .int p_0, .int p_1])).length) Slot.unset).toArray = ls at hl ⊢
  have hl : lv_has ls 3 [(0, .ref q0), (1, .int p_0), (2, .int p_1)] := hl
  refine lv_iload_n hx hb d_Md_man_0 rfl (lv_at hl 1 rfl) ?_
  refine vp_callSi (va_Run.run (va_runS (As := [.int p_0]) (rest := []) ⟨hx, hb, hml, hown, htb⟩ (c_Md_isMan l p_0) (cwS 1 htb (gd_S tw_93 tw_94 tw_89 tw_92) rfl rfl rfl (by decide +kernel) ⟨Nat.le_of_ble_eq_true rfl, Nat.le_of_ble_eq_true rfl⟩) ⟨fun _ _ _ _ h => h, fun U _ _ => ⟨rfl, trivial⟩⟩ rfl rfl hl.1 rfl (lv_room (Nat.le_of_ble_eq_true rfl)) d_Md_man_1 ⟨Nat.le_of_ble_eq_true rfl, Nat.le_of_ble_eq_true rfl⟩)) (fun r er => ?_)
  subst er
  by_cases c_2 : p_0 < 0
  · refine hb_ti 0 (by unfold f_Md_isMan; rw [if_pos c_2]; first | done | rfl) ?_
    refine lv_if_ne (tgt := 10) hx hb d_Md_man_4 (by decide) (fun h => absurd (by decide +kernel) h) (fun _ => ?_)
    refine lv_bipush (v := (-2)) hx hb d_Md_man_7 (by decide +kernel) ?_
    exact W.iret (v := (-2)) hx hb hr (fun t ht hW => ⟨(-2), rfl, trivial, ht⟩) t_nil d_Md_man_9
  · by_cases c_3 : 39 < p_0
    · refine hb_ti 0 (by unfold f_Md_isMan; rw [if_neg c_2, if_pos c_3]; first | done | rfl) ?_
      refine lv_if_ne (tgt := 10) hx hb d_Md_man_4 (by decide) (fun h => absurd (by decide +kernel) h) (fun _ => ?_)
      refine lv_bipush (v := (-2)) hx hb d_Md_man_7 (by decide +kernel) ?_
      exact W.iret (v := (-2)) hx hb hr (fun t ht hW => ⟨(-2), rfl, trivial, ht⟩) t_nil d_Md_man_9
    · refine hb_ti 1 (by unfold f_Md_isMan; rw [if_neg c_2, if_neg c_3]; first | done | rfl) ?_
      refine lv_if_ne (tgt := 10) hx hb d_Md_man_4 (by decide) (fun _ => ?_) (fun h => absurd h (by decide +kernel))
      refine lv_iload_n hx hb d_Md_man_10 rfl (lv_at hl 2 rfl) ?_
      by_cases c_4 : p_1 = 0
      · refine lv_tableIn (off := 41) (tgt := 52) hx hb d_Md_man_11 (by rw [c_4]; decide +kernel) (by rw [c_4]; decide +kernel) (by rw [c_4]; decide +kernel) (by decide) ?_
        refine lv_aload_n hx hb d_Md_man_52 rfl (lv_at hl 0 rfl) ?_
        refine tw_getr (D := (dC, dI)) (C := R_Md) (T := F_Md) (N := 64) (ci := 7) (kd := 27) (ct := ct) hx hb htb i_Md hown hK hP hO_0 m0 rfl rfl 9 (by decide) (htb (.fieldLink R_Md 58 "WaterMenModel" "state" "[I") tw_95) (fun _ h9 => h9) rfl d_Md_man_53 (fun q_5 e_5 m_5 => ?_)
        refine lv_iload_n hx hb d_Md_man_56 rfl (lv_at hl 1 rfl) ?_
        refine tw_aldI (ct := ct) hx hb hK hP hO_0 m_5 rfl (hb_inl c_2 c_3 (by decide +kernel)) d_Md_man_57 (fun x_6 e_6 b_6 => ?_)
        exact W.iret (v := x_6) hx hb hr (fun t ht hW => ⟨x_6, rfl, trivial, ht⟩) t_nil d_Md_man_58
      · by_cases c_7 : p_1 = 1
        · refine lv_tableIn (off := 48) (tgt := 59) hx hb d_Md_man_11 (by rw [c_7]; decide +kernel) (by rw [c_7]; decide +kernel) (by rw [c_7]; decide +kernel) (by decide) ?_
          refine lv_aload_n hx hb d_Md_man_59 rfl (lv_at hl 0 rfl) ?_
          refine tw_getr (D := (dC, dI)) (C := R_Md) (T := F_Md) (N := 64) (ci := 7) (kd := 27) (ct := ct) hx hb htb i_Md hown hK hP hO_0 m0 rfl rfl 10 (by decide) (htb (.fieldLink R_Md 61 "WaterMenModel" "master" "[I") tw_96) (fun _ h9 => h9) rfl d_Md_man_60 (fun q_8 e_8 m_8 => ?_)
          refine lv_iload_n hx hb d_Md_man_63 rfl (lv_at hl 1 rfl) ?_
          refine tw_aldI (ct := ct) hx hb hK hP hO_0 m_8 rfl (hb_inl c_2 c_3 (by decide +kernel)) d_Md_man_64 (fun x_9 e_9 b_9 => ?_)
          exact W.iret (v := x_9) hx hb hr (fun t ht hW => ⟨x_9, rfl, trivial, ht⟩) t_nil d_Md_man_65
        · by_cases c_10 : p_1 = 2
          · refine lv_tableIn (off := 55) (tgt := 66) hx hb d_Md_man_11 (by rw [c_10]; decide +kernel) (by rw [c_10]; decide +kernel) (by rw [c_10]; decide +kernel) (by decide) ?_
            refine lv_aload_n hx hb d_Md_man_66 rfl (lv_at hl 0 rfl) ?_
            refine lv_iload_n hx hb d_Md_man_67 rfl (lv_at hl 1 rfl) ?_
            refine vp_callSi (va_Run.run (va_runV (As := [.int p_0]) (rest := []) ⟨hx, hb, hml, hown, htb⟩ (c_Md_rowOf_t l dC dI ct L f hO_0 q0 m0 p_0) (cwV 1 htb (gd_V tw_101 tw_102 tw_103 tw_89 tw_100) rfl rfl rfl (by decide +kernel) ⟨Nat.le_of_ble_eq_true rfl, Nat.le_of_ble_eq_true rfl⟩) ⟨pr_blind, tw_recv hK hP m0 rfl rfl, pr_pre hP hK hN⟩ rfl rfl hl.1 rfl (lv_room (Nat.le_of_ble_eq_true rfl)) d_Md_man_68 ⟨Nat.le_of_ble_eq_true rfl, Nat.le_of_ble_eq_true rfl⟩)) (fun r_11 er_11 => ?_)
            rcases er_11 with ⟨rfl, ra_12, -⟩ | ⟨po_13, po_14, po_15, ra_16, -⟩
            · exact W.iret (v := (-1)) hx hb hr (fun t ht hW => ⟨(-1), rfl, trivial, ht⟩) t_nil d_Md_man_71
            · exact W.iret (v := r_11) hx hb hr (fun t ht hW => ⟨r_11, rfl, trivial, ht⟩) t_nil d_Md_man_71
          · by_cases c_17 : p_1 = 3
            · refine lv_tableIn (off := 61) (tgt := 72) hx hb d_Md_man_11 (by rw [c_17]; decide +kernel) (by rw [c_17]; decide +kernel) (by rw [c_17]; decide +kernel) (by decide) ?_
              refine lv_aload_n hx hb d_Md_man_72 rfl (lv_at hl 0 rfl) ?_
              refine lv_iload_n hx hb d_Md_man_73 rfl (lv_at hl 1 rfl) ?_
              refine vp_callSi (va_Run.run (va_runV (As := [.int p_0]) (rest := []) ⟨hx, hb, hml, hown, htb⟩ (c_Md_placeOf_t l dC dI ct L f hO_0 q0 m0 p_0) (cwV 1 htb (gd_V tw_105 tw_106 tw_107 tw_89 tw_104) rfl rfl rfl (by decide +kernel) ⟨Nat.le_of_ble_eq_true rfl, Nat.le_of_ble_eq_true rfl⟩) ⟨pr_blind, tw_recv hK hP m0 rfl rfl, pr_pre hP hK hN⟩ rfl rfl hl.1 rfl (lv_room (Nat.le_of_ble_eq_true rfl)) d_Md_man_74 ⟨Nat.le_of_ble_eq_true rfl, Nat.le_of_ble_eq_true rfl⟩)) (fun r_18 er_18 => ?_)
              rcases er_18 with ⟨rfl, ra_19, -⟩ | ⟨po_20, po_21, -⟩
              · exact W.iret (v := (-1)) hx hb hr (fun t ht hW => ⟨(-1), rfl, trivial, ht⟩) t_nil d_Md_man_77
              · exact W.iret (v := r_18) hx hb hr (fun t ht hW => ⟨r_18, rfl, trivial, ht⟩) t_nil d_Md_man_77
            · by_cases c_22 : p_1 = 4
              · refine lv_tableIn (off := 67) (tgt := 78) hx hb d_Md_man_11 (by rw [c_22]; decide +kernel) (by rw [c_22]; decide +kernel) (by rw [c_22]; decide +kernel) (by decide) ?_
                refine lv_aload_n hx hb d_Md_man_78 rfl (lv_at hl 0 rfl) ?_
                refine tw_getr (D := (dC, dI)) (C := R_Md) (T := F_Md) (N := 64) (ci := 7) (kd := 27) (ct := ct) hx hb htb i_Md hown hK hP hO_0 m0 rfl rfl 15 (by decide) (htb (.fieldLink R_Md 76 "WaterMenModel" "coins" "[I") tw_108) (fun _ h9 => h9) rfl d_Md_man_79 (fun q_23 e_23 m_23 => ?_)
                refine lv_iload_n hx hb d_Md_man_82 rfl (lv_at hl 1 rfl) ?_
                refine tw_aldI (ct := ct) hx hb hK hP hO_0 m_23 rfl (hb_inl c_2 c_3 (by decide +kernel)) d_Md_man_83 (fun x_24 e_24 b_24 => ?_)
                exact W.iret (v := x_24) hx hb hr (fun t ht hW => ⟨x_24, rfl, trivial, ht⟩) t_nil d_Md_man_84
              · by_cases c_25 : p_1 = 5
                · refine lv_tableIn (off := 74) (tgt := 85) hx hb d_Md_man_11 (by rw [c_25]; decide +kernel) (by rw [c_25]; decide +kernel) (by rw [c_25]; decide +kernel) (by decide) ?_
                  refine lv_aload_n hx hb d_Md_man_85 rfl (lv_at hl 0 rfl) ?_
                  refine tw_getr (D := (dC, dI)) (C := R_Md) (T := F_Md) (N := 64) (ci := 7) (kd := 27) (ct := ct) hx hb htb i_Md hown hK hP hO_0 m0 rfl rfl 16 (by decide) (htb (.fieldLink R_Md 79 "WaterMenModel" "wayOf" "[I") tw_109) (fun _ h9 => h9) rfl d_Md_man_86 (fun q_26 e_26 m_26 => ?_)
                  refine lv_iload_n hx hb d_Md_man_89 rfl (lv_at hl 1 rfl) ?_
                  refine tw_aldI (ct := ct) hx hb hK hP hO_0 m_26 rfl (hb_inl c_2 c_3 (by decide +kernel)) d_Md_man_90 (fun x_27 e_27 b_27 => ?_)
                  refine lv_if_lt (tgt := 98) hx hb d_Md_man_91 (by decide) (fun c_28 => ?_) (fun c_28 => ?_)
                  · refine lv_iconst (v := 0) hx hb d_Md_man_98 (by decide +kernel) ?_
                    exact W.iret (v := 0) hx hb hr (fun t ht hW => ⟨0, rfl, trivial, ht⟩) t_nil d_Md_man_99
                  · refine lv_iconst (v := 1) hx hb d_Md_man_94 (by decide +kernel) ?_
                    refine lv_goto (tgt := 99) hx hb d_Md_man_95 (by decide) ?_
                    exact W.iret (v := 1) hx hb hr (fun t ht hW => ⟨1, rfl, trivial, ht⟩) t_nil d_Md_man_99
                · by_cases c_29 : p_1 = 6
                  · refine lv_tableIn (off := 89) (tgt := 100) hx hb d_Md_man_11 (by rw [c_29]; decide +kernel) (by rw [c_29]; decide +kernel) (by rw [c_29]; decide +kernel) (by decide) ?_
                    refine lv_aload_n hx hb d_Md_man_100 rfl (lv_at hl 0 rfl) ?_
                    refine tw_getr (D := (dC, dI)) (C := R_Md) (T := F_Md) (N := 64) (ci := 7) (kd := 27) (ct := ct) hx hb htb i_Md hown hK hP hO_0 m0 rfl rfl 17 (by decide) (htb (.fieldLink R_Md 82 "WaterMenModel" "tripsOf" "[I") tw_110) (fun _ h9 => h9) rfl d_Md_man_101 (fun q_30 e_30 m_30 => ?_)
                    refine lv_iload_n hx hb d_Md_man_104 rfl (lv_at hl 1 rfl) ?_
                    refine tw_aldI (ct := ct) hx hb hK hP hO_0 m_30 rfl (hb_inl c_2 c_3 (by decide +kernel)) d_Md_man_105 (fun x_31 e_31 b_31 => ?_)
                    exact W.iret (v := x_31) hx hb hr (fun t ht hW => ⟨x_31, rfl, trivial, ht⟩) t_nil d_Md_man_106
                  · refine lv_tableOut (tgt := 107) hx hb d_Md_man_11 (by have h0 := lv_neT c_4 (show (0 : Int32).toInt = 0 by decide +kernel); have h1 := lv_neT c_7 (show (1 : Int32).toInt = 1 by decide +kernel); have h2 := lv_neT c_10 (show (2 : Int32).toInt = 2 by decide +kernel); have h3 := lv_neT c_17 (show (3 : Int32).toInt = 3 by decide +kernel); have h4 := lv_neT c_22 (show (4 : Int32).toInt = 4 by decide +kernel); have h5 := lv_neT c_25 (show (5 : Int32).toInt = 5 by decide +kernel); have h6 := lv_neT c_29 (show (6 : Int32).toInt = 6 by decide +kernel); omega) (by decide) ?_
                    refine lv_bipush (v := (-2)) hx hb d_Md_man_107 (by decide +kernel) ?_
                    exact W.iret (v := (-2)) hx hb hr (fun t ht hW => ⟨(-2), rfl, trivial, ht⟩) t_nil d_Md_man_109
set_option maxHeartbeats 4000000 in
set_option maxRecDepth 100000 in
theorem c_Md_today_t (l : Launch) (dC : Nat → ClassId) (dI : Nat → Nat → Nat) (ct : Nat → ClassId) (L : List Nat) (f : TF) (hO_0 : Ok L f) (q0 : Nat) (m0 : q0 ∈ L ∧ tk f q0 = 27)    : Met l y_Md_today (.code y_Md_today b_Md_today 1 (some .int) :: TB) ({ frames := 0, cells := 0, slots := 0, locals := 0 }) (va_Pc [.ref q0] (PR dC dI (TW ct L f) (TT ct))) (vp_Si (fun r => (¬ (r < 0) ∧ ¬ (499 < r) ∧ ¬ ((ti f q0 1) < (r * 720)) ∧ ¬ (((r * 720) + 719) < (ti f q0 1)) ∧ True))) 0 0 (fun _ => False) := by
  refine Met.ofW (cc := b_Md_today) (maxL := 1) (ret := (some .int)) (by decide) rfl ?_
  intro p e s m args below meth c s₁ B hml hv
  obtain ⟨rfl, hP, hK, hN⟩ := hv
  have hx := B.exec
  have hb := B.bytes
  have hr := B.returns
  have hts := atoms_spec (ws := (.code y_Md_today b_Md_today 1 (some .int) :: TB)) B.pre
  have htb := fun w (h : w ∈ TB) => hts w (List.mem_cons_of_mem _ h)
  have hown : s.vm.findClass R_Md = some m.cls := findClass_of_methodNamed B.named
  have hlocks := B.notSynchronized
  have hl := lv_entry ([.ref q0]) (n := 1) (Nat.le_of_ble_eq_true rfl)
  rw [lg_entry_eq]
  generalize (lg_sl ([.ref q0]) ++ List.replicate (1 - (lg_sl ([.ref q0])).length) Slot.unset).toArray = ls at hl ⊢
  have hl : lv_has ls 1 [(0, .ref q0)] := hl
  have bs_1 := hO_0.i m0 (show slotD 27 1 = some (.inl (0, 359999)) from rfl)
  refine lv_aload_n hx hb d_Md_today_0 rfl (lv_at hl 0 rfl) ?_
  refine tw_getI (x := (ti f q0 1)) (D := (dC, dI)) (C := R_Md) (T := F_Md) (N := 64) (ci := 7) (kd := 27) (ct := ct) hx hb htb i_Md hown hK hP m0 rfl rfl 1 rfl (by decide) (htb (.fieldLink R_Md 7 "WaterMenModel" "time" "I") tw_111) (fun _ h9 => h9) rfl d_Md_today_1 ?_
  refine lv_sipush (v := 720) hx hb d_Md_today_4 (by decide +kernel) ?_
  refine lv_idiv hx hb d_Md_today_7 (by decide) ?_
  refine hb_divn (U := 359999) (Qm := 499) (c := 720) (C1 := 719) (K := 2147482927) (by decide +kernel) (by decide +kernel) (by decide +kernel) bs_1.1 (show ¬ (2147482927 < (ti f q0 1)) from ((fun (a_0 : Int32) (k_0 : ¬ (359999 < a_0)) => (show ¬ (2147482927 < a_0) from by have z0 : (359999 : Int32).toInt = 359999 := (by decide +kernel); have z1 : (2147482927 : Int32).toInt = 2147482927 := (by decide +kernel); have r0 := fb_rng (a_0); have e0 := k_0; rw [Int32.lt_iff_toInt_lt, z0] at e0; rw [Int32.lt_iff_toInt_lt, z1]; omega)) (ti f q0 1) bs_1.2)) bs_1.2 (by decide +kernel) (fun y_2 g1_2 g2_2 g3_2 g4_2 g5_2 g9_2 => ?_)
  exact W.iret (v := y_2) hx hb hr (fun t ht hW => ⟨y_2, rfl, ⟨g1_2, g5_2, g3_2, g4_2, trivial⟩, ht⟩) t_nil d_Md_today_8
set_option maxHeartbeats 4000000 in
set_option maxRecDepth 100000 in
theorem c_Md_foretold_t (l : Launch) (dC : Nat → ClassId) (dI : Nat → Nat → Nat) (ct : Nat → ClassId) (L : List Nat) (f : TF) (hO_0 : Ok L f) (q0 : Nat) (m0 : q0 ∈ L ∧ tk f q0 = 27)    : Met l y_Md_foretold (.code y_Md_foretold b_Md_foretold 8 (some .int) :: TB) ({ frames := 1, cells := 0, slots := 0, locals := 20 }) (va_Pc [.ref q0] (PR dC dI (TW ct L f) (TT ct))) (vp_Si (fun r => True)) 0 0 (fun _ => False) := by
  refine Met.ofW (cc := b_Md_foretold) (maxL := 8) (ret := (some .int)) (by decide) rfl ?_
  intro p e s m args below meth c s₁ B hml hv
  obtain ⟨rfl, hP, hK, hN⟩ := hv
  have hx := B.exec
  have hb := B.bytes
  have hr := B.returns
  have hts := atoms_spec (ws := (.code y_Md_foretold b_Md_foretold 8 (some .int) :: TB)) B.pre
  have htb := fun w (h : w ∈ TB) => hts w (List.mem_cons_of_mem _ h)
  have hown : s.vm.findClass R_Md = some m.cls := findClass_of_methodNamed B.named
  have hlocks := B.notSynchronized
  have hl := lv_entry ([.ref q0]) (n := 8) (Nat.le_of_ble_eq_true rfl)
  rw [lg_entry_eq]
  generalize (lg_sl ([.ref q0]) ++ List.replicate (8 - (lg_sl ([.ref q0])).length) Slot.unset).toArray = ls at hl ⊢
  have hl : lv_has ls 8 [(0, .ref q0)] := hl
  refine lv_lconst (v := 0) hx hb d_Md_foretold_0 (by decide +kernel) ?_
  refine lv_lstore_n (lv' := [(1, .long 0), (0, .ref q0)]) hx hb d_Md_foretold_1 rfl hl (by decide) rfl (fun ls hl => ?_)
  refine lv_aload_n hx hb d_Md_foretold_2 rfl (lv_at hl 1 rfl) ?_
  refine vp_callSi (va_Run.run (va_runV (As := []) (rest := []) ⟨hx, hb, hml, hown, htb⟩ (c_Md_today_t l dC dI ct L f hO_0 q0 m0) (cwV 0 htb (gd_V tw_113 tw_114 tw_115 tw_89 tw_112) rfl rfl rfl (by decide +kernel) ⟨Nat.le_of_ble_eq_true rfl, Nat.le_of_ble_eq_true rfl⟩) ⟨pr_blind, tw_recv hK hP m0 rfl rfl, pr_pre hP hK hN⟩ rfl rfl hl.1 rfl (lv_room (Nat.le_of_ble_eq_true rfl)) d_Md_foretold_3 ⟨Nat.le_of_ble_eq_true rfl, Nat.le_of_ble_eq_true rfl⟩)) (fun r_1 er_1 => ?_)
  obtain ⟨po_2, po_3, po_4, po_5, -⟩ := er_1
  refine lv_bipush (v := 100) hx hb d_Md_foretold_6 (by decide +kernel) ?_
  refine lv_icmp_ge (tgt := 15) hx hb d_Md_foretold_8 (by decide) (fun c_6 => ?_) (fun c_6 => ?_)
  · refine lv_aload_n hx hb d_Md_foretold_15 rfl (lv_at hl 1 rfl) ?_
    refine vp_callSi (va_Run.run (va_runV (As := []) (rest := []) ⟨hx, hb, hml, hown, htb⟩ (c_Md_today_t l dC dI ct L f hO_0 q0 m0) (cwV 0 htb (gd_V tw_113 tw_114 tw_115 tw_89 tw_112) rfl rfl rfl (by decide +kernel) ⟨Nat.le_of_ble_eq_true rfl, Nat.le_of_ble_eq_true rfl⟩) ⟨pr_blind, tw_recv hK hP m0 rfl rfl, pr_pre hP hK hN⟩ rfl rfl hl.1 rfl (lv_room (Nat.le_of_ble_eq_true rfl)) d_Md_foretold_16 ⟨Nat.le_of_ble_eq_true rfl, Nat.le_of_ble_eq_true rfl⟩)) (fun r_7 er_7 => ?_)
    obtain ⟨po_8, po_9, po_10, po_11, -⟩ := er_7
    refine lv_bipush (v := 100) hx hb d_Md_foretold_19 (by decide +kernel) ?_
    refine lv_isub hx hb d_Md_foretold_21 ?_
    refine lv_istore_n (lv' := [(3, .int (r_7 - 100)), (1, .long 0), (0, .ref q0)]) hx hb d_Md_foretold_22 rfl hl (by decide) rfl (fun ls hl => ?_)
    have cut_12 : ∀ (n_12 : Nat) (v3_12 : Int32) (v1_12 : Int64) (ls : Array Slot), ¬ (v3_12 < 0) → ¬ (500 < v3_12) → (500 : Int32).toInt - (v3_12 : Int32).toInt ≤ (n_12 : Int) → lv_has ls 8 [(0, .ref q0), (1, .long v1_12), (3, .int v3_12)] → W p l e (headSpec (.code y_Md_foretold b_Md_foretold 8 (some .int) :: TB) ({ frames := 1, cells := 0, slots := 0, locals := 20 })).room s m [.ref q0].toArray below meth c s.heap [] 0 0 (MQ below (vp_Si (fun r => True)) [.ref q0].toArray s 0 0 (fun _ => False)) (F0 m 23 ls []) := by
      intro n_12
      induction n_12 using Nat.strongRecOn with
      | _ n_12 ih_12 =>
        intro v3_12 v1_12 ls iv0_12 iv1_12 hm_12 hl
        refine lv_iload_n hx hb d_Md_foretold_23 rfl (lv_at hl 2 rfl) ?_
        refine lv_aload_n hx hb d_Md_foretold_24 rfl (lv_at hl 0 rfl) ?_
        refine vp_callSi (va_Run.run (va_runV (As := []) (rest := [.int v3_12]) ⟨hx, hb, hml, hown, htb⟩ (c_Md_today_t l dC dI ct L f hO_0 q0 m0) (cwV 0 htb (gd_V tw_113 tw_114 tw_115 tw_89 tw_112) rfl rfl rfl (by decide +kernel) ⟨Nat.le_of_ble_eq_true rfl, Nat.le_of_ble_eq_true rfl⟩) ⟨pr_blind, tw_recv hK hP m0 rfl rfl, pr_pre hP hK hN⟩ rfl rfl hl.1 rfl (lv_room (Nat.le_of_ble_eq_true rfl)) d_Md_foretold_25 ⟨Nat.le_of_ble_eq_true rfl, Nat.le_of_ble_eq_true rfl⟩)) (fun r_13 er_13 => ?_)
        obtain ⟨po_14, po_15, po_16, po_17, -⟩ := er_13
        refine lv_icmp_gt (tgt := 46) hx hb d_Md_foretold_28 (by decide) (fun c_18 => ?_) (fun c_18 => ?_)
        · refine lv_aload_n hx hb d_Md_foretold_46 rfl (lv_at hl 0 rfl) ?_
          refine tw_getl (D := (dC, dI)) (C := R_Md) (T := F_Md) (N := 64) (ci := 7) (kd := 27) (ct := ct) hx hb htb i_Md hown hK hP m0 rfl rfl 56 (by decide) (htb (.fieldLink R_Md 316 "WaterMenModel" "box" "J") tw_116) (fun _ h9 => h9) rfl d_Md_foretold_47 (fun x_19 e_19 => ?_)
          refine lv_lstore_n (lv' := [(3, .long x_19), (0, .ref q0), (1, .long v1_12)]) hx hb d_Md_foretold_50 rfl hl (by decide) rfl (fun ls hl => ?_)
          refine lv_iconst (v := 1) hx hb d_Md_foretold_51 (by decide +kernel) ?_
          refine lv_istore (lv' := [(5, .int 1), (3, .long x_19), (0, .ref q0), (1, .long v1_12)]) hx hb d_Md_foretold_52 hl (by decide) rfl (fun ls hl => ?_)
          have cut_20 : ∀ (n_20 : Nat) (v5_20 : Int32) (v3_20 : Int64) (ls : Array Slot), ¬ (v5_20 < 1) → ¬ (41 < v5_20) → (41 : Int32).toInt - (v5_20 : Int32).toInt ≤ (n_20 : Int) → lv_has ls 8 [(0, .ref q0), (1, .long v1_12), (3, .long v3_20), (5, .int v5_20)] → W p l e (headSpec (.code y_Md_foretold b_Md_foretold 8 (some .int) :: TB) ({ frames := 1, cells := 0, slots := 0, locals := 20 })).room s m [.ref q0].toArray below meth c s.heap [] 0 0 (MQ below (vp_Si (fun r => True)) [.ref q0].toArray s 0 0 (fun _ => False)) (F0 m 54 ls []) := by
            intro n_20
            induction n_20 using Nat.strongRecOn with
            | _ n_20 ih_20 =>
              intro v5_20 v3_20 ls iv0_20 iv1_20 hm_20 hl
              refine lv_iload hx hb d_Md_foretold_54 (lv_at hl 3 rfl) ?_
              refine lv_bipush (v := 40) hx hb d_Md_foretold_56 (by decide +kernel) ?_
              refine lv_icmp_gt (tgt := 146) hx hb d_Md_foretold_58 (by decide) (fun c_21 => ?_) (fun c_21 => ?_)
              · refine lv_bipush (v := (-2)) hx hb d_Md_foretold_146 (by decide +kernel) ?_
                exact W.iret (v := (-2)) hx hb hr (fun t ht hW => ⟨(-2), rfl, trivial, ht⟩) t_nil d_Md_foretold_148
              · refine lv_aload_n hx hb d_Md_foretold_61 rfl (lv_at hl 0 rfl) ?_
                refine vp_callSi (va_Run.run (va_runV (As := []) (rest := []) ⟨hx, hb, hml, hown, htb⟩ (c_Md_today_t l dC dI ct L f hO_0 q0 m0) (cwV 0 htb (gd_V tw_113 tw_114 tw_115 tw_89 tw_112) rfl rfl rfl (by decide +kernel) ⟨Nat.le_of_ble_eq_true rfl, Nat.le_of_ble_eq_true rfl⟩) ⟨pr_blind, tw_recv hK hP m0 rfl rfl, pr_pre hP hK hN⟩ rfl rfl hl.1 rfl (lv_room (Nat.le_of_ble_eq_true rfl)) d_Md_foretold_62 ⟨Nat.le_of_ble_eq_true rfl, Nat.le_of_ble_eq_true rfl⟩)) (fun r_22 er_22 => ?_)
                obtain ⟨po_23, po_24, po_25, po_26, -⟩ := er_22
                refine lv_bipush (v := 100) hx hb d_Md_foretold_65 (by decide +kernel) ?_
                refine lv_idiv hx hb d_Md_foretold_67 (by decide) ?_
                refine hb_divn (U := 499) (Qm := 4) (c := 100) (C1 := 99) (K := 2147483547) (by decide +kernel) (by decide +kernel) (by decide +kernel) po_23 (show ¬ (2147483547 < r_22) from by have e0 := po_23; rw [Int32.lt_iff_toInt_lt] at e0; have e1 := po_24; rw [Int32.lt_iff_toInt_lt] at e1; have z0 : (0 : Int32).toInt = 0 := (by decide +kernel); have z1 : (499 : Int32).toInt = 499 := (by decide +kernel); have z2 : (2147483547 : Int32).toInt = 2147483547 := (by decide +kernel); rw [Int32.lt_iff_toInt_lt]; omega) po_24 (by decide +kernel) (fun y_27 g1_27 g2_27 g3_27 g4_27 g5_27 g9_27 => ?_)
                refine lv_iload hx hb d_Md_foretold_68 (lv_at hl 3 rfl) ?_
                refine lv_iadd hx hb d_Md_foretold_70 ?_
                refine lv_bipush (v := 100) hx hb d_Md_foretold_71 (by decide +kernel) ?_
                refine lv_imul hx hb d_Md_foretold_73 ?_
                refine lv_istore (lv' := [(6, .int ((y_27 + v5_20) * 100)), (0, .ref q0), (1, .long v1_12), (3, .long v3_20), (5, .int v5_20)]) hx hb d_Md_foretold_74 hl (by decide) rfl (fun ls hl => ?_)
                refine lv_lload_n hx hb d_Md_foretold_76 rfl (lv_at hl 3 rfl) ?_
                refine lv_lload_n hx hb d_Md_foretold_77 rfl (lv_at hl 2 rfl) ?_
                refine lv_ladd hx hb d_Md_foretold_78 ?_
                refine hb_anyl (fun y_28 => ?_)
                refine lv_lstore_n (lv' := [(3, .long y_28), (6, .int ((y_27 + v5_20) * 100)), (0, .ref q0), (1, .long v1_12), (5, .int v5_20)]) hx hb d_Md_foretold_79 rfl hl (by decide) rfl (fun ls hl => ?_)
                refine lv_iconst (v := 0) hx hb d_Md_foretold_80 (by decide +kernel) ?_
                refine lv_istore (lv' := [(7, .int 0), (3, .long y_28), (6, .int ((y_27 + v5_20) * 100)), (0, .ref q0), (1, .long v1_12), (5, .int v5_20)]) hx hb d_Md_foretold_81 hl (by decide) rfl (fun ls hl => ?_)
                have cut_29 : ∀ (n_29 : Nat) (v7_29 : Int32) (v3_29 : Int64) (ls : Array Slot), ¬ (v7_29 < 0) → ¬ (30 < v7_29) → (30 : Int32).toInt - (v7_29 : Int32).toInt ≤ (n_29 : Int) → lv_has ls 8 [(0, .ref q0), (1, .long v1_12), (3, .long v3_29), (5, .int v5_20), (6, .int ((y_27 + v5_20) * 100)), (7, .int v7_29)] → W p l e (headSpec (.code y_Md_foretold b_Md_foretold 8 (some .int) :: TB) ({ frames := 1, cells := 0, slots := 0, locals := 20 })).room s m [.ref q0].toArray below meth c s.heap [] 0 0 (MQ below (vp_Si (fun r => True)) [.ref q0].toArray s 0 0 (fun _ => False)) (F0 m 83 ls []) := by
                  intro n_29
                  induction n_29 using Nat.strongRecOn with
                  | _ n_29 ih_29 =>
                    intro v7_29 v3_29 ls iv0_29 iv1_29 hm_29 hl
                    refine lv_iload hx hb d_Md_foretold_83 (lv_at hl 5 rfl) ?_
                    refine lv_aload_n hx hb d_Md_foretold_85 rfl (lv_at hl 0 rfl) ?_
                    refine tw_geti (D := (dC, dI)) (C := R_Md) (T := F_Md) (N := 64) (ci := 7) (kd := 27) (ct := ct) hx hb htb i_Md hown hK hP hO_0 m0 rfl rfl 60 (by decide) (htb (.fieldLink R_Md 323 "WaterMenModel" "pensioners" "I") tw_117) (fun _ h9 => h9) rfl d_Md_foretold_86 (fun x_30 e_30 b_30 => ?_)
                    refine lv_icmp_ge (tgt := 140) hx hb d_Md_foretold_89 (by decide) (fun c_31 => ?_) (fun c_31 => ?_)
                    · refine lv_iinc (v := (v5_20 + 1)) (lv' := [(5, .int (v5_20 + 1)), (0, .ref q0), (1, .long v1_12), (3, .long v3_29), (6, .int ((y_27 + v5_20) * 100)), (7, .int v7_29)]) hx hb d_Md_foretold_140 hl (k := 3) rfl rfl (by decide) rfl (fun ls hl => ?_)
                      refine lv_goto (tgt := 54) hx hb d_Md_foretold_143 (by decide) ?_
                      exact ih_20 (n_20 - 1) (ms_1 ((fun (a_0 : Int32) (k_0 : ¬ (40 < a_0)) => (show 1 ≤ (41 : Int32).toInt - (a_0).toInt ∧ (41 : Int32).toInt - ((a_0) + (1 : Int32)).toInt + 1 ≤ (41 : Int32).toInt - (a_0).toInt from by have z0 : (1 : Int32).toInt = 1 := (by decide +kernel); have z1 : (40 : Int32).toInt = 40 := (by decide +kernel); have z2 : (41 : Int32).toInt = 41 := (by decide +kernel); have r0 := fb_rng (a_0); have e0 := k_0; rw [Int32.lt_iff_toInt_lt, z1] at e0; obtain ⟨n_0, hn_0, s0⟩ := nd_add (x := (a_0)) (y := (1 : Int32)) (by (try rw [z0]); omega) (by (try rw [z0]); omega); rw [z0] at s0; rw [hn_0]; (try rw [z2]); omega)) v5_20 c_21) hm_20) (v5_20 + 1) v3_29 _ (show ¬ ((v5_20 + 1) < 1) from by have e0 := iv0_20; rw [Int32.lt_iff_toInt_lt] at e0; have e1 := c_21; rw [Int32.lt_iff_toInt_lt] at e1; have z0 : (1 : Int32).toInt = 1 := (by decide +kernel); have z1 : (40 : Int32).toInt = 40 := (by decide +kernel); have ss := fb_addI (x := v5_20) (y := 1) (by omega) (by omega); rw [Int32.lt_iff_toInt_lt]; omega) (show ¬ (41 < (v5_20 + 1)) from by have e0 := iv0_20; rw [Int32.lt_iff_toInt_lt] at e0; have e1 := c_21; rw [Int32.lt_iff_toInt_lt] at e1; have z0 : (1 : Int32).toInt = 1 := (by decide +kernel); have z1 : (40 : Int32).toInt = 40 := (by decide +kernel); have z2 : (41 : Int32).toInt = 41 := (by decide +kernel); have ss := fb_addI (x := v5_20) (y := 1) (by omega) (by omega); rw [Int32.lt_iff_toInt_lt]; omega) (by exact ms_2 ((fun (a_0 : Int32) (k_0 : ¬ (40 < a_0)) => (show 1 ≤ (41 : Int32).toInt - (a_0).toInt ∧ (41 : Int32).toInt - ((a_0) + (1 : Int32)).toInt + 1 ≤ (41 : Int32).toInt - (a_0).toInt from by have z0 : (1 : Int32).toInt = 1 := (by decide +kernel); have z1 : (40 : Int32).toInt = 40 := (by decide +kernel); have z2 : (41 : Int32).toInt = 41 := (by decide +kernel); have r0 := fb_rng (a_0); have e0 := k_0; rw [Int32.lt_iff_toInt_lt, z1] at e0; obtain ⟨n_0, hn_0, s0⟩ := nd_add (x := (a_0)) (y := (1 : Int32)) (by (try rw [z0]); omega) (by (try rw [z0]); omega); rw [z0] at s0; rw [hn_0]; (try rw [z2]); omega)) v5_20 c_21) hm_20) (lv_sub hl [1, 2, 3, 0] rfl)
                    · refine lv_iload hx hb d_Md_foretold_92 (lv_at hl 4 rfl) ?_
                      refine lv_aload_n hx hb d_Md_foretold_94 rfl (lv_at hl 0 rfl) ?_
                      refine tw_getr (D := (dC, dI)) (C := R_Md) (T := F_Md) (N := 64) (ci := 7) (kd := 27) (ct := ct) hx hb htb i_Md hown hK hP hO_0 m0 rfl rfl 62 (by decide) (htb (.fieldLink R_Md 180 "WaterMenModel" "pensionEnd" "[I") tw_118) (fun _ h9 => h9) rfl d_Md_foretold_95 (fun q_32 e_32 m_32 => ?_)
                      refine lv_iload hx hb d_Md_foretold_98 (lv_at hl 5 rfl) ?_
                      refine tw_aldI (ct := ct) hx hb hK hP hO_0 m_32 rfl ((fun (a_0 : Int32) (a_1 : Int32) (k_0 : ¬ (a_0 < 0)) (k_1 : ¬ (a_1 ≤ a_0)) (k_2 : ¬ (30 < a_1)) => (show vp_in (a_0) 30 from by have z0 : (0 : Int32).toInt = 0 := (by decide +kernel); have z1 : (30 : Int32).toInt = 30 := (by decide +kernel); have r0 := fb_rng (a_0); have r1 := fb_rng (a_1); have e0 := k_0; rw [Int32.lt_iff_toInt_lt, z0] at e0; have e1 := k_1; rw [Int32.le_iff_toInt_le] at e1; have e2 := k_2; rw [Int32.lt_iff_toInt_lt, z1] at e2; rw [vp_in_iff]; omega)) v7_29 x_30 iv0_29 c_31 b_30.2) d_Md_foretold_100 (fun x_33 e_33 b_33 => ?_)
                      refine lv_icmp_lt (tgt := 107) hx hb d_Md_foretold_101 (by decide) (fun c_34 => ?_) (fun c_34 => ?_)
                      · refine lv_lload_n hx hb d_Md_foretold_107 rfl (lv_at hl 2 rfl) ?_
                        refine lv_aload_n hx hb d_Md_foretold_108 rfl (lv_at hl 0 rfl) ?_
                        refine tw_getr (D := (dC, dI)) (C := R_Md) (T := F_Md) (N := 64) (ci := 7) (kd := 27) (ct := ct) hx hb htb i_Md hown hK hP hO_0 m0 rfl rfl 61 (by decide) (htb (.fieldLink R_Md 177 "WaterMenModel" "pensionOf" "[I") tw_119) (fun _ h9 => h9) rfl d_Md_foretold_109 (fun q_35 e_35 m_35 => ?_)
                        refine lv_iload hx hb d_Md_foretold_112 (lv_at hl 5 rfl) ?_
                        refine tw_aldI (ct := ct) hx hb hK hP hO_0 m_35 rfl ((fun (a_0 : Int32) (a_1 : Int32) (k_0 : ¬ (a_0 < 0)) (k_1 : ¬ (a_1 ≤ a_0)) (k_2 : ¬ (30 < a_1)) => (show vp_in (a_0) 30 from by have z0 : (0 : Int32).toInt = 0 := (by decide +kernel); have z1 : (30 : Int32).toInt = 30 := (by decide +kernel); have r0 := fb_rng (a_0); have r1 := fb_rng (a_1); have e0 := k_0; rw [Int32.lt_iff_toInt_lt, z0] at e0; have e1 := k_1; rw [Int32.le_iff_toInt_le] at e1; have e2 := k_2; rw [Int32.lt_iff_toInt_lt, z1] at e2; rw [vp_in_iff]; omega)) v7_29 x_30 iv0_29 c_31 b_30.2) d_Md_foretold_114 (fun x_36 e_36 b_36 => ?_)
                        refine lv_i2l hx hb d_Md_foretold_115 rfl ?_
                        refine W.lcmp hx hb d_Md_foretold_116 ?_
                        refine hb_anyi (fun y_37 => ?_)
                        refine lv_if_ge (tgt := 123) hx hb d_Md_foretold_117 (by decide) (fun c_38 => ?_) (fun c_38 => ?_)
                        · refine lv_lload_n hx hb d_Md_foretold_123 rfl (lv_at hl 2 rfl) ?_
                          refine lv_aload_n hx hb d_Md_foretold_124 rfl (lv_at hl 0 rfl) ?_
                          refine tw_getR (D := (dC, dI)) (C := R_Md) (T := F_Md) (N := 64) (ci := 7) (kd := 27) (ct := ct) hx hb htb i_Md hown hK hP m0 rfl rfl 61 e_35 (by decide) (htb (.fieldLink R_Md 177 "WaterMenModel" "pensionOf" "[I") tw_119) (fun _ h9 => h9) rfl d_Md_foretold_125 ?_
                          refine hb_tv (.ref q_35) rfl ?_
                          refine lv_iload hx hb d_Md_foretold_128 (lv_at hl 5 rfl) ?_
                          refine tw_aldxI (ct := ct) (x := x_36) hx hb hK hP m_35 rfl ((fun (a_0 : Int32) (a_1 : Int32) (k_0 : ¬ (a_0 < 0)) (k_1 : ¬ (a_1 ≤ a_0)) (k_2 : ¬ (30 < a_1)) => (show vp_in (a_0) 30 from by have z0 : (0 : Int32).toInt = 0 := (by decide +kernel); have z1 : (30 : Int32).toInt = 30 := (by decide +kernel); have r0 := fb_rng (a_0); have r1 := fb_rng (a_1); have e0 := k_0; rw [Int32.lt_iff_toInt_lt, z0] at e0; have e1 := k_1; rw [Int32.le_iff_toInt_le] at e1; have e2 := k_2; rw [Int32.lt_iff_toInt_lt, z1] at e2; rw [vp_in_iff]; omega)) v7_29 x_30 iv0_29 c_31 b_30.2) e_36 d_Md_foretold_130 ?_
                          refine lv_i2l hx hb d_Md_foretold_131 rfl ?_
                          refine lv_lsub hx hb d_Md_foretold_132 ?_
                          refine hb_anyl (fun y_40 => ?_)
                          refine lv_lstore_n (lv' := [(3, .long y_40), (0, .ref q0), (1, .long v1_12), (5, .int v5_20), (6, .int ((y_27 + v5_20) * 100)), (7, .int v7_29)]) hx hb d_Md_foretold_133 rfl hl (by decide) rfl (fun ls hl => ?_)
                          refine lv_iinc (v := (v7_29 + 1)) (lv' := [(7, .int (v7_29 + 1)), (3, .long y_40), (0, .ref q0), (1, .long v1_12), (5, .int v5_20), (6, .int ((y_27 + v5_20) * 100))]) hx hb d_Md_foretold_134 hl (k := 5) rfl rfl (by decide) rfl (fun ls hl => ?_)
                          refine lv_goto (tgt := 83) hx hb d_Md_foretold_137 (by decide) ?_
                          exact ih_29 (n_29 - 1) (ms_1 ((fun (a_0 : Int32) (a_1 : Int32) (k_0 : ¬ (a_1 ≤ a_0)) (k_1 : ¬ (30 < a_1)) => (show 1 ≤ (30 : Int32).toInt - (a_0).toInt ∧ (30 : Int32).toInt - ((a_0) + (1 : Int32)).toInt + 1 ≤ (30 : Int32).toInt - (a_0).toInt from by have z0 : (1 : Int32).toInt = 1 := (by decide +kernel); have z1 : (30 : Int32).toInt = 30 := (by decide +kernel); have r0 := fb_rng (a_0); have r1 := fb_rng (a_1); have e0 := k_0; rw [Int32.le_iff_toInt_le] at e0; have e1 := k_1; rw [Int32.lt_iff_toInt_lt, z1] at e1; obtain ⟨n_0, hn_0, s0⟩ := nd_add (x := (a_0)) (y := (1 : Int32)) (by (try rw [z0]); omega) (by (try rw [z0]); omega); rw [z0] at s0; rw [hn_0]; (try rw [z1]); omega)) v7_29 x_30 c_31 b_30.2) hm_29) (v7_29 + 1) y_40 _ (show ¬ ((v7_29 + 1) < 0) from by have e0 := iv0_29; rw [Int32.lt_iff_toInt_lt] at e0; have e1 := iv1_29; rw [Int32.lt_iff_toInt_lt] at e1; have z0 : (0 : Int32).toInt = 0 := (by decide +kernel); have z1 : (1 : Int32).toInt = 1 := (by decide +kernel); have z2 : (30 : Int32).toInt = 30 := (by decide +kernel); have ss := fb_addI (x := v7_29) (y := 1) (by omega) (by omega); rw [Int32.lt_iff_toInt_lt]; omega) (show ¬ (30 < (v7_29 + 1)) from ((fun (a_0 : Int32) (a_1 : Int32) (k_0 : ¬ (a_1 ≤ a_0)) (k_1 : ¬ (30 < a_1)) => (show ¬ (30 < (a_0 + 1)) from by have z0 : (1 : Int32).toInt = 1 := (by decide +kernel); have z1 : (30 : Int32).toInt = 30 := (by decide +kernel); have r0 := fb_rng (a_0); have r1 := fb_rng (a_1); have e0 := k_0; rw [Int32.le_iff_toInt_le] at e0; have e1 := k_1; rw [Int32.lt_iff_toInt_lt, z1] at e1; obtain ⟨n_0, hn_0, s0⟩ := nd_add (x := (a_0)) (y := (1 : Int32)) (by (try rw [z0]); omega) (by (try rw [z0]); omega); rw [z0] at s0; rw [hn_0, Int32.lt_iff_toInt_lt, z1]; omega)) v7_29 x_30 c_31 b_30.2)) (by exact ms_2 ((fun (a_0 : Int32) (a_1 : Int32) (k_0 : ¬ (a_1 ≤ a_0)) (k_1 : ¬ (30 < a_1)) => (show 1 ≤ (30 : Int32).toInt - (a_0).toInt ∧ (30 : Int32).toInt - ((a_0) + (1 : Int32)).toInt + 1 ≤ (30 : Int32).toInt - (a_0).toInt from by have z0 : (1 : Int32).toInt = 1 := (by decide +kernel); have z1 : (30 : Int32).toInt = 30 := (by decide +kernel); have r0 := fb_rng (a_0); have r1 := fb_rng (a_1); have e0 := k_0; rw [Int32.le_iff_toInt_le] at e0; have e1 := k_1; rw [Int32.lt_iff_toInt_lt, z1] at e1; obtain ⟨n_0, hn_0, s0⟩ := nd_add (x := (a_0)) (y := (1 : Int32)) (by (try rw [z0]); omega) (by (try rw [z0]); omega); rw [z0] at s0; rw [hn_0]; (try rw [z1]); omega)) v7_29 x_30 c_31 b_30.2) hm_29) (lv_sub hl [2, 3, 1, 4, 5, 0] rfl)
                        · refine lv_iload hx hb d_Md_foretold_120 (lv_at hl 4 rfl) ?_
                          exact W.iret (v := ((y_27 + v5_20) * 100)) hx hb hr (fun t ht hW => ⟨((y_27 + v5_20) * 100), rfl, trivial, ht⟩) t_nil d_Md_foretold_122
                      · refine lv_goto (tgt := 134) hx hb d_Md_foretold_104 (by decide) ?_
                        refine lv_iinc (v := (v7_29 + 1)) (lv' := [(7, .int (v7_29 + 1)), (0, .ref q0), (1, .long v1_12), (3, .long v3_29), (5, .int v5_20), (6, .int ((y_27 + v5_20) * 100))]) hx hb d_Md_foretold_134 hl (k := 5) rfl rfl (by decide) rfl (fun ls hl => ?_)
                        refine lv_goto (tgt := 83) hx hb d_Md_foretold_137 (by decide) ?_
                        exact ih_29 (n_29 - 1) (ms_1 ((fun (a_0 : Int32) (a_1 : Int32) (k_0 : ¬ (a_1 ≤ a_0)) (k_1 : ¬ (30 < a_1)) => (show 1 ≤ (30 : Int32).toInt - (a_0).toInt ∧ (30 : Int32).toInt - ((a_0) + (1 : Int32)).toInt + 1 ≤ (30 : Int32).toInt - (a_0).toInt from by have z0 : (1 : Int32).toInt = 1 := (by decide +kernel); have z1 : (30 : Int32).toInt = 30 := (by decide +kernel); have r0 := fb_rng (a_0); have r1 := fb_rng (a_1); have e0 := k_0; rw [Int32.le_iff_toInt_le] at e0; have e1 := k_1; rw [Int32.lt_iff_toInt_lt, z1] at e1; obtain ⟨n_0, hn_0, s0⟩ := nd_add (x := (a_0)) (y := (1 : Int32)) (by (try rw [z0]); omega) (by (try rw [z0]); omega); rw [z0] at s0; rw [hn_0]; (try rw [z1]); omega)) v7_29 x_30 c_31 b_30.2) hm_29) (v7_29 + 1) v3_29 _ (show ¬ ((v7_29 + 1) < 0) from by have e0 := iv0_29; rw [Int32.lt_iff_toInt_lt] at e0; have e1 := iv1_29; rw [Int32.lt_iff_toInt_lt] at e1; have z0 : (0 : Int32).toInt = 0 := (by decide +kernel); have z1 : (1 : Int32).toInt = 1 := (by decide +kernel); have z2 : (30 : Int32).toInt = 30 := (by decide +kernel); have ss := fb_addI (x := v7_29) (y := 1) (by omega) (by omega); rw [Int32.lt_iff_toInt_lt]; omega) (show ¬ (30 < (v7_29 + 1)) from ((fun (a_0 : Int32) (a_1 : Int32) (k_0 : ¬ (a_1 ≤ a_0)) (k_1 : ¬ (30 < a_1)) => (show ¬ (30 < (a_0 + 1)) from by have z0 : (1 : Int32).toInt = 1 := (by decide +kernel); have z1 : (30 : Int32).toInt = 30 := (by decide +kernel); have r0 := fb_rng (a_0); have r1 := fb_rng (a_1); have e0 := k_0; rw [Int32.le_iff_toInt_le] at e0; have e1 := k_1; rw [Int32.lt_iff_toInt_lt, z1] at e1; obtain ⟨n_0, hn_0, s0⟩ := nd_add (x := (a_0)) (y := (1 : Int32)) (by (try rw [z0]); omega) (by (try rw [z0]); omega); rw [z0] at s0; rw [hn_0, Int32.lt_iff_toInt_lt, z1]; omega)) v7_29 x_30 c_31 b_30.2)) (by exact ms_2 ((fun (a_0 : Int32) (a_1 : Int32) (k_0 : ¬ (a_1 ≤ a_0)) (k_1 : ¬ (30 < a_1)) => (show 1 ≤ (30 : Int32).toInt - (a_0).toInt ∧ (30 : Int32).toInt - ((a_0) + (1 : Int32)).toInt + 1 ≤ (30 : Int32).toInt - (a_0).toInt from by have z0 : (1 : Int32).toInt = 1 := (by decide +kernel); have z1 : (30 : Int32).toInt = 30 := (by decide +kernel); have r0 := fb_rng (a_0); have r1 := fb_rng (a_1); have e0 := k_0; rw [Int32.le_iff_toInt_le] at e0; have e1 := k_1; rw [Int32.lt_iff_toInt_lt, z1] at e1; obtain ⟨n_0, hn_0, s0⟩ := nd_add (x := (a_0)) (y := (1 : Int32)) (by (try rw [z0]); omega) (by (try rw [z0]); omega); rw [z0] at s0; rw [hn_0]; (try rw [z1]); omega)) v7_29 x_30 c_31 b_30.2) hm_29) (lv_sub hl [1, 2, 3, 4, 5, 0] rfl)
                exact cut_29 4294967296 (0 : Int32) y_28 _ (by decide +kernel) (by decide +kernel) (by exact ms_0 _ _) (lv_sub hl [3, 4, 1, 5, 2, 0] rfl)
          exact cut_20 4294967296 (1 : Int32) x_19 _ (by decide +kernel) (by decide +kernel) (by exact ms_0 _ _) (lv_sub hl [2, 3, 1, 0] rfl)
        · refine lv_lload_n hx hb d_Md_foretold_31 rfl (lv_at hl 1 rfl) ?_
          refine lv_aload_n hx hb d_Md_foretold_32 rfl (lv_at hl 0 rfl) ?_
          refine tw_getr (D := (dC, dI)) (C := R_Md) (T := F_Md) (N := 64) (ci := 7) (kd := 27) (ct := ct) hx hb htb i_Md hown hK hP hO_0 m0 rfl rfl 59 (by decide) (htb (.fieldLink R_Md 173 "WaterMenModel" "boxIn" "[J") tw_120) (fun _ h9 => h9) rfl d_Md_foretold_33 (fun q_41 e_41 m_41 => ?_)
          refine lv_iload_n hx hb d_Md_foretold_36 rfl (lv_at hl 2 rfl) ?_
          refine tw_aldJ (ct := ct) hx hb hK hP m_41 rfl ((fun (a_0 : Int32) (a_1 : Int32) (k_0 : ¬ (a_1 < 0)) (k_1 : ¬ (a_0 < a_1)) (k_2 : ¬ (499 < a_0)) => (show vp_in (a_1) 500 from by have z0 : (0 : Int32).toInt = 0 := (by decide +kernel); have z1 : (499 : Int32).toInt = 499 := (by decide +kernel); have r0 := fb_rng (a_0); have r1 := fb_rng (a_1); have e0 := k_0; rw [Int32.lt_iff_toInt_lt, z0] at e0; have e1 := k_1; rw [Int32.lt_iff_toInt_lt] at e1; have e2 := k_2; rw [Int32.lt_iff_toInt_lt, z1] at e2; rw [vp_in_iff]; omega)) r_13 v3_12 iv0_12 c_18 po_15) d_Md_foretold_37 (fun x_42 e_42 => ?_)
          refine lv_ladd hx hb d_Md_foretold_38 ?_
          refine hb_anyl (fun y_43 => ?_)
          refine lv_lstore_n (lv' := [(1, .long y_43), (0, .ref q0), (3, .int v3_12)]) hx hb d_Md_foretold_39 rfl hl (by decide) rfl (fun ls hl => ?_)
          refine lv_iinc (v := (v3_12 + 1)) (lv' := [(3, .int (v3_12 + 1)), (1, .long y_43), (0, .ref q0)]) hx hb d_Md_foretold_40 hl (k := 2) rfl rfl (by decide) rfl (fun ls hl => ?_)
          refine lv_goto (tgt := 23) hx hb d_Md_foretold_43 (by decide) ?_
          exact ih_12 (n_12 - 1) (ms_1 ((fun (a_0 : Int32) (a_1 : Int32) (k_0 : ¬ (a_0 < a_1)) (k_1 : ¬ (499 < a_0)) => (show 1 ≤ (500 : Int32).toInt - (a_1).toInt ∧ (500 : Int32).toInt - ((a_1) + (1 : Int32)).toInt + 1 ≤ (500 : Int32).toInt - (a_1).toInt from by have z0 : (1 : Int32).toInt = 1 := (by decide +kernel); have z1 : (499 : Int32).toInt = 499 := (by decide +kernel); have z2 : (500 : Int32).toInt = 500 := (by decide +kernel); have r0 := fb_rng (a_0); have r1 := fb_rng (a_1); have e0 := k_0; rw [Int32.lt_iff_toInt_lt] at e0; have e1 := k_1; rw [Int32.lt_iff_toInt_lt, z1] at e1; obtain ⟨n_0, hn_0, s0⟩ := nd_add (x := (a_1)) (y := (1 : Int32)) (by (try rw [z0]); omega) (by (try rw [z0]); omega); rw [z0] at s0; rw [hn_0]; (try rw [z2]); omega)) r_13 v3_12 c_18 po_15) hm_12) (v3_12 + 1) y_43 _ (show ¬ ((v3_12 + 1) < 0) from by have e0 := iv0_12; rw [Int32.lt_iff_toInt_lt] at e0; have e1 := iv1_12; rw [Int32.lt_iff_toInt_lt] at e1; have z0 : (0 : Int32).toInt = 0 := (by decide +kernel); have z1 : (1 : Int32).toInt = 1 := (by decide +kernel); have z2 : (500 : Int32).toInt = 500 := (by decide +kernel); have ss := fb_addI (x := v3_12) (y := 1) (by omega) (by omega); rw [Int32.lt_iff_toInt_lt]; omega) (show ¬ (500 < (v3_12 + 1)) from ((fun (a_0 : Int32) (a_1 : Int32) (k_0 : ¬ (a_0 < a_1)) (k_1 : ¬ (499 < a_0)) => (show ¬ (500 < (a_1 + 1)) from by have z0 : (1 : Int32).toInt = 1 := (by decide +kernel); have z1 : (499 : Int32).toInt = 499 := (by decide +kernel); have z2 : (500 : Int32).toInt = 500 := (by decide +kernel); have r0 := fb_rng (a_0); have r1 := fb_rng (a_1); have e0 := k_0; rw [Int32.lt_iff_toInt_lt] at e0; have e1 := k_1; rw [Int32.lt_iff_toInt_lt, z1] at e1; obtain ⟨n_0, hn_0, s0⟩ := nd_add (x := (a_1)) (y := (1 : Int32)) (by (try rw [z0]); omega) (by (try rw [z0]); omega); rw [z0] at s0; rw [hn_0, Int32.lt_iff_toInt_lt, z2]; omega)) r_13 v3_12 c_18 po_15)) (by exact ms_2 ((fun (a_0 : Int32) (a_1 : Int32) (k_0 : ¬ (a_0 < a_1)) (k_1 : ¬ (499 < a_0)) => (show 1 ≤ (500 : Int32).toInt - (a_1).toInt ∧ (500 : Int32).toInt - ((a_1) + (1 : Int32)).toInt + 1 ≤ (500 : Int32).toInt - (a_1).toInt from by have z0 : (1 : Int32).toInt = 1 := (by decide +kernel); have z1 : (499 : Int32).toInt = 499 := (by decide +kernel); have z2 : (500 : Int32).toInt = 500 := (by decide +kernel); have r0 := fb_rng (a_0); have r1 := fb_rng (a_1); have e0 := k_0; rw [Int32.lt_iff_toInt_lt] at e0; have e1 := k_1; rw [Int32.lt_iff_toInt_lt, z1] at e1; obtain ⟨n_0, hn_0, s0⟩ := nd_add (x := (a_1)) (y := (1 : Int32)) (by (try rw [z0]); omega) (by (try rw [z0]); omega); rw [z0] at s0; rw [hn_0]; (try rw [z2]); omega)) r_13 v3_12 c_18 po_15) hm_12) (lv_sub hl [2, 1, 0] rfl)
    exact cut_12 4294967296 (r_7 - 100) 0 _ (show ¬ ((r_7 - 100) < 0) from ((fun (a_0 : Int32) (a_1 : Int32) (a_2 : Int32) (k_0 : ¬ (a_1 < 0)) (k_1 : ¬ (499 < a_1)) (k_2 : ¬ (((a_1 * 720) + 719) < a_2)) (k_3 : 100 ≤ a_0) (k_4 : ¬ (499 < a_0)) (k_5 : ¬ (a_2 < (a_0 * 720))) => (show ¬ ((a_1 - 100) < 0) from by have z0 : (0 : Int32).toInt = 0 := (by decide +kernel); have z1 : (100 : Int32).toInt = 100 := (by decide +kernel); have z2 : (499 : Int32).toInt = 499 := (by decide +kernel); have z3 : (719 : Int32).toInt = 719 := (by decide +kernel); have z4 : (720 : Int32).toInt = 720 := (by decide +kernel); have r0 := fb_rng (a_0); have r1 := fb_rng (a_1); have r2 := fb_rng (a_2); have e0 := k_0; rw [Int32.lt_iff_toInt_lt, z0] at e0; have e1 := k_1; rw [Int32.lt_iff_toInt_lt, z2] at e1; obtain ⟨n_0, hn_0, s0⟩ := nd_mul (x := (a_1)) (y := (720 : Int32)) (by (try rw [z4]); omega) (by (try rw [z4]); omega); rw [z4] at s0; obtain ⟨n_1, hn_1, s1⟩ := nd_add (x := n_0) (y := (719 : Int32)) (by (try rw [z3]); omega) (by (try rw [z3]); omega); rw [z3] at s1; have e2 := k_2; rw [hn_0, hn_1, Int32.lt_iff_toInt_lt] at e2; have e3 := k_3; rw [Int32.le_iff_toInt_le, z1] at e3; have e4 := k_4; rw [Int32.lt_iff_toInt_lt, z2] at e4; obtain ⟨n_2, hn_2, s2⟩ := nd_mul (x := (a_0)) (y := (720 : Int32)) (by (try rw [z4]); omega) (by (try rw [z4]); omega); rw [z4] at s2; have e5 := k_5; rw [hn_2, Int32.lt_iff_toInt_lt] at e5; obtain ⟨n_3, hn_3, s3⟩ := nd_sub (x := (a_1)) (y := (100 : Int32)) (by (try rw [z1]); omega) (by (try rw [z1]); omega); rw [z1] at s3; rw [hn_3, Int32.lt_iff_toInt_lt, z0]; omega)) r_1 r_7 (ti f q0 1) po_8 po_9 po_11 c_6 po_3 po_4)) (show ¬ (500 < (r_7 - 100)) from by have e0 := po_8; rw [Int32.lt_iff_toInt_lt] at e0; have e1 := po_9; rw [Int32.lt_iff_toInt_lt] at e1; have z0 : (0 : Int32).toInt = 0 := (by decide +kernel); have z1 : (100 : Int32).toInt = 100 := (by decide +kernel); have z2 : (499 : Int32).toInt = 499 := (by decide +kernel); have z3 : (500 : Int32).toInt = 500 := (by decide +kernel); have ss := fb_subI (x := r_7) (y := 100) (by omega) (by omega); rw [Int32.lt_iff_toInt_lt]; omega) (by exact ms_0 _ _) (lv_sub hl [2, 1, 0] rfl)
  · refine lv_iconst (v := 0) hx hb d_Md_foretold_11 (by decide +kernel) ?_
    refine lv_goto (tgt := 22) hx hb d_Md_foretold_12 (by decide) ?_
    refine lv_istore_n (lv' := [(3, .int 0), (1, .long 0), (0, .ref q0)]) hx hb d_Md_foretold_22 rfl hl (by decide) rfl (fun ls hl => ?_)
    have cut_44 : ∀ (n_44 : Nat) (v3_44 : Int32) (v1_44 : Int64) (ls : Array Slot), ¬ (v3_44 < 0) → ¬ (500 < v3_44) → (500 : Int32).toInt - (v3_44 : Int32).toInt ≤ (n_44 : Int) → lv_has ls 8 [(0, .ref q0), (1, .long v1_44), (3, .int v3_44)] → W p l e (headSpec (.code y_Md_foretold b_Md_foretold 8 (some .int) :: TB) ({ frames := 1, cells := 0, slots := 0, locals := 20 })).room s m [.ref q0].toArray below meth c s.heap [] 0 0 (MQ below (vp_Si (fun r => True)) [.ref q0].toArray s 0 0 (fun _ => False)) (F0 m 23 ls []) := by
      intro n_44
      induction n_44 using Nat.strongRecOn with
      | _ n_44 ih_44 =>
        intro v3_44 v1_44 ls iv0_44 iv1_44 hm_44 hl
        refine lv_iload_n hx hb d_Md_foretold_23 rfl (lv_at hl 2 rfl) ?_
        refine lv_aload_n hx hb d_Md_foretold_24 rfl (lv_at hl 0 rfl) ?_
        refine vp_callSi (va_Run.run (va_runV (As := []) (rest := [.int v3_44]) ⟨hx, hb, hml, hown, htb⟩ (c_Md_today_t l dC dI ct L f hO_0 q0 m0) (cwV 0 htb (gd_V tw_113 tw_114 tw_115 tw_89 tw_112) rfl rfl rfl (by decide +kernel) ⟨Nat.le_of_ble_eq_true rfl, Nat.le_of_ble_eq_true rfl⟩) ⟨pr_blind, tw_recv hK hP m0 rfl rfl, pr_pre hP hK hN⟩ rfl rfl hl.1 rfl (lv_room (Nat.le_of_ble_eq_true rfl)) d_Md_foretold_25 ⟨Nat.le_of_ble_eq_true rfl, Nat.le_of_ble_eq_true rfl⟩)) (fun r_45 er_45 => ?_)
        obtain ⟨po_46, po_47, po_48, po_49, -⟩ := er_45
        refine lv_icmp_gt (tgt := 46) hx hb d_Md_foretold_28 (by decide) (fun c_50 => ?_) (fun c_50 => ?_)
        · refine lv_aload_n hx hb d_Md_foretold_46 rfl (lv_at hl 0 rfl) ?_
          refine tw_getl (D := (dC, dI)) (C := R_Md) (T := F_Md) (N := 64) (ci := 7) (kd := 27) (ct := ct) hx hb htb i_Md hown hK hP m0 rfl rfl 56 (by decide) (htb (.fieldLink R_Md 316 "WaterMenModel" "box" "J") tw_116) (fun _ h9 => h9) rfl d_Md_foretold_47 (fun x_51 e_51 => ?_)
          refine lv_lstore_n (lv' := [(3, .long x_51), (0, .ref q0), (1, .long v1_44)]) hx hb d_Md_foretold_50 rfl hl (by decide) rfl (fun ls hl => ?_)
          refine lv_iconst (v := 1) hx hb d_Md_foretold_51 (by decide +kernel) ?_
          refine lv_istore (lv' := [(5, .int 1), (3, .long x_51), (0, .ref q0), (1, .long v1_44)]) hx hb d_Md_foretold_52 hl (by decide) rfl (fun ls hl => ?_)
          have cut_52 : ∀ (n_52 : Nat) (v5_52 : Int32) (v3_52 : Int64) (ls : Array Slot), ¬ (v5_52 < 1) → ¬ (41 < v5_52) → (41 : Int32).toInt - (v5_52 : Int32).toInt ≤ (n_52 : Int) → lv_has ls 8 [(0, .ref q0), (1, .long v1_44), (3, .long v3_52), (5, .int v5_52)] → W p l e (headSpec (.code y_Md_foretold b_Md_foretold 8 (some .int) :: TB) ({ frames := 1, cells := 0, slots := 0, locals := 20 })).room s m [.ref q0].toArray below meth c s.heap [] 0 0 (MQ below (vp_Si (fun r => True)) [.ref q0].toArray s 0 0 (fun _ => False)) (F0 m 54 ls []) := by
            intro n_52
            induction n_52 using Nat.strongRecOn with
            | _ n_52 ih_52 =>
              intro v5_52 v3_52 ls iv0_52 iv1_52 hm_52 hl
              refine lv_iload hx hb d_Md_foretold_54 (lv_at hl 3 rfl) ?_
              refine lv_bipush (v := 40) hx hb d_Md_foretold_56 (by decide +kernel) ?_
              refine lv_icmp_gt (tgt := 146) hx hb d_Md_foretold_58 (by decide) (fun c_53 => ?_) (fun c_53 => ?_)
              · refine lv_bipush (v := (-2)) hx hb d_Md_foretold_146 (by decide +kernel) ?_
                exact W.iret (v := (-2)) hx hb hr (fun t ht hW => ⟨(-2), rfl, trivial, ht⟩) t_nil d_Md_foretold_148
              · refine lv_aload_n hx hb d_Md_foretold_61 rfl (lv_at hl 0 rfl) ?_
                refine vp_callSi (va_Run.run (va_runV (As := []) (rest := []) ⟨hx, hb, hml, hown, htb⟩ (c_Md_today_t l dC dI ct L f hO_0 q0 m0) (cwV 0 htb (gd_V tw_113 tw_114 tw_115 tw_89 tw_112) rfl rfl rfl (by decide +kernel) ⟨Nat.le_of_ble_eq_true rfl, Nat.le_of_ble_eq_true rfl⟩) ⟨pr_blind, tw_recv hK hP m0 rfl rfl, pr_pre hP hK hN⟩ rfl rfl hl.1 rfl (lv_room (Nat.le_of_ble_eq_true rfl)) d_Md_foretold_62 ⟨Nat.le_of_ble_eq_true rfl, Nat.le_of_ble_eq_true rfl⟩)) (fun r_54 er_54 => ?_)
                obtain ⟨po_55, po_56, po_57, po_58, -⟩ := er_54
                refine lv_bipush (v := 100) hx hb d_Md_foretold_65 (by decide +kernel) ?_
                refine lv_idiv hx hb d_Md_foretold_67 (by decide) ?_
                refine hb_divn (U := 99) (Qm := 0) (c := 100) (C1 := 99) (K := 2147483547) (by decide +kernel) (by decide +kernel) (by decide +kernel) po_55 (show ¬ (2147483547 < r_54) from by have e0 := po_55; rw [Int32.lt_iff_toInt_lt] at e0; have e1 := po_56; rw [Int32.lt_iff_toInt_lt] at e1; have z0 : (0 : Int32).toInt = 0 := (by decide +kernel); have z1 : (499 : Int32).toInt = 499 := (by decide +kernel); have z2 : (2147483547 : Int32).toInt = 2147483547 := (by decide +kernel); rw [Int32.lt_iff_toInt_lt]; omega) (show ¬ (99 < r_54) from ((fun (a_0 : Int32) (a_1 : Int32) (a_2 : Int32) (k_0 : ¬ (a_1 < 0)) (k_1 : ¬ (499 < a_1)) (k_2 : ¬ (a_2 < (a_1 * 720))) (k_3 : ¬ (100 ≤ a_0)) (k_4 : ¬ (a_0 < 0)) (k_5 : ¬ (((a_0 * 720) + 719) < a_2)) => (show ¬ (99 < a_1) from by have z0 : (0 : Int32).toInt = 0 := (by decide +kernel); have z1 : (99 : Int32).toInt = 99 := (by decide +kernel); have z2 : (100 : Int32).toInt = 100 := (by decide +kernel); have z3 : (499 : Int32).toInt = 499 := (by decide +kernel); have z4 : (719 : Int32).toInt = 719 := (by decide +kernel); have z5 : (720 : Int32).toInt = 720 := (by decide +kernel); have r0 := fb_rng (a_0); have r1 := fb_rng (a_1); have r2 := fb_rng (a_2); have e0 := k_0; rw [Int32.lt_iff_toInt_lt, z0] at e0; have e1 := k_1; rw [Int32.lt_iff_toInt_lt, z3] at e1; obtain ⟨n_0, hn_0, s0⟩ := nd_mul (x := (a_1)) (y := (720 : Int32)) (by (try rw [z5]); omega) (by (try rw [z5]); omega); rw [z5] at s0; have e2 := k_2; rw [hn_0, Int32.lt_iff_toInt_lt] at e2; have e3 := k_3; rw [Int32.le_iff_toInt_le, z2] at e3; have e4 := k_4; rw [Int32.lt_iff_toInt_lt, z0] at e4; obtain ⟨n_1, hn_1, s1⟩ := nd_mul (x := (a_0)) (y := (720 : Int32)) (by (try rw [z5]); omega) (by (try rw [z5]); omega); rw [z5] at s1; obtain ⟨n_2, hn_2, s2⟩ := nd_add (x := n_1) (y := (719 : Int32)) (by (try rw [z4]); omega) (by (try rw [z4]); omega); rw [z4] at s2; have e5 := k_5; rw [hn_1, hn_2, Int32.lt_iff_toInt_lt] at e5; rw [Int32.lt_iff_toInt_lt, z1]; omega)) r_1 r_54 (ti f q0 1) po_55 po_56 po_57 c_6 po_2 po_5)) (by decide +kernel) (fun y_59 g1_59 g2_59 g3_59 g4_59 g5_59 g9_59 => ?_)
                refine lv_iload hx hb d_Md_foretold_68 (lv_at hl 3 rfl) ?_
                refine lv_iadd hx hb d_Md_foretold_70 ?_
                refine lv_bipush (v := 100) hx hb d_Md_foretold_71 (by decide +kernel) ?_
                refine lv_imul hx hb d_Md_foretold_73 ?_
                refine lv_istore (lv' := [(6, .int ((y_59 + v5_52) * 100)), (0, .ref q0), (1, .long v1_44), (3, .long v3_52), (5, .int v5_52)]) hx hb d_Md_foretold_74 hl (by decide) rfl (fun ls hl => ?_)
                refine lv_lload_n hx hb d_Md_foretold_76 rfl (lv_at hl 3 rfl) ?_
                refine lv_lload_n hx hb d_Md_foretold_77 rfl (lv_at hl 2 rfl) ?_
                refine lv_ladd hx hb d_Md_foretold_78 ?_
                refine hb_anyl (fun y_60 => ?_)
                refine lv_lstore_n (lv' := [(3, .long y_60), (6, .int ((y_59 + v5_52) * 100)), (0, .ref q0), (1, .long v1_44), (5, .int v5_52)]) hx hb d_Md_foretold_79 rfl hl (by decide) rfl (fun ls hl => ?_)
                refine lv_iconst (v := 0) hx hb d_Md_foretold_80 (by decide +kernel) ?_
                refine lv_istore (lv' := [(7, .int 0), (3, .long y_60), (6, .int ((y_59 + v5_52) * 100)), (0, .ref q0), (1, .long v1_44), (5, .int v5_52)]) hx hb d_Md_foretold_81 hl (by decide) rfl (fun ls hl => ?_)
                have cut_61 : ∀ (n_61 : Nat) (v7_61 : Int32) (v3_61 : Int64) (ls : Array Slot), ¬ (v7_61 < 0) → ¬ (30 < v7_61) → (30 : Int32).toInt - (v7_61 : Int32).toInt ≤ (n_61 : Int) → lv_has ls 8 [(0, .ref q0), (1, .long v1_44), (3, .long v3_61), (5, .int v5_52), (6, .int ((y_59 + v5_52) * 100)), (7, .int v7_61)] → W p l e (headSpec (.code y_Md_foretold b_Md_foretold 8 (some .int) :: TB) ({ frames := 1, cells := 0, slots := 0, locals := 20 })).room s m [.ref q0].toArray below meth c s.heap [] 0 0 (MQ below (vp_Si (fun r => True)) [.ref q0].toArray s 0 0 (fun _ => False)) (F0 m 83 ls []) := by
                  intro n_61
                  induction n_61 using Nat.strongRecOn with
                  | _ n_61 ih_61 =>
                    intro v7_61 v3_61 ls iv0_61 iv1_61 hm_61 hl
                    refine lv_iload hx hb d_Md_foretold_83 (lv_at hl 5 rfl) ?_
                    refine lv_aload_n hx hb d_Md_foretold_85 rfl (lv_at hl 0 rfl) ?_
                    refine tw_geti (D := (dC, dI)) (C := R_Md) (T := F_Md) (N := 64) (ci := 7) (kd := 27) (ct := ct) hx hb htb i_Md hown hK hP hO_0 m0 rfl rfl 60 (by decide) (htb (.fieldLink R_Md 323 "WaterMenModel" "pensioners" "I") tw_117) (fun _ h9 => h9) rfl d_Md_foretold_86 (fun x_62 e_62 b_62 => ?_)
                    refine lv_icmp_ge (tgt := 140) hx hb d_Md_foretold_89 (by decide) (fun c_63 => ?_) (fun c_63 => ?_)
                    · refine lv_iinc (v := (v5_52 + 1)) (lv' := [(5, .int (v5_52 + 1)), (0, .ref q0), (1, .long v1_44), (3, .long v3_61), (6, .int ((y_59 + v5_52) * 100)), (7, .int v7_61)]) hx hb d_Md_foretold_140 hl (k := 3) rfl rfl (by decide) rfl (fun ls hl => ?_)
                      refine lv_goto (tgt := 54) hx hb d_Md_foretold_143 (by decide) ?_
                      exact ih_52 (n_52 - 1) (ms_1 ((fun (a_0 : Int32) (k_0 : ¬ (40 < a_0)) => (show 1 ≤ (41 : Int32).toInt - (a_0).toInt ∧ (41 : Int32).toInt - ((a_0) + (1 : Int32)).toInt + 1 ≤ (41 : Int32).toInt - (a_0).toInt from by have z0 : (1 : Int32).toInt = 1 := (by decide +kernel); have z1 : (40 : Int32).toInt = 40 := (by decide +kernel); have z2 : (41 : Int32).toInt = 41 := (by decide +kernel); have r0 := fb_rng (a_0); have e0 := k_0; rw [Int32.lt_iff_toInt_lt, z1] at e0; obtain ⟨n_0, hn_0, s0⟩ := nd_add (x := (a_0)) (y := (1 : Int32)) (by (try rw [z0]); omega) (by (try rw [z0]); omega); rw [z0] at s0; rw [hn_0]; (try rw [z2]); omega)) v5_52 c_53) hm_52) (v5_52 + 1) v3_61 _ (show ¬ ((v5_52 + 1) < 1) from by have e0 := iv0_52; rw [Int32.lt_iff_toInt_lt] at e0; have e1 := c_53; rw [Int32.lt_iff_toInt_lt] at e1; have z0 : (1 : Int32).toInt = 1 := (by decide +kernel); have z1 : (40 : Int32).toInt = 40 := (by decide +kernel); have ss := fb_addI (x := v5_52) (y := 1) (by omega) (by omega); rw [Int32.lt_iff_toInt_lt]; omega) (show ¬ (41 < (v5_52 + 1)) from by have e0 := iv0_52; rw [Int32.lt_iff_toInt_lt] at e0; have e1 := c_53; rw [Int32.lt_iff_toInt_lt] at e1; have z0 : (1 : Int32).toInt = 1 := (by decide +kernel); have z1 : (40 : Int32).toInt = 40 := (by decide +kernel); have z2 : (41 : Int32).toInt = 41 := (by decide +kernel); have ss := fb_addI (x := v5_52) (y := 1) (by omega) (by omega); rw [Int32.lt_iff_toInt_lt]; omega) (by exact ms_2 ((fun (a_0 : Int32) (k_0 : ¬ (40 < a_0)) => (show 1 ≤ (41 : Int32).toInt - (a_0).toInt ∧ (41 : Int32).toInt - ((a_0) + (1 : Int32)).toInt + 1 ≤ (41 : Int32).toInt - (a_0).toInt from by have z0 : (1 : Int32).toInt = 1 := (by decide +kernel); have z1 : (40 : Int32).toInt = 40 := (by decide +kernel); have z2 : (41 : Int32).toInt = 41 := (by decide +kernel); have r0 := fb_rng (a_0); have e0 := k_0; rw [Int32.lt_iff_toInt_lt, z1] at e0; obtain ⟨n_0, hn_0, s0⟩ := nd_add (x := (a_0)) (y := (1 : Int32)) (by (try rw [z0]); omega) (by (try rw [z0]); omega); rw [z0] at s0; rw [hn_0]; (try rw [z2]); omega)) v5_52 c_53) hm_52) (lv_sub hl [1, 2, 3, 0] rfl)
                    · refine lv_iload hx hb d_Md_foretold_92 (lv_at hl 4 rfl) ?_
                      refine lv_aload_n hx hb d_Md_foretold_94 rfl (lv_at hl 0 rfl) ?_
                      refine tw_getr (D := (dC, dI)) (C := R_Md) (T := F_Md) (N := 64) (ci := 7) (kd := 27) (ct := ct) hx hb htb i_Md hown hK hP hO_0 m0 rfl rfl 62 (by decide) (htb (.fieldLink R_Md 180 "WaterMenModel" "pensionEnd" "[I") tw_118) (fun _ h9 => h9) rfl d_Md_foretold_95 (fun q_64 e_64 m_64 => ?_)
                      refine lv_iload hx hb d_Md_foretold_98 (lv_at hl 5 rfl) ?_
                      refine tw_aldI (ct := ct) hx hb hK hP hO_0 m_64 rfl ((fun (a_0 : Int32) (a_1 : Int32) (k_0 : ¬ (a_0 < 0)) (k_1 : ¬ (a_1 ≤ a_0)) (k_2 : ¬ (30 < a_1)) => (show vp_in (a_0) 30 from by have z0 : (0 : Int32).toInt = 0 := (by decide +kernel); have z1 : (30 : Int32).toInt = 30 := (by decide +kernel); have r0 := fb_rng (a_0); have r1 := fb_rng (a_1); have e0 := k_0; rw [Int32.lt_iff_toInt_lt, z0] at e0; have e1 := k_1; rw [Int32.le_iff_toInt_le] at e1; have e2 := k_2; rw [Int32.lt_iff_toInt_lt, z1] at e2; rw [vp_in_iff]; omega)) v7_61 x_62 iv0_61 c_63 b_62.2) d_Md_foretold_100 (fun x_65 e_65 b_65 => ?_)
                      refine lv_icmp_lt (tgt := 107) hx hb d_Md_foretold_101 (by decide) (fun c_66 => ?_) (fun c_66 => ?_)
                      · refine lv_lload_n hx hb d_Md_foretold_107 rfl (lv_at hl 2 rfl) ?_
                        refine lv_aload_n hx hb d_Md_foretold_108 rfl (lv_at hl 0 rfl) ?_
                        refine tw_getr (D := (dC, dI)) (C := R_Md) (T := F_Md) (N := 64) (ci := 7) (kd := 27) (ct := ct) hx hb htb i_Md hown hK hP hO_0 m0 rfl rfl 61 (by decide) (htb (.fieldLink R_Md 177 "WaterMenModel" "pensionOf" "[I") tw_119) (fun _ h9 => h9) rfl d_Md_foretold_109 (fun q_67 e_67 m_67 => ?_)
                        refine lv_iload hx hb d_Md_foretold_112 (lv_at hl 5 rfl) ?_
                        refine tw_aldI (ct := ct) hx hb hK hP hO_0 m_67 rfl ((fun (a_0 : Int32) (a_1 : Int32) (k_0 : ¬ (a_0 < 0)) (k_1 : ¬ (a_1 ≤ a_0)) (k_2 : ¬ (30 < a_1)) => (show vp_in (a_0) 30 from by have z0 : (0 : Int32).toInt = 0 := (by decide +kernel); have z1 : (30 : Int32).toInt = 30 := (by decide +kernel); have r0 := fb_rng (a_0); have r1 := fb_rng (a_1); have e0 := k_0; rw [Int32.lt_iff_toInt_lt, z0] at e0; have e1 := k_1; rw [Int32.le_iff_toInt_le] at e1; have e2 := k_2; rw [Int32.lt_iff_toInt_lt, z1] at e2; rw [vp_in_iff]; omega)) v7_61 x_62 iv0_61 c_63 b_62.2) d_Md_foretold_114 (fun x_68 e_68 b_68 => ?_)
                        refine lv_i2l hx hb d_Md_foretold_115 rfl ?_
                        refine W.lcmp hx hb d_Md_foretold_116 ?_
                        refine hb_anyi (fun y_69 => ?_)
                        refine lv_if_ge (tgt := 123) hx hb d_Md_foretold_117 (by decide) (fun c_70 => ?_) (fun c_70 => ?_)
                        · refine lv_lload_n hx hb d_Md_foretold_123 rfl (lv_at hl 2 rfl) ?_
                          refine lv_aload_n hx hb d_Md_foretold_124 rfl (lv_at hl 0 rfl) ?_
                          refine tw_getR (D := (dC, dI)) (C := R_Md) (T := F_Md) (N := 64) (ci := 7) (kd := 27) (ct := ct) hx hb htb i_Md hown hK hP m0 rfl rfl 61 e_67 (by decide) (htb (.fieldLink R_Md 177 "WaterMenModel" "pensionOf" "[I") tw_119) (fun _ h9 => h9) rfl d_Md_foretold_125 ?_
                          refine hb_tv (.ref q_67) rfl ?_
                          refine lv_iload hx hb d_Md_foretold_128 (lv_at hl 5 rfl) ?_
                          refine tw_aldxI (ct := ct) (x := x_68) hx hb hK hP m_67 rfl ((fun (a_0 : Int32) (a_1 : Int32) (k_0 : ¬ (a_0 < 0)) (k_1 : ¬ (a_1 ≤ a_0)) (k_2 : ¬ (30 < a_1)) => (show vp_in (a_0) 30 from by have z0 : (0 : Int32).toInt = 0 := (by decide +kernel); have z1 : (30 : Int32).toInt = 30 := (by decide +kernel); have r0 := fb_rng (a_0); have r1 := fb_rng (a_1); have e0 := k_0; rw [Int32.lt_iff_toInt_lt, z0] at e0; have e1 := k_1; rw [Int32.le_iff_toInt_le] at e1; have e2 := k_2; rw [Int32.lt_iff_toInt_lt, z1] at e2; rw [vp_in_iff]; omega)) v7_61 x_62 iv0_61 c_63 b_62.2) e_68 d_Md_foretold_130 ?_
                          refine lv_i2l hx hb d_Md_foretold_131 rfl ?_
                          refine lv_lsub hx hb d_Md_foretold_132 ?_
                          refine hb_anyl (fun y_72 => ?_)
                          refine lv_lstore_n (lv' := [(3, .long y_72), (0, .ref q0), (1, .long v1_44), (5, .int v5_52), (6, .int ((y_59 + v5_52) * 100)), (7, .int v7_61)]) hx hb d_Md_foretold_133 rfl hl (by decide) rfl (fun ls hl => ?_)
                          refine lv_iinc (v := (v7_61 + 1)) (lv' := [(7, .int (v7_61 + 1)), (3, .long y_72), (0, .ref q0), (1, .long v1_44), (5, .int v5_52), (6, .int ((y_59 + v5_52) * 100))]) hx hb d_Md_foretold_134 hl (k := 5) rfl rfl (by decide) rfl (fun ls hl => ?_)
                          refine lv_goto (tgt := 83) hx hb d_Md_foretold_137 (by decide) ?_
                          exact ih_61 (n_61 - 1) (ms_1 ((fun (a_0 : Int32) (a_1 : Int32) (k_0 : ¬ (a_1 ≤ a_0)) (k_1 : ¬ (30 < a_1)) => (show 1 ≤ (30 : Int32).toInt - (a_0).toInt ∧ (30 : Int32).toInt - ((a_0) + (1 : Int32)).toInt + 1 ≤ (30 : Int32).toInt - (a_0).toInt from by have z0 : (1 : Int32).toInt = 1 := (by decide +kernel); have z1 : (30 : Int32).toInt = 30 := (by decide +kernel); have r0 := fb_rng (a_0); have r1 := fb_rng (a_1); have e0 := k_0; rw [Int32.le_iff_toInt_le] at e0; have e1 := k_1; rw [Int32.lt_iff_toInt_lt, z1] at e1; obtain ⟨n_0, hn_0, s0⟩ := nd_add (x := (a_0)) (y := (1 : Int32)) (by (try rw [z0]); omega) (by (try rw [z0]); omega); rw [z0] at s0; rw [hn_0]; (try rw [z1]); omega)) v7_61 x_62 c_63 b_62.2) hm_61) (v7_61 + 1) y_72 _ (show ¬ ((v7_61 + 1) < 0) from by have e0 := iv0_61; rw [Int32.lt_iff_toInt_lt] at e0; have e1 := iv1_61; rw [Int32.lt_iff_toInt_lt] at e1; have z0 : (0 : Int32).toInt = 0 := (by decide +kernel); have z1 : (1 : Int32).toInt = 1 := (by decide +kernel); have z2 : (30 : Int32).toInt = 30 := (by decide +kernel); have ss := fb_addI (x := v7_61) (y := 1) (by omega) (by omega); rw [Int32.lt_iff_toInt_lt]; omega) (show ¬ (30 < (v7_61 + 1)) from ((fun (a_0 : Int32) (a_1 : Int32) (k_0 : ¬ (a_1 ≤ a_0)) (k_1 : ¬ (30 < a_1)) => (show ¬ (30 < (a_0 + 1)) from by have z0 : (1 : Int32).toInt = 1 := (by decide +kernel); have z1 : (30 : Int32).toInt = 30 := (by decide +kernel); have r0 := fb_rng (a_0); have r1 := fb_rng (a_1); have e0 := k_0; rw [Int32.le_iff_toInt_le] at e0; have e1 := k_1; rw [Int32.lt_iff_toInt_lt, z1] at e1; obtain ⟨n_0, hn_0, s0⟩ := nd_add (x := (a_0)) (y := (1 : Int32)) (by (try rw [z0]); omega) (by (try rw [z0]); omega); rw [z0] at s0; rw [hn_0, Int32.lt_iff_toInt_lt, z1]; omega)) v7_61 x_62 c_63 b_62.2)) (by exact ms_2 ((fun (a_0 : Int32) (a_1 : Int32) (k_0 : ¬ (a_1 ≤ a_0)) (k_1 : ¬ (30 < a_1)) => (show 1 ≤ (30 : Int32).toInt - (a_0).toInt ∧ (30 : Int32).toInt - ((a_0) + (1 : Int32)).toInt + 1 ≤ (30 : Int32).toInt - (a_0).toInt from by have z0 : (1 : Int32).toInt = 1 := (by decide +kernel); have z1 : (30 : Int32).toInt = 30 := (by decide +kernel); have r0 := fb_rng (a_0); have r1 := fb_rng (a_1); have e0 := k_0; rw [Int32.le_iff_toInt_le] at e0; have e1 := k_1; rw [Int32.lt_iff_toInt_lt, z1] at e1; obtain ⟨n_0, hn_0, s0⟩ := nd_add (x := (a_0)) (y := (1 : Int32)) (by (try rw [z0]); omega) (by (try rw [z0]); omega); rw [z0] at s0; rw [hn_0]; (try rw [z1]); omega)) v7_61 x_62 c_63 b_62.2) hm_61) (lv_sub hl [2, 3, 1, 4, 5, 0] rfl)
                        · refine lv_iload hx hb d_Md_foretold_120 (lv_at hl 4 rfl) ?_
                          exact W.iret (v := ((y_59 + v5_52) * 100)) hx hb hr (fun t ht hW => ⟨((y_59 + v5_52) * 100), rfl, trivial, ht⟩) t_nil d_Md_foretold_122
                      · refine lv_goto (tgt := 134) hx hb d_Md_foretold_104 (by decide) ?_
                        refine lv_iinc (v := (v7_61 + 1)) (lv' := [(7, .int (v7_61 + 1)), (0, .ref q0), (1, .long v1_44), (3, .long v3_61), (5, .int v5_52), (6, .int ((y_59 + v5_52) * 100))]) hx hb d_Md_foretold_134 hl (k := 5) rfl rfl (by decide) rfl (fun ls hl => ?_)
                        refine lv_goto (tgt := 83) hx hb d_Md_foretold_137 (by decide) ?_
                        exact ih_61 (n_61 - 1) (ms_1 ((fun (a_0 : Int32) (a_1 : Int32) (k_0 : ¬ (a_1 ≤ a_0)) (k_1 : ¬ (30 < a_1)) => (show 1 ≤ (30 : Int32).toInt - (a_0).toInt ∧ (30 : Int32).toInt - ((a_0) + (1 : Int32)).toInt + 1 ≤ (30 : Int32).toInt - (a_0).toInt from by have z0 : (1 : Int32).toInt = 1 := (by decide +kernel); have z1 : (30 : Int32).toInt = 30 := (by decide +kernel); have r0 := fb_rng (a_0); have r1 := fb_rng (a_1); have e0 := k_0; rw [Int32.le_iff_toInt_le] at e0; have e1 := k_1; rw [Int32.lt_iff_toInt_lt, z1] at e1; obtain ⟨n_0, hn_0, s0⟩ := nd_add (x := (a_0)) (y := (1 : Int32)) (by (try rw [z0]); omega) (by (try rw [z0]); omega); rw [z0] at s0; rw [hn_0]; (try rw [z1]); omega)) v7_61 x_62 c_63 b_62.2) hm_61) (v7_61 + 1) v3_61 _ (show ¬ ((v7_61 + 1) < 0) from by have e0 := iv0_61; rw [Int32.lt_iff_toInt_lt] at e0; have e1 := iv1_61; rw [Int32.lt_iff_toInt_lt] at e1; have z0 : (0 : Int32).toInt = 0 := (by decide +kernel); have z1 : (1 : Int32).toInt = 1 := (by decide +kernel); have z2 : (30 : Int32).toInt = 30 := (by decide +kernel); have ss := fb_addI (x := v7_61) (y := 1) (by omega) (by omega); rw [Int32.lt_iff_toInt_lt]; omega) (show ¬ (30 < (v7_61 + 1)) from ((fun (a_0 : Int32) (a_1 : Int32) (k_0 : ¬ (a_1 ≤ a_0)) (k_1 : ¬ (30 < a_1)) => (show ¬ (30 < (a_0 + 1)) from by have z0 : (1 : Int32).toInt = 1 := (by decide +kernel); have z1 : (30 : Int32).toInt = 30 := (by decide +kernel); have r0 := fb_rng (a_0); have r1 := fb_rng (a_1); have e0 := k_0; rw [Int32.le_iff_toInt_le] at e0; have e1 := k_1; rw [Int32.lt_iff_toInt_lt, z1] at e1; obtain ⟨n_0, hn_0, s0⟩ := nd_add (x := (a_0)) (y := (1 : Int32)) (by (try rw [z0]); omega) (by (try rw [z0]); omega); rw [z0] at s0; rw [hn_0, Int32.lt_iff_toInt_lt, z1]; omega)) v7_61 x_62 c_63 b_62.2)) (by exact ms_2 ((fun (a_0 : Int32) (a_1 : Int32) (k_0 : ¬ (a_1 ≤ a_0)) (k_1 : ¬ (30 < a_1)) => (show 1 ≤ (30 : Int32).toInt - (a_0).toInt ∧ (30 : Int32).toInt - ((a_0) + (1 : Int32)).toInt + 1 ≤ (30 : Int32).toInt - (a_0).toInt from by have z0 : (1 : Int32).toInt = 1 := (by decide +kernel); have z1 : (30 : Int32).toInt = 30 := (by decide +kernel); have r0 := fb_rng (a_0); have r1 := fb_rng (a_1); have e0 := k_0; rw [Int32.le_iff_toInt_le] at e0; have e1 := k_1; rw [Int32.lt_iff_toInt_lt, z1] at e1; obtain ⟨n_0, hn_0, s0⟩ := nd_add (x := (a_0)) (y := (1 : Int32)) (by (try rw [z0]); omega) (by (try rw [z0]); omega); rw [z0] at s0; rw [hn_0]; (try rw [z1]); omega)) v7_61 x_62 c_63 b_62.2) hm_61) (lv_sub hl [1, 2, 3, 4, 5, 0] rfl)
                exact cut_61 4294967296 (0 : Int32) y_60 _ (by decide +kernel) (by decide +kernel) (by exact ms_0 _ _) (lv_sub hl [3, 4, 1, 5, 2, 0] rfl)
          exact cut_52 4294967296 (1 : Int32) x_51 _ (by decide +kernel) (by decide +kernel) (by exact ms_0 _ _) (lv_sub hl [2, 3, 1, 0] rfl)
        · refine lv_lload_n hx hb d_Md_foretold_31 rfl (lv_at hl 1 rfl) ?_
          refine lv_aload_n hx hb d_Md_foretold_32 rfl (lv_at hl 0 rfl) ?_
          refine tw_getr (D := (dC, dI)) (C := R_Md) (T := F_Md) (N := 64) (ci := 7) (kd := 27) (ct := ct) hx hb htb i_Md hown hK hP hO_0 m0 rfl rfl 59 (by decide) (htb (.fieldLink R_Md 173 "WaterMenModel" "boxIn" "[J") tw_120) (fun _ h9 => h9) rfl d_Md_foretold_33 (fun q_73 e_73 m_73 => ?_)
          refine lv_iload_n hx hb d_Md_foretold_36 rfl (lv_at hl 2 rfl) ?_
          refine tw_aldJ (ct := ct) hx hb hK hP m_73 rfl ((fun (a_0 : Int32) (a_1 : Int32) (k_0 : ¬ (a_1 < 0)) (k_1 : ¬ (a_0 < a_1)) (k_2 : ¬ (499 < a_0)) => (show vp_in (a_1) 500 from by have z0 : (0 : Int32).toInt = 0 := (by decide +kernel); have z1 : (499 : Int32).toInt = 499 := (by decide +kernel); have r0 := fb_rng (a_0); have r1 := fb_rng (a_1); have e0 := k_0; rw [Int32.lt_iff_toInt_lt, z0] at e0; have e1 := k_1; rw [Int32.lt_iff_toInt_lt] at e1; have e2 := k_2; rw [Int32.lt_iff_toInt_lt, z1] at e2; rw [vp_in_iff]; omega)) r_45 v3_44 iv0_44 c_50 po_47) d_Md_foretold_37 (fun x_74 e_74 => ?_)
          refine lv_ladd hx hb d_Md_foretold_38 ?_
          refine hb_anyl (fun y_75 => ?_)
          refine lv_lstore_n (lv' := [(1, .long y_75), (0, .ref q0), (3, .int v3_44)]) hx hb d_Md_foretold_39 rfl hl (by decide) rfl (fun ls hl => ?_)
          refine lv_iinc (v := (v3_44 + 1)) (lv' := [(3, .int (v3_44 + 1)), (1, .long y_75), (0, .ref q0)]) hx hb d_Md_foretold_40 hl (k := 2) rfl rfl (by decide) rfl (fun ls hl => ?_)
          refine lv_goto (tgt := 23) hx hb d_Md_foretold_43 (by decide) ?_
          exact ih_44 (n_44 - 1) (ms_1 ((fun (a_0 : Int32) (a_1 : Int32) (k_0 : ¬ (a_0 < a_1)) (k_1 : ¬ (499 < a_0)) => (show 1 ≤ (500 : Int32).toInt - (a_1).toInt ∧ (500 : Int32).toInt - ((a_1) + (1 : Int32)).toInt + 1 ≤ (500 : Int32).toInt - (a_1).toInt from by have z0 : (1 : Int32).toInt = 1 := (by decide +kernel); have z1 : (499 : Int32).toInt = 499 := (by decide +kernel); have z2 : (500 : Int32).toInt = 500 := (by decide +kernel); have r0 := fb_rng (a_0); have r1 := fb_rng (a_1); have e0 := k_0; rw [Int32.lt_iff_toInt_lt] at e0; have e1 := k_1; rw [Int32.lt_iff_toInt_lt, z1] at e1; obtain ⟨n_0, hn_0, s0⟩ := nd_add (x := (a_1)) (y := (1 : Int32)) (by (try rw [z0]); omega) (by (try rw [z0]); omega); rw [z0] at s0; rw [hn_0]; (try rw [z2]); omega)) r_45 v3_44 c_50 po_47) hm_44) (v3_44 + 1) y_75 _ (show ¬ ((v3_44 + 1) < 0) from by have e0 := iv0_44; rw [Int32.lt_iff_toInt_lt] at e0; have e1 := iv1_44; rw [Int32.lt_iff_toInt_lt] at e1; have z0 : (0 : Int32).toInt = 0 := (by decide +kernel); have z1 : (1 : Int32).toInt = 1 := (by decide +kernel); have z2 : (500 : Int32).toInt = 500 := (by decide +kernel); have ss := fb_addI (x := v3_44) (y := 1) (by omega) (by omega); rw [Int32.lt_iff_toInt_lt]; omega) (show ¬ (500 < (v3_44 + 1)) from ((fun (a_0 : Int32) (a_1 : Int32) (k_0 : ¬ (a_0 < a_1)) (k_1 : ¬ (499 < a_0)) => (show ¬ (500 < (a_1 + 1)) from by have z0 : (1 : Int32).toInt = 1 := (by decide +kernel); have z1 : (499 : Int32).toInt = 499 := (by decide +kernel); have z2 : (500 : Int32).toInt = 500 := (by decide +kernel); have r0 := fb_rng (a_0); have r1 := fb_rng (a_1); have e0 := k_0; rw [Int32.lt_iff_toInt_lt] at e0; have e1 := k_1; rw [Int32.lt_iff_toInt_lt, z1] at e1; obtain ⟨n_0, hn_0, s0⟩ := nd_add (x := (a_1)) (y := (1 : Int32)) (by (try rw [z0]); omega) (by (try rw [z0]); omega); rw [z0] at s0; rw [hn_0, Int32.lt_iff_toInt_lt, z2]; omega)) r_45 v3_44 c_50 po_47)) (by exact ms_2 ((fun (a_0 : Int32) (a_1 : Int32) (k_0 : ¬ (a_0 < a_1)) (k_1 : ¬ (499 < a_0)) => (show 1 ≤ (500 : Int32).toInt - (a_1).toInt ∧ (500 : Int32).toInt - ((a_1) + (1 : Int32)).toInt + 1 ≤ (500 : Int32).toInt - (a_1).toInt from by have z0 : (1 : Int32).toInt = 1 := (by decide +kernel); have z1 : (499 : Int32).toInt = 499 := (by decide +kernel); have z2 : (500 : Int32).toInt = 500 := (by decide +kernel); have r0 := fb_rng (a_0); have r1 := fb_rng (a_1); have e0 := k_0; rw [Int32.lt_iff_toInt_lt] at e0; have e1 := k_1; rw [Int32.lt_iff_toInt_lt, z1] at e1; obtain ⟨n_0, hn_0, s0⟩ := nd_add (x := (a_1)) (y := (1 : Int32)) (by (try rw [z0]); omega) (by (try rw [z0]); omega); rw [z0] at s0; rw [hn_0]; (try rw [z2]); omega)) r_45 v3_44 c_50 po_47) hm_44) (lv_sub hl [2, 1, 0] rfl)
    exact cut_44 4294967296 (0 : Int32) 0 _ (by decide +kernel) (by decide +kernel) (by exact ms_0 _ _) (lv_sub hl [2, 1, 0] rfl)
