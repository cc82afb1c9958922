set_option maxHeartbeats 4000000 in
set_option maxRecDepth 100000 in
theorem c_Md_placeOf_t (l : Launch) (dC : Nat → ClassId) (dI : Nat → Nat → Nat) (ct : Nat → ClassId) (L : List Nat) (f : TF) (hO_0 : Ok L f) (q0 : Nat) (m0 : q0 ∈ L ∧ tk f q0 = 27) (p_0 : Int32)   : Met l y_Md_placeOf (.code y_Md_placeOf b_Md_placeOf 4 (some .int) :: TB) ({ frames := 1, cells := 0, slots := 0, locals := 23 }) (va_Pc [.ref q0, .int p_0] (PR dC dI (TW ct L f) (TT ct))) (vp_Si (fun r => (r = (-1) ∧ NotIn f q0 (ti f q0 2) p_0 ∧ True) ∨ (¬ (r < 0) ∧ ¬ (39 < r) ∧ True))) 0 0 (fun _ => False) := by
  refine Met.ofW (cc := b_Md_placeOf) (maxL := 4) (ret := (some .int)) (by decide) rfl ?_
  intro p e s m args below meth c s₁ B hml hv
  obtain ⟨rfl, hP, hK, hN⟩ := hv
  have hx := B.exec
  have hb := B.bytes
  have hr := B.returns
  have hts := atoms_spec (ws := (.code y_Md_placeOf b_Md_placeOf 4 (some .int) :: TB)) B.pre
  have htb := fun w (h : w ∈ TB) => hts w (List.mem_cons_of_mem _ h)
  have hown : s.vm.findClass R_Md = some m.cls := findClass_of_methodNamed B.named
  have hlocks := B.notSynchronized
  have hl := lv_entry ([.ref q0, .int p_0]) (n := 4) (Nat.le_of_ble_eq_true rfl)
  rw [lg_entry_eq]
  generalize (lg_sl ([.ref q0, .int p_0]) ++ List.replicate (4 - (lg_sl ([.ref q0, .int p_0])).length) Slot.unset).toArray = ls at hl ⊢
  have hl : lv_has ls 4 [(0, .ref q0), (1, .int p_0)] := hl
  obtain ⟨qT, eqT, mqT⟩ := hO_0.r m0 (j := 20) (k' := 44) rfl
  obtain ⟨qS, eqS, mqS⟩ := hO_0.r m0 (j := 19) (k' := 43) rfl
  have bs_1 := hO_0.i m0 (show slotD 27 2 = some (.inl (0, 12)) from rfl)
  refine lv_aload_n hx hb d_Md_placeOf_0 rfl (lv_at hl 0 rfl) ?_
  refine lv_iload_n hx hb d_Md_placeOf_1 rfl (lv_at hl 1 rfl) ?_
  refine vp_callSi (va_Run.run (va_runV (As := [.int p_0]) (rest := []) ⟨hx, hb, hml, hown, htb⟩ (c_Md_rowOf_t l dC dI ct L f hO_0 q0 m0 p_0) (cwV 1 htb (gd_V tw_519 tw_520 tw_521 tw_479 tw_518) rfl rfl rfl (by decide +kernel) ⟨Nat.le_of_ble_eq_true rfl, Nat.le_of_ble_eq_true rfl⟩) ⟨pr_blind, tw_recv hK hP m0 rfl rfl, pr_pre hP hK hN⟩ rfl rfl hl.1 rfl (lv_room (Nat.le_of_ble_eq_true rfl)) d_Md_placeOf_2 ⟨Nat.le_of_ble_eq_true rfl, Nat.le_of_ble_eq_true rfl⟩)) (fun r_2 er_2 => ?_)
  rcases er_2 with ⟨rfl, ra_3, -⟩ | ⟨po_4, po_5, po_6, ra_7, -⟩
  · refine lv_istore_n (lv' := [(2, .int (-1)), (0, .ref q0), (1, .int p_0)]) hx hb d_Md_placeOf_5 rfl hl (by decide) rfl (fun ls hl => ?_)
    refine lv_iconst (v := 0) hx hb d_Md_placeOf_6 (by decide +kernel) ?_
    refine lv_istore_n (lv' := [(3, .int 0), (2, .int (-1)), (0, .ref q0), (1, .int p_0)]) hx hb d_Md_placeOf_7 rfl hl (by decide) rfl (fun ls hl => ?_)
    refine lv_iload_n hx hb d_Md_placeOf_8 rfl (lv_at hl 1 rfl) ?_
    refine lv_if_lt (tgt := 33) hx hb d_Md_placeOf_9 (by decide) (fun _ => ?_) (fun h => absurd (by decide +kernel) h)
    refine lv_iload_n hx hb d_Md_placeOf_33 rfl (lv_at hl 1 rfl) ?_
    refine lv_if_ge (tgt := 41) hx hb d_Md_placeOf_34 (by decide) (fun h => absurd h (by decide +kernel)) (fun _ => ?_)
    refine lv_iconst (v := (-1)) hx hb d_Md_placeOf_37 (by decide +kernel) ?_
    refine lv_goto (tgt := 42) hx hb d_Md_placeOf_38 (by decide) ?_
    exact W.iret (v := (-1)) hx hb hr (fun t ht hW => ⟨(-1), rfl, (Or.inl ⟨rfl, ra_3, trivial⟩), ht⟩) t_nil d_Md_placeOf_42
  · refine lv_istore_n (lv' := [(2, .int r_2), (0, .ref q0), (1, .int p_0)]) hx hb d_Md_placeOf_5 rfl hl (by decide) rfl (fun ls hl => ?_)
    refine lv_iconst (v := 0) hx hb d_Md_placeOf_6 (by decide +kernel) ?_
    refine lv_istore_n (lv' := [(3, .int 0), (2, .int r_2), (0, .ref q0), (1, .int p_0)]) hx hb d_Md_placeOf_7 rfl hl (by decide) rfl (fun ls hl => ?_)
    have cut_8 : ∀ (n_8 : Nat) (v3_8 : Int32) (ls : Array Slot), ¬ (v3_8 < 0) → TAt f qT r_2 p_0 v3_8 → (40 : Int32).toInt - (v3_8 : Int32).toInt ≤ (n_8 : Int) → lv_has ls 4 [(0, .ref q0), (1, .int p_0), (2, .int r_2), (3, .int v3_8)] → W p l e (headSpec (.code y_Md_placeOf b_Md_placeOf 4 (some .int) :: TB) ({ frames := 1, cells := 0, slots := 0, locals := 23 })).room s m [.ref q0, .int p_0].toArray below meth c s.heap [] 0 0 (MQ below (vp_Si (fun r => (r = (-1) ∧ NotIn f q0 (ti f q0 2) p_0 ∧ True) ∨ (¬ (r < 0) ∧ ¬ (39 < r) ∧ True))) [.ref q0, .int p_0].toArray s 0 0 (fun _ => False)) (F0 m 8 ls []) := by
      intro n_8
      induction n_8 using Nat.strongRecOn with
      | _ n_8 ih_8 =>
        intro v3_8 ls iv0_8 rw_8 hm_8 hl
        refine lv_iload_n hx hb d_Md_placeOf_8 rfl (lv_at hl 2 rfl) ?_
        refine lv_if_lt (tgt := 33) hx hb d_Md_placeOf_9 (by decide) (fun h => absurd h po_4) (fun _ => ?_)
        refine lv_aload_n hx hb d_Md_placeOf_12 rfl (lv_at hl 0 rfl) ?_
        refine tw_getR (D := (dC, dI)) (C := R_Md) (T := F_Md) (N := 64) (ci := 7) (kd := 27) (ct := ct) hx hb htb i_Md hown hK hP m0 rfl rfl 20 eqT (by decide) (htb (.fieldLink R_Md 91 "WaterMenModel" "turn" "[I") tw_517) (fun _ h9 => h9) rfl d_Md_placeOf_13 ?_
        refine hb_tv (.ref qT) rfl ?_
        refine lv_bipush (v := 40) hx hb d_Md_placeOf_16 (by decide +kernel) ?_
        refine lv_iload_n hx hb d_Md_placeOf_18 rfl (lv_at hl 2 rfl) ?_
        refine lv_imul hx hb d_Md_placeOf_19 ?_
        refine lv_iload_n hx hb d_Md_placeOf_20 rfl (lv_at hl 3 rfl) ?_
        refine lv_iadd hx hb d_Md_placeOf_21 ?_
        refine tw_aldI (ct := ct) hx hb hK hP hO_0 mqT rfl ((fun (a_0 : Int32) (a_1 : Int32) (a_2 : Int32) (k_0 : ¬ (a_0 < 0)) (k_1 : ¬ (a_1 ≤ a_0)) (k_2 : ¬ (a_2 < 0)) (k_3 : ¬ (39 < a_2)) (k_4 : ¬ (12 < a_1)) => (show vp_in (((40 * a_0) + a_2)) 480 from by have z0 : (0 : Int32).toInt = 0 := (by decide +kernel); have z1 : (12 : Int32).toInt = 12 := (by decide +kernel); have z2 : (39 : Int32).toInt = 39 := (by decide +kernel); have z3 : (40 : Int32).toInt = 40 := (by decide +kernel); have r0 := fb_rng (a_0); have r1 := fb_rng (a_1); have r2 := fb_rng (a_2); have e0 := k_0; rw [Int32.lt_iff_toInt_lt, z0] at e0; have e1 := k_1; rw [Int32.le_iff_toInt_le] at e1; have e2 := k_2; rw [Int32.lt_iff_toInt_lt, z0] at e2; have e3 := k_3; rw [Int32.lt_iff_toInt_lt, z2] at e3; have e4 := k_4; rw [Int32.lt_iff_toInt_lt, z1] at e4; obtain ⟨n_0, hn_0, s0⟩ := nd_mul (x := (40 : Int32)) (y := (a_0)) (by (try rw [z3]); omega) (by (try rw [z3]); omega); rw [z3] at s0; obtain ⟨n_1, hn_1, s1⟩ := nd_add (x := n_0) (y := (a_2)) (by omega) (by omega); rw [hn_0, hn_1, vp_in_iff]; omega)) r_2 (ti f q0 2) v3_8 po_4 po_6 iv0_8 (at_le rw_8) bs_1.2) d_Md_placeOf_22 (fun x_9 e_9 b_9 => ?_)
        refine lv_iload_n hx hb d_Md_placeOf_23 rfl (lv_at hl 1 rfl) ?_
        refine lv_icmp_eq (tgt := 33) hx hb d_Md_placeOf_24 (by decide) (fun c_10 => ?_) (fun c_10 => ?_)
        · refine lv_iload_n hx hb d_Md_placeOf_33 rfl (lv_at hl 2 rfl) ?_
          refine lv_if_ge (tgt := 41) hx hb d_Md_placeOf_34 (by decide) (fun _ => ?_) (fun h => absurd (show 0 ≤ r_2 from by have e0 := po_4; rw [Int32.lt_iff_toInt_lt] at e0; have e1 := po_5; rw [Int32.lt_iff_toInt_lt] at e1; have z0 : (0 : Int32).toInt = 0 := (by decide +kernel); have z1 : (11 : Int32).toInt = 11 := (by decide +kernel); rw [Int32.le_iff_toInt_le]; omega) h)
          refine lv_iload_n hx hb d_Md_placeOf_41 rfl (lv_at hl 3 rfl) ?_
          exact W.iret (v := v3_8) hx hb hr (fun t ht hW => ⟨v3_8, rfl, (Or.inr ⟨iv0_8, (at_le rw_8), trivial⟩), ht⟩) t_nil d_Md_placeOf_42
        · refine lv_iinc (v := (v3_8 + 1)) (lv' := [(3, .int (v3_8 + 1)), (0, .ref q0), (1, .int p_0), (2, .int r_2)]) hx hb d_Md_placeOf_27 hl (k := 3) rfl rfl (by decide) rfl (fun ls hl => ?_)
          refine lv_goto (tgt := 8) hx hb d_Md_placeOf_30 (by decide) ?_
          exact ih_8 (n_8 - 1) (ms_1 ((fun (a_0 : Int32) (k_0 : ¬ (39 < a_0)) => (show 1 ≤ (40 : Int32).toInt - (a_0).toInt ∧ (40 : Int32).toInt - ((a_0) + (1 : Int32)).toInt + 1 ≤ (40 : Int32).toInt - (a_0).toInt from by have z0 : (1 : Int32).toInt = 1 := (by decide +kernel); have z1 : (39 : Int32).toInt = 39 := (by decide +kernel); have z2 : (40 : Int32).toInt = 40 := (by decide +kernel); have r0 := fb_rng (a_0); have e0 := k_0; rw [Int32.lt_iff_toInt_lt, z1] at e0; obtain ⟨n_0, hn_0, s0⟩ := nd_add (x := (a_0)) (y := (1 : Int32)) (by (try rw [z0]); omega) (by (try rw [z0]); omega); rw [z0] at s0; rw [hn_0]; (try rw [z2]); omega)) v3_8 (at_le rw_8)) hm_8) (v3_8 + 1) _ (show ¬ ((v3_8 + 1) < 0) from by have e0 := iv0_8; rw [Int32.lt_iff_toInt_lt] at e0; have e1 := (at_le rw_8); rw [Int32.lt_iff_toInt_lt] at e1; have z0 : (0 : Int32).toInt = 0 := (by decide +kernel); have z1 : (1 : Int32).toInt = 1 := (by decide +kernel); have z2 : (39 : Int32).toInt = 39 := (by decide +kernel); have ss := fb_addI (x := v3_8) (y := 1) (by omega) (by omega); rw [Int32.lt_iff_toInt_lt]; omega) (at_next rw_8 po_4 po_5 iv0_8 e_9 c_10) (by exact ms_2 ((fun (a_0 : Int32) (k_0 : ¬ (39 < a_0)) => (show 1 ≤ (40 : Int32).toInt - (a_0).toInt ∧ (40 : Int32).toInt - ((a_0) + (1 : Int32)).toInt + 1 ≤ (40 : Int32).toInt - (a_0).toInt from by have z0 : (1 : Int32).toInt = 1 := (by decide +kernel); have z1 : (39 : Int32).toInt = 39 := (by decide +kernel); have z2 : (40 : Int32).toInt = 40 := (by decide +kernel); have r0 := fb_rng (a_0); have e0 := k_0; rw [Int32.lt_iff_toInt_lt, z1] at e0; obtain ⟨n_0, hn_0, s0⟩ := nd_add (x := (a_0)) (y := (1 : Int32)) (by (try rw [z0]); omega) (by (try rw [z0]); omega); rw [z0] at s0; rw [hn_0]; (try rw [z2]); omega)) v3_8 (at_le rw_8)) hm_8) (lv_sub hl [1, 2, 3, 0] rfl)
    exact cut_8 4294967296 (0 : Int32) _ (by decide +kernel) (at_start eqT eqS ra_7 (hO_0.i mqS (slot_arr (n := 12) rfl (vp_in_lt (hb_inl po_4 po_5 (by decide +kernel)))))) (by exact ms_0 _ _) (lv_sub hl [2, 3, 1, 0] rfl)
def WL_Md_leaves_t_30_14 : List (Nat × Nat) := [(44, 1000)]
def W_Md_leaves_t : List (Nat × Nat) := [(43, 1000), (44, 1000)]
set_option maxHeartbeats 4000000 in
set_option maxRecDepth 100000 in
theorem c_Md_leaves_t (l : Launch) (dC : Nat → ClassId) (dI : Nat → Nat → Nat) (ct : Nat → ClassId) (L : List Nat) (f : TF) (hO_0 : Ok L f) (q0 : Nat) (m0 : q0 ∈ L ∧ tk f q0 = 27) (hT : TInv f q0) (sz : Nat) (p_0 : Int32)   : Met l y_Md_leaves (.code y_Md_leaves b_Md_leaves 5 none :: TB) ({ frames := 2, cells := 0, slots := 0, locals := 46 }) (va_Pc [.ref q0, .int p_0] (PC dC dI (TW ct L f) (TT ct) sz)) (va_Qv (fun (u : TSt) => Ok u.1 u.2 ∧ Ext W_Md_leaves_t L f u.1 u.2 ∧ TInv u.2 q0 ∧ (True)) (fun (u : TSt) t => va_P (dC, dI) vwCl (TW ct u.1 u.2) t.heap ∧ va_K (dC, dI) vwCl (TT ct) t ∧ va_D (va_A (TW ct L f) sz) (TW ct u.1 u.2)) (va_A (TW ct L f) sz)) 0 0 (va_A (TW ct L f) sz) := by
  refine Met.ofW (cc := b_Md_leaves) (maxL := 5) (ret := none) (by decide) rfl ?_
  intro p e s m args below meth c s₁ B hml hv
  obtain ⟨rfl, hsz, hP, hK, hD0, hN⟩ := hv
  have hx := B.exec
  have hb := B.bytes
  have hr := B.returns
  have hts := atoms_spec (ws := (.code y_Md_leaves b_Md_leaves 5 none :: TB)) B.pre
  have htb := fun w (h : w ∈ TB) => hts w (List.mem_cons_of_mem _ h)
  have hown : s.vm.findClass R_Md = some m.cls := findClass_of_methodNamed B.named
  have hlocks := B.notSynchronized
  have hl := lv_entry ([.ref q0, .int p_0]) (n := 5) (Nat.le_of_ble_eq_true rfl)
  rw [lg_entry_eq]
  generalize (lg_sl ([.ref q0, .int p_0]) ++ List.replicate (5 - (lg_sl ([.ref q0, .int p_0])).length) Slot.unset).toArray = ls at hl ⊢
  have hl : lv_has ls 5 [(0, .ref q0), (1, .int p_0)] := hl
  subst hsz
  have hD := hD0.self (sz := s.heap.size)
  obtain ⟨A, hAe⟩ : ∃ A, va_A (TW ct L f) s.heap.size = A := ⟨_, rfl⟩
  rw [hAe] at hD
  have hA : ∀ q : Nat, s.heap.size ≤ q → A q := fun q h => by rw [← hAe]; exact Or.inr h
  have hS : va_S A s.heap s.heap [] := va_S.rf
  have hA_0 : Ext [] L f L f := Ext.rf
  suffices hGo : ∀ (H : Heap) (locs : List Loc), va_P (dC, dI) vwCl (TW ct L f) H → va_S A s.heap H locs → W p l e (headSpec (.code y_Md_leaves b_Md_leaves 5 none :: TB) ({ frames := 2, cells := 0, slots := 0, locals := 46 })).room s m [.ref q0, .int p_0].toArray below meth c H locs 0 0 (MQ below (va_Qv (fun (u : TSt) => Ok u.1 u.2 ∧ Ext W_Md_leaves_t L f u.1 u.2 ∧ TInv u.2 q0 ∧ (True)) (fun (u : TSt) t => va_P (dC, dI) vwCl (TW ct u.1 u.2) t.heap ∧ va_K (dC, dI) vwCl (TT ct) t ∧ va_D (va_A (TW ct L f) s.heap.size) (TW ct u.1 u.2)) (va_A (TW ct L f) s.heap.size)) [.ref q0, .int p_0].toArray s 0 0 (va_A (TW ct L f) s.heap.size)) (F0 m 0 ls []) from hGo _ _ hP hS
  clear hP hS
  intro H locs hP hS
  obtain ⟨qT, eqT, mqT⟩ := hO_0.r m0 (j := 20) (k' := 44) rfl
  obtain ⟨qS, eqS, mqS⟩ := hO_0.r m0 (j := 19) (k' := 43) rfl
  have bs_1 := hO_0.i m0 (show slotD 27 2 = some (.inl (0, 12)) from rfl)
  refine lv_aload_n hx hb d_Md_leaves_0 rfl (lv_at hl 0 rfl) ?_
  refine lv_iload_n hx hb d_Md_leaves_1 rfl (lv_at hl 1 rfl) ?_
  refine vp_callSi (va_Run.run (va_runV (As := [.int p_0]) (rest := []) ⟨hx, hb, hml, hown, htb⟩ (c_Md_rowOf_t l dC dI ct L f hO_0 q0 m0 p_0) (cwV 1 htb (gd_V tw_519 tw_520 tw_521 tw_479 tw_518) rfl rfl rfl (by decide +kernel) ⟨Nat.le_of_ble_eq_true rfl, Nat.le_of_ble_eq_true rfl⟩) ⟨pr_blind, tw_recv hK hP m0 rfl rfl, pr_pre hP hK hN⟩ rfl rfl hl.1 rfl (lv_room (Nat.le_of_ble_eq_true rfl)) d_Md_leaves_2 ⟨Nat.le_of_ble_eq_true rfl, Nat.le_of_ble_eq_true rfl⟩)) (fun r_2 er_2 => ?_)
  rcases er_2 with ⟨rfl, ra_3, -⟩ | ⟨po_4, po_5, po_6, ra_7, -⟩
  · refine lv_istore_n (lv' := [(2, .int (-1)), (0, .ref q0), (1, .int p_0)]) hx hb d_Md_leaves_5 rfl hl (by decide) rfl (fun ls hl => ?_)
    refine lv_iload_n hx hb d_Md_leaves_6 rfl (lv_at hl 0 rfl) ?_
    refine lv_if_ge (tgt := 11) hx hb d_Md_leaves_7 (by decide) (fun h => absurd h (by decide +kernel)) (fun _ => ?_)
    refine W.widen (k := 0) (n := 0) (Nat.le_of_ble_eq_true rfl) (Nat.le_of_ble_eq_true rfl) ?_
    exact W.vret hx hb hr (fun t ht hW => ⟨⟨(L, f), rfl, ⟨hO_0, hA_0.mono (by decide +kernel), hT, trivial⟩, by rw [ht]; exact hP, va_K.moved hW.alike hK, by rw [hAe]; exact hD⟩, by rw [hAe]; exact hS.F ht⟩) (by rw [hAe]; exact hS.2.2) d_Md_leaves_10
  · refine lv_istore_n (lv' := [(2, .int r_2), (0, .ref q0), (1, .int p_0)]) hx hb d_Md_leaves_5 rfl hl (by decide) rfl (fun ls hl => ?_)
    refine lv_iload_n hx hb d_Md_leaves_6 rfl (lv_at hl 0 rfl) ?_
    refine lv_if_ge (tgt := 11) hx hb d_Md_leaves_7 (by decide) (fun _ => ?_) (fun h => absurd (show 0 ≤ r_2 from by have e0 := po_4; rw [Int32.lt_iff_toInt_lt] at e0; have e1 := po_5; rw [Int32.lt_iff_toInt_lt] at e1; have z0 : (0 : Int32).toInt = 0 := (by decide +kernel); have z1 : (11 : Int32).toInt = 11 := (by decide +kernel); rw [Int32.le_iff_toInt_le]; omega) h)
    refine lv_aload_n hx hb d_Md_leaves_11 rfl (lv_at hl 1 rfl) ?_
    refine lv_iload_n hx hb d_Md_leaves_12 rfl (lv_at hl 2 rfl) ?_
    refine vp_callSi (va_Run.run (va_runV (As := [.int p_0]) (rest := []) ⟨hx, hb, hml, hown, htb⟩ (c_Md_placeOf_t l dC dI ct L f hO_0 q0 m0 p_0) (cwV 1 htb (gd_V tw_523 tw_524 tw_525 tw_479 tw_522) rfl rfl rfl (by decide +kernel) ⟨Nat.le_of_ble_eq_true rfl, Nat.le_of_ble_eq_true rfl⟩) ⟨pr_blind, tw_recv hK hP m0 rfl rfl, pr_pre hP hK hN⟩ rfl rfl hl.1 rfl (lv_room (Nat.le_of_ble_eq_true rfl)) d_Md_leaves_13 ⟨Nat.le_of_ble_eq_true rfl, Nat.le_of_ble_eq_true rfl⟩)) (fun r_8 er_8 => ?_)
    rcases er_8 with ⟨rfl, ra_9, -⟩ | ⟨po_10, po_11, -⟩
    · exact (notin_isin eqT eqS ra_9 ra_7 po_4 po_6).elim
    · refine lv_istore_n (lv' := [(3, .int r_8), (2, .int r_2), (0, .ref q0), (1, .int p_0)]) hx hb d_Md_leaves_16 rfl hl (by decide) rfl (fun ls hl => ?_)
      refine lv_aload_n hx hb d_Md_leaves_17 rfl (lv_at hl 2 rfl) ?_
      refine tw_getR (D := (dC, dI)) (C := R_Md) (T := F_Md) (N := 64) (ci := 7) (kd := 27) (ct := ct) hx hb htb i_Md hown hK hP m0 rfl rfl 19 eqS (by decide) (htb (.fieldLink R_Md 88 "WaterMenModel" "turns" "[I") tw_516) (fun _ h9 => h9) rfl d_Md_leaves_18 ?_
      refine hb_tv (.ref qS) rfl ?_
      refine lv_iload_n hx hb d_Md_leaves_21 rfl (lv_at hl 1 rfl) ?_
      refine lv_dup2_11 hx hb d_Md_leaves_22 rfl rfl ?_
      refine tw_aldI (ct := ct) hx hb hK hP hO_0 mqS rfl (hb_inl po_4 po_5 (by decide +kernel)) d_Md_leaves_23 (fun x_12 e_12 b_12 => ?_)
      refine lv_iconst (v := 1) hx hb d_Md_leaves_24 (by decide +kernel) ?_
      refine lv_isub hx hb d_Md_leaves_25 ?_
      refine tw_astI (ct := ct) (x := (x_12 - 1)) hx hb hK hP hD hS hO_0 mqS rfl (hb_inl po_4 po_5 (by decide +kernel)) ⟨(show ¬ ((x_12 - 1) < 0) from by have e0 := (isin_pos eqT eqS ra_7 e_12 b_12.1); rw [Int32.lt_iff_toInt_lt] at e0; have e1 := b_12.2; rw [Int32.lt_iff_toInt_lt] at e1; have z0 : (0 : Int32).toInt = 0 := (by decide +kernel); have z1 : (1 : Int32).toInt = 1 := (by decide +kernel); have z2 : (40 : Int32).toInt = 40 := (by decide +kernel); have ss := fb_subI (x := x_12) (y := 1) (by omega) (by omega); rw [Int32.lt_iff_toInt_lt]; omega), (show ¬ (40 < (x_12 - 1)) from by have e0 := (isin_pos eqT eqS ra_7 e_12 b_12.1); rw [Int32.lt_iff_toInt_lt] at e0; have e1 := b_12.2; rw [Int32.lt_iff_toInt_lt] at e1; have z0 : (1 : Int32).toInt = 1 := (by decide +kernel); have z1 : (40 : Int32).toInt = 40 := (by decide +kernel); have ss := fb_subI (x := x_12) (y := 1) (by omega) (by omega); rw [Int32.lt_iff_toInt_lt]; omega)⟩ d_Md_leaves_26 (fun f_1 H locs hP hD hS hO_1 hE_1 w_13 ow_13 hF_1 => ?_)
      have hA_1 := hA_0.trans hE_1
      refine lv_iload_n hx hb d_Md_leaves_27 rfl (lv_at hl 0 rfl) ?_
      refine lv_istore (lv' := [(4, .int r_8), (3, .int r_8), (2, .int r_2), (0, .ref q0), (1, .int p_0)]) hx hb d_Md_leaves_28 hl (by decide) rfl (fun ls hl => ?_)
      have cut_14 : ∀ (n_14 : Nat) (v4_14 : Int32) (L_2 : List Nat) (f_2 : TF) (H : Heap) (locs : List Loc) (ls : Array Slot), va_P (dC, dI) vwCl (TW ct L_2 f_2) H → va_D A (TW ct L_2 f_2) → va_S A s.heap H locs → Ok L_2 f_2 → Ext WL_Md_leaves_t_30_14 L f_1 L_2 f_2 → ¬ (v4_14 < 0) → ¬ (39 < v4_14) → THole f_2 qT qS (r_2 : Int32).toNatClampNeg (v4_14 : Int32).toNatClampNeg (x_12 : Int32).toNatClampNeg → (39 : Int32).toInt - (v4_14 : Int32).toInt ≤ (n_14 : Int) → lv_has ls 5 [(0, .ref q0), (2, .int r_2), (4, .int v4_14)] → W p l e (headSpec (.code y_Md_leaves b_Md_leaves 5 none :: TB) ({ frames := 2, cells := 0, slots := 0, locals := 46 })).room s m [.ref q0, .int p_0].toArray below meth c H locs 0 0 (MQ below (va_Qv (fun (u : TSt) => Ok u.1 u.2 ∧ Ext W_Md_leaves_t L f u.1 u.2 ∧ TInv u.2 q0 ∧ (True)) (fun (u : TSt) t => va_P (dC, dI) vwCl (TW ct u.1 u.2) t.heap ∧ va_K (dC, dI) vwCl (TT ct) t ∧ va_D (va_A (TW ct L f) s.heap.size) (TW ct u.1 u.2)) (va_A (TW ct L f) s.heap.size)) [.ref q0, .int p_0].toArray s 0 0 (va_A (TW ct L f) s.heap.size)) (F0 m 30 ls []) := by
        intro n_14
        induction n_14 using Nat.strongRecOn with
        | _ n_14 ih_14 =>
          intro v4_14 L_2 f_2 H locs ls hP hD hS hO_2 hE_2 iv0_14 iv1_14 rw_14 hm_14 hl
          have hA_2 := hA_1.trans hE_2
          refine lv_iload hx hb d_Md_leaves_30 (lv_at hl 2 rfl) ?_
          refine lv_aload_n hx hb d_Md_leaves_32 rfl (lv_at hl 0 rfl) ?_
          refine tw_getR (D := (dC, dI)) (C := R_Md) (T := F_Md) (N := 64) (ci := 7) (kd := 27) (ct := ct) hx hb htb i_Md hown hK hP (hA_2.m m0) rfl rfl 19 ((hA_2.er m0 rfl).trans eqS) (by decide) (htb (.fieldLink R_Md 88 "WaterMenModel" "turns" "[I") tw_516) (fun _ h9 => h9) rfl d_Md_leaves_33 ?_
          refine hb_tv (.ref qS) rfl ?_
          refine lv_iload_n hx hb d_Md_leaves_36 rfl (lv_at hl 1 rfl) ?_
          refine tw_aldxI (ct := ct) (x := (x_12 - 1)) hx hb hK hP (hA_2.m mqS) rfl (hb_inl po_4 po_5 (by decide +kernel)) ((hE_2.ei (hA_1.m mqS) rfl).trans w_13) d_Md_leaves_37 ?_
          refine lv_icmp_ge (tgt := 73) hx hb d_Md_leaves_38 (by decide) (fun c_16 => ?_) (fun c_16 => ?_)
          · refine W.widen (k := 0) (n := 0) (Nat.le_of_ble_eq_true rfl) (Nat.le_of_ble_eq_true rfl) ?_
            exact W.vret hx hb hr (fun t ht hW => ⟨⟨(L_2, f_2), rfl, ⟨hO_2, hA_2.mono (by decide +kernel), (hole_end ((hA_2.er m0 rfl).trans eqT) ((hA_2.er m0 rfl).trans eqS) rw_14 iv0_14 ((hE_2.ei (hA_1.m mqS) rfl).trans w_13) (show ¬ ((x_12 - 1) < 0) from by have e0 := (isin_pos eqT eqS ra_7 e_12 b_12.1); rw [Int32.lt_iff_toInt_lt] at e0; have e1 := b_12.2; rw [Int32.lt_iff_toInt_lt] at e1; have z0 : (0 : Int32).toInt = 0 := (by decide +kernel); have z1 : (1 : Int32).toInt = 1 := (by decide +kernel); have z2 : (40 : Int32).toInt = 40 := (by decide +kernel); have ss := fb_subI (x := x_12) (y := 1) (by omega) (by omega); rw [Int32.lt_iff_toInt_lt]; omega) (pred_nat (isin_pos eqT eqS ra_7 e_12 b_12.1)).2 c_16), trivial⟩, by rw [ht]; exact hP, va_K.moved hW.alike hK, by rw [hAe]; exact hD⟩, by rw [hAe]; exact hS.F ht⟩) (by rw [hAe]; exact hS.2.2) d_Md_leaves_73
          · refine lv_aload_n hx hb d_Md_leaves_41 rfl (lv_at hl 0 rfl) ?_
            refine tw_getR (D := (dC, dI)) (C := R_Md) (T := F_Md) (N := 64) (ci := 7) (kd := 27) (ct := ct) hx hb htb i_Md hown hK hP (hA_2.m m0) rfl rfl 20 ((hA_2.er m0 rfl).trans eqT) (by decide) (htb (.fieldLink R_Md 91 "WaterMenModel" "turn" "[I") tw_517) (fun _ h9 => h9) rfl d_Md_leaves_42 ?_
            refine hb_tv (.ref qT) rfl ?_
            refine lv_bipush (v := 40) hx hb d_Md_leaves_45 (by decide +kernel) ?_
            refine lv_iload_n hx hb d_Md_leaves_47 rfl (lv_at hl 1 rfl) ?_
            refine lv_imul hx hb d_Md_leaves_48 ?_
            refine lv_iload hx hb d_Md_leaves_49 (lv_at hl 2 rfl) ?_
            refine lv_iadd hx hb d_Md_leaves_51 ?_
            refine lv_aload_n hx hb d_Md_leaves_52 rfl (lv_at hl 0 rfl) ?_
            refine tw_getR (D := (dC, dI)) (C := R_Md) (T := F_Md) (N := 64) (ci := 7) (kd := 27) (ct := ct) hx hb htb i_Md hown hK hP (hA_2.m m0) rfl rfl 20 ((hA_2.er m0 rfl).trans eqT) (by decide) (htb (.fieldLink R_Md 91 "WaterMenModel" "turn" "[I") tw_517) (fun _ h9 => h9) rfl d_Md_leaves_53 ?_
            refine hb_tv (.ref qT) rfl ?_
            refine lv_bipush (v := 40) hx hb d_Md_leaves_56 (by decide +kernel) ?_
            refine lv_iload_n hx hb d_Md_leaves_58 rfl (lv_at hl 1 rfl) ?_
            refine lv_imul hx hb d_Md_leaves_59 ?_
            refine lv_iload hx hb d_Md_leaves_60 (lv_at hl 2 rfl) ?_
            refine lv_iadd hx hb d_Md_leaves_62 ?_
            refine lv_iconst (v := 1) hx hb d_Md_leaves_63 (by decide +kernel) ?_
            refine lv_iadd hx hb d_Md_leaves_64 ?_
            refine tw_aldI (ct := ct) hx hb hK hP hO_2 (hA_2.m mqT) rfl ((fun (a_0 : Int32) (a_1 : Int32) (a_2 : Int32) (a_3 : Int32) (k_0 : ¬ (a_0 < 0)) (k_1 : ¬ (a_1 ≤ a_0)) (k_2 : ¬ (a_2 < 0)) (k_3 : ¬ (12 < a_1)) (k_4 : ¬ (40 < a_3)) (k_5 : ¬ (a_3 < 1)) (k_6 : ¬ ((a_3 - 1) ≤ a_2)) => (show vp_in ((((40 * a_0) + a_2) + 1)) 480 from by have z0 : (0 : Int32).toInt = 0 := (by decide +kernel); have z1 : (1 : Int32).toInt = 1 := (by decide +kernel); have z2 : (12 : Int32).toInt = 12 := (by decide +kernel); have z3 : (40 : Int32).toInt = 40 := (by decide +kernel); have r0 := fb_rng (a_0); have r1 := fb_rng (a_1); have r2 := fb_rng (a_2); have r3 := fb_rng (a_3); have e0 := k_0; rw [Int32.lt_iff_toInt_lt, z0] at e0; have e1 := k_1; rw [Int32.le_iff_toInt_le] at e1; have e2 := k_2; rw [Int32.lt_iff_toInt_lt, z0] at e2; have e3 := k_3; rw [Int32.lt_iff_toInt_lt, z2] at e3; have e4 := k_4; rw [Int32.lt_iff_toInt_lt, z3] at e4; have e5 := k_5; rw [Int32.lt_iff_toInt_lt, z1] at e5; obtain ⟨n_0, hn_0, s0⟩ := nd_sub (x := (a_3)) (y := (1 : Int32)) (by (try rw [z1]); omega) (by (try rw [z1]); omega); rw [z1] at s0; have e6 := k_6; rw [hn_0, Int32.le_iff_toInt_le] at e6; obtain ⟨n_1, hn_1, s1⟩ := nd_mul (x := (40 : Int32)) (y := (a_0)) (by (try rw [z3]); omega) (by (try rw [z3]); omega); rw [z3] at s1; obtain ⟨n_2, hn_2, s2⟩ := nd_add (x := n_1) (y := (a_2)) (by omega) (by omega); obtain ⟨n_3, hn_3, s3⟩ := nd_add (x := n_2) (y := (1 : Int32)) (by (try rw [z1]); omega) (by (try rw [z1]); omega); rw [z1] at s3; rw [hn_1, hn_2, hn_3, vp_in_iff]; omega)) r_2 (ti f q0 2) v4_14 x_12 po_4 po_6 iv0_14 bs_1.2 b_12.2 (isin_pos eqT eqS ra_7 e_12 b_12.1) c_16) d_Md_leaves_65 (fun x_17 e_17 b_17 => ?_)
            refine tw_astI (ct := ct) (x := x_17) hx hb hK hP hD hS hO_2 (hA_2.m mqT) rfl ((fun (a_0 : Int32) (a_1 : Int32) (a_2 : Int32) (a_3 : Int32) (k_0 : ¬ (a_0 < 0)) (k_1 : ¬ (a_1 ≤ a_0)) (k_2 : ¬ (a_2 < 0)) (k_3 : ¬ (12 < a_1)) (k_4 : ¬ (40 < a_3)) (k_5 : ¬ (a_3 < 1)) (k_6 : ¬ ((a_3 - 1) ≤ a_2)) => (show vp_in (((40 * a_0) + a_2)) 480 from by have z0 : (0 : Int32).toInt = 0 := (by decide +kernel); have z1 : (1 : Int32).toInt = 1 := (by decide +kernel); have z2 : (12 : Int32).toInt = 12 := (by decide +kernel); have z3 : (40 : Int32).toInt = 40 := (by decide +kernel); have r0 := fb_rng (a_0); have r1 := fb_rng (a_1); have r2 := fb_rng (a_2); have r3 := fb_rng (a_3); have e0 := k_0; rw [Int32.lt_iff_toInt_lt, z0] at e0; have e1 := k_1; rw [Int32.le_iff_toInt_le] at e1; have e2 := k_2; rw [Int32.lt_iff_toInt_lt, z0] at e2; have e3 := k_3; rw [Int32.lt_iff_toInt_lt, z2] at e3; have e4 := k_4; rw [Int32.lt_iff_toInt_lt, z3] at e4; have e5 := k_5; rw [Int32.lt_iff_toInt_lt, z1] at e5; obtain ⟨n_0, hn_0, s0⟩ := nd_sub (x := (a_3)) (y := (1 : Int32)) (by (try rw [z1]); omega) (by (try rw [z1]); omega); rw [z1] at s0; have e6 := k_6; rw [hn_0, Int32.le_iff_toInt_le] at e6; obtain ⟨n_1, hn_1, s1⟩ := nd_mul (x := (40 : Int32)) (y := (a_0)) (by (try rw [z3]); omega) (by (try rw [z3]); omega); rw [z3] at s1; obtain ⟨n_2, hn_2, s2⟩ := nd_add (x := n_1) (y := (a_2)) (by omega) (by omega); rw [hn_1, hn_2, vp_in_iff]; omega)) r_2 (ti f q0 2) v4_14 x_12 po_4 po_6 iv0_14 bs_1.2 b_12.2 (isin_pos eqT eqS ra_7 e_12 b_12.1) c_16) ⟨b_17.1, b_17.2⟩ d_Md_leaves_66 (fun f_3 H locs hP hD hS hO_3 hE_3 w_18 ow_18 hF_3 => ?_)
            have hA_3 := hA_2.trans hE_3
            refine lv_iinc (v := (v4_14 + 1)) (lv' := [(4, .int (v4_14 + 1)), (0, .ref q0), (2, .int r_2)]) hx hb d_Md_leaves_67 hl (k := 2) rfl rfl (by decide) rfl (fun ls hl => ?_)
            refine lv_goto (tgt := 30) hx hb d_Md_leaves_70 (by decide) ?_
            exact ih_14 (n_14 - 1) (ms_1 ((fun (a_0 : Int32) (a_1 : Int32) (k_0 : ¬ (40 < a_1)) (k_1 : ¬ (a_1 < 1)) (k_2 : ¬ ((a_1 - 1) ≤ a_0)) => (show 1 ≤ (39 : Int32).toInt - (a_0).toInt ∧ (39 : Int32).toInt - ((a_0) + (1 : Int32)).toInt + 1 ≤ (39 : Int32).toInt - (a_0).toInt from by have z0 : (1 : Int32).toInt = 1 := (by decide +kernel); have z1 : (39 : Int32).toInt = 39 := (by decide +kernel); have z2 : (40 : Int32).toInt = 40 := (by decide +kernel); have r0 := fb_rng (a_0); have r1 := fb_rng (a_1); have e0 := k_0; rw [Int32.lt_iff_toInt_lt, z2] at e0; have e1 := k_1; rw [Int32.lt_iff_toInt_lt, z0] at e1; obtain ⟨n_0, hn_0, s0⟩ := nd_sub (x := (a_1)) (y := (1 : Int32)) (by (try rw [z0]); omega) (by (try rw [z0]); omega); rw [z0] at s0; have e2 := k_2; rw [hn_0, Int32.le_iff_toInt_le] at e2; obtain ⟨n_1, hn_1, s1⟩ := nd_add (x := (a_0)) (y := (1 : Int32)) (by (try rw [z0]); omega) (by (try rw [z0]); omega); rw [z0] at s1; rw [hn_1]; (try rw [z1]); omega)) v4_14 x_12 b_12.2 (isin_pos eqT eqS ra_7 e_12 b_12.1) c_16) hm_14) (v4_14 + 1) _ _ _ _ _ hP hD hS hO_3 ((hE_2.trans hE_3).mono (by decide +kernel)) (show ¬ ((v4_14 + 1) < 0) from by have e0 := iv0_14; rw [Int32.lt_iff_toInt_lt] at e0; have e1 := iv1_14; rw [Int32.lt_iff_toInt_lt] at e1; have z0 : (0 : Int32).toInt = 0 := (by decide +kernel); have z1 : (1 : Int32).toInt = 1 := (by decide +kernel); have z2 : (39 : Int32).toInt = 39 := (by decide +kernel); have ss := fb_addI (x := v4_14) (y := 1) (by omega) (by omega); rw [Int32.lt_iff_toInt_lt]; omega) (show ¬ (39 < (v4_14 + 1)) from ((fun (a_0 : Int32) (a_1 : Int32) (k_0 : ¬ (40 < a_1)) (k_1 : ¬ (a_1 < 1)) (k_2 : ¬ ((a_1 - 1) ≤ a_0)) => (show ¬ (39 < (a_0 + 1)) from by have z0 : (1 : Int32).toInt = 1 := (by decide +kernel); have z1 : (39 : Int32).toInt = 39 := (by decide +kernel); have z2 : (40 : Int32).toInt = 40 := (by decide +kernel); have r0 := fb_rng (a_0); have r1 := fb_rng (a_1); have e0 := k_0; rw [Int32.lt_iff_toInt_lt, z2] at e0; have e1 := k_1; rw [Int32.lt_iff_toInt_lt, z0] at e1; obtain ⟨n_0, hn_0, s0⟩ := nd_sub (x := (a_1)) (y := (1 : Int32)) (by (try rw [z0]); omega) (by (try rw [z0]); omega); rw [z0] at s0; have e2 := k_2; rw [hn_0, Int32.le_iff_toInt_le] at e2; obtain ⟨n_1, hn_1, s1⟩ := nd_add (x := (a_0)) (y := (1 : Int32)) (by (try rw [z0]); omega) (by (try rw [z0]); omega); rw [z0] at s1; rw [hn_1, Int32.lt_iff_toInt_lt, z1]; omega)) v4_14 x_12 b_12.2 (isin_pos eqT eqS ra_7 e_12 b_12.1) c_16)) (hole_next rw_14 po_4 po_5 iv0_14 (show ¬ (38 < v4_14) from ((fun (a_0 : Int32) (a_1 : Int32) (k_0 : ¬ (40 < a_1)) (k_1 : ¬ (a_1 < 1)) (k_2 : ¬ ((a_1 - 1) ≤ a_0)) => (show ¬ (38 < a_0) from by have z0 : (1 : Int32).toInt = 1 := (by decide +kernel); have z1 : (38 : Int32).toInt = 38 := (by decide +kernel); have z2 : (40 : Int32).toInt = 40 := (by decide +kernel); have r0 := fb_rng (a_0); have r1 := fb_rng (a_1); have e0 := k_0; rw [Int32.lt_iff_toInt_lt, z2] at e0; have e1 := k_1; rw [Int32.lt_iff_toInt_lt, z0] at e1; obtain ⟨n_0, hn_0, s0⟩ := nd_sub (x := (a_1)) (y := (1 : Int32)) (by (try rw [z0]); omega) (by (try rw [z0]); omega); rw [z0] at s0; have e2 := k_2; rw [hn_0, Int32.le_iff_toInt_le] at e2; rw [Int32.lt_iff_toInt_lt, z1]; omega)) v4_14 x_12 b_12.2 (isin_pos eqT eqS ra_7 e_12 b_12.1) c_16)) (lt_pred c_16 iv0_14 (isin_pos eqT eqS ra_7 e_12 b_12.1)) (fun s' hs => cnt40 hO_2 (hA_2.m mqS) hs) (le40 b_12.1 b_12.2) e_17 w_18 ow_18 (fun j => hE_3.ei (hA_2.m mqS) rfl)) (by exact ms_2 ((fun (a_0 : Int32) (a_1 : Int32) (k_0 : ¬ (40 < a_1)) (k_1 : ¬ (a_1 < 1)) (k_2 : ¬ ((a_1 - 1) ≤ a_0)) => (show 1 ≤ (39 : Int32).toInt - (a_0).toInt ∧ (39 : Int32).toInt - ((a_0) + (1 : Int32)).toInt + 1 ≤ (39 : Int32).toInt - (a_0).toInt from by have z0 : (1 : Int32).toInt = 1 := (by decide +kernel); have z1 : (39 : Int32).toInt = 39 := (by decide +kernel); have z2 : (40 : Int32).toInt = 40 := (by decide +kernel); have r0 := fb_rng (a_0); have r1 := fb_rng (a_1); have e0 := k_0; rw [Int32.lt_iff_toInt_lt, z2] at e0; have e1 := k_1; rw [Int32.lt_iff_toInt_lt, z0] at e1; obtain ⟨n_0, hn_0, s0⟩ := nd_sub (x := (a_1)) (y := (1 : Int32)) (by (try rw [z0]); omega) (by (try rw [z0]); omega); rw [z0] at s0; have e2 := k_2; rw [hn_0, Int32.le_iff_toInt_le] at e2; obtain ⟨n_1, hn_1, s1⟩ := nd_add (x := (a_0)) (y := (1 : Int32)) (by (try rw [z0]); omega) (by (try rw [z0]); omega); rw [z0] at s1; rw [hn_1]; (try rw [z1]); omega)) v4_14 x_12 b_12.2 (isin_pos eqT eqS ra_7 e_12 b_12.1) c_16) hm_14) (lv_sub hl [1, 2, 0] rfl)
      exact cut_14 4294967296 r_8 _ _ _ _ _ hP hD hS hO_1 Ext.rf po_10 po_11 (hole_start eqT eqS hT po_4 po_5 e_12 ow_13 (fun j => hE_1.ei mqT rfl)) (by exact ms_0 _ _) (lv_sub hl [3, 2, 0] rfl)
set_option maxHeartbeats 4000000 in
set_option maxRecDepth 100000 in
theorem c_Md_man_t (l : Launch) (dC : Nat → ClassId) (dI : Nat → Nat → Nat) (ct : Nat → ClassId) (L : List Nat) (f : TF) (hO_0 : Ok L f) (q0 : Nat) (m0 : q0 ∈ L ∧ tk f q0 = 27) (p_0 : Int32) (p_1 : Int32)   : Met l y_Md_man (.code y_Md_man b_Md_man 3 (some .int) :: TB) ({ frames := 2, cells := 0, slots := 0, locals := 46 }) (va_Pc [.ref q0, .int p_0, .int p_1] (PR dC dI (TW ct L f) (TT ct))) (vp_Si (fun r => True)) 0 0 (fun _ => False) := by
  refine Met.ofW (cc := b_Md_man) (maxL := 3) (ret := (some .int)) (by decide) rfl ?_
  intro p e s m args below meth c s₁ B hml hv
  obtain ⟨rfl, hP, hK, hN⟩ := hv
  have hx := B.exec
  have hb := B.bytes
  have hr := B.returns
  have hts := atoms_spec (ws := (.code y_Md_man b_Md_man 3 (some .int) :: TB)) B.pre
  have htb := fun w (h : w ∈ TB) => hts w (List.mem_cons_of_mem _ h)
  have hown : s.vm.findClass R_Md = some m.cls := findClass_of_methodNamed B.named
  have hlocks := B.notSynchronized
  have hl := lv_entry ([.ref q0, .int p_0, .int p_1]) (n := 3) (Nat.le_of_ble_eq_true rfl)
  rw [lg_entry_eq]
  generalize (lg_sl ([.ref q0, .int p_0, .int p_1]) ++ List.replicate (3 - (lg_sl ([.ref q0, .int p_0, .int p_1])).length) Slot.unset).toArray = ls at hl ⊢
  have hl : lv_has ls 3 [(0, .ref q0), (1, .int p_0), (2, .int p_1)] := hl
  refine lv_iload_n hx hb d_Md_man_0 rfl (lv_at hl 1 rfl) ?_
  refine vp_callSi (va_Run.run (va_runS (As := [.int p_0]) (rest := []) ⟨hx, hb, hml, hown, htb⟩ (c_Md_isMan l p_0) (cwS 1 htb (gd_S tw_504 tw_505 tw_479 tw_503) rfl rfl rfl (by decide +kernel) ⟨Nat.le_of_ble_eq_true rfl, Nat.le_of_ble_eq_true rfl⟩) ⟨fun _ _ _ _ h => h, fun U _ _ => ⟨rfl, trivial⟩⟩ rfl rfl hl.1 rfl (lv_room (Nat.le_of_ble_eq_true rfl)) d_Md_man_1 ⟨Nat.le_of_ble_eq_true rfl, Nat.le_of_ble_eq_true rfl⟩)) (fun r er => ?_)
  subst er
  by_cases c_2 : p_0 < 0
  · refine hb_ti 0 (by unfold f_Md_isMan; rw [if_pos c_2]; first | done | rfl) ?_
    refine lv_if_ne (tgt := 10) hx hb d_Md_man_4 (by decide) (fun h => absurd (by decide +kernel) h) (fun _ => ?_)
    refine lv_bipush (v := (-2)) hx hb d_Md_man_7 (by decide +kernel) ?_
    exact W.iret (v := (-2)) hx hb hr (fun t ht hW => ⟨(-2), rfl, trivial, ht⟩) t_nil d_Md_man_9
  · by_cases c_3 : 39 < p_0
    · refine hb_ti 0 (by unfold f_Md_isMan; rw [if_neg c_2, if_pos c_3]; first | done | rfl) ?_
      refine lv_if_ne (tgt := 10) hx hb d_Md_man_4 (by decide) (fun h => absurd (by decide +kernel) h) (fun _ => ?_)
      refine lv_bipush (v := (-2)) hx hb d_Md_man_7 (by decide +kernel) ?_
      exact W.iret (v := (-2)) hx hb hr (fun t ht hW => ⟨(-2), rfl, trivial, ht⟩) t_nil d_Md_man_9
    · refine hb_ti 1 (by unfold f_Md_isMan; rw [if_neg c_2, if_neg c_3]; first | done | rfl) ?_
      refine lv_if_ne (tgt := 10) hx hb d_Md_man_4 (by decide) (fun _ => ?_) (fun h => absurd h (by decide +kernel))
      refine lv_iload_n hx hb d_Md_man_10 rfl (lv_at hl 2 rfl) ?_
      by_cases c_4 : p_1 = 0
      · refine lv_tableIn (off := 41) (tgt := 52) hx hb d_Md_man_11 (by rw [c_4]; decide +kernel) (by rw [c_4]; decide +kernel) (by rw [c_4]; decide +kernel) (by decide) ?_
        refine lv_aload_n hx hb d_Md_man_52 rfl (lv_at hl 0 rfl) ?_
        refine tw_getr (D := (dC, dI)) (C := R_Md) (T := F_Md) (N := 64) (ci := 7) (kd := 27) (ct := ct) hx hb htb i_Md hown hK hP hO_0 m0 rfl rfl 9 (by decide) (htb (.fieldLink R_Md 58 "WaterMenModel" "state" "[I") tw_506) (fun _ h9 => h9) rfl d_Md_man_53 (fun q_5 e_5 m_5 => ?_)
        refine lv_iload_n hx hb d_Md_man_56 rfl (lv_at hl 1 rfl) ?_
        refine tw_aldI (ct := ct) hx hb hK hP hO_0 m_5 rfl (hb_inl c_2 c_3 (by decide +kernel)) d_Md_man_57 (fun x_6 e_6 b_6 => ?_)
        exact W.iret (v := x_6) hx hb hr (fun t ht hW => ⟨x_6, rfl, trivial, ht⟩) t_nil d_Md_man_58
      · by_cases c_7 : p_1 = 1
        · refine lv_tableIn (off := 48) (tgt := 59) hx hb d_Md_man_11 (by rw [c_7]; decide +kernel) (by rw [c_7]; decide +kernel) (by rw [c_7]; decide +kernel) (by decide) ?_
          refine lv_aload_n hx hb d_Md_man_59 rfl (lv_at hl 0 rfl) ?_
          refine tw_getr (D := (dC, dI)) (C := R_Md) (T := F_Md) (N := 64) (ci := 7) (kd := 27) (ct := ct) hx hb htb i_Md hown hK hP hO_0 m0 rfl rfl 10 (by decide) (htb (.fieldLink R_Md 61 "WaterMenModel" "master" "[I") tw_507) (fun _ h9 => h9) rfl d_Md_man_60 (fun q_8 e_8 m_8 => ?_)
          refine lv_iload_n hx hb d_Md_man_63 rfl (lv_at hl 1 rfl) ?_
          refine tw_aldI (ct := ct) hx hb hK hP hO_0 m_8 rfl (hb_inl c_2 c_3 (by decide +kernel)) d_Md_man_64 (fun x_9 e_9 b_9 => ?_)
          exact W.iret (v := x_9) hx hb hr (fun t ht hW => ⟨x_9, rfl, trivial, ht⟩) t_nil d_Md_man_65
        · by_cases c_10 : p_1 = 2
          · refine lv_tableIn (off := 55) (tgt := 66) hx hb d_Md_man_11 (by rw [c_10]; decide +kernel) (by rw [c_10]; decide +kernel) (by rw [c_10]; decide +kernel) (by decide) ?_
            refine lv_aload_n hx hb d_Md_man_66 rfl (lv_at hl 0 rfl) ?_
            refine lv_iload_n hx hb d_Md_man_67 rfl (lv_at hl 1 rfl) ?_
            refine vp_callSi (va_Run.run (va_runV (As := [.int p_0]) (rest := []) ⟨hx, hb, hml, hown, htb⟩ (c_Md_rowOf_t l dC dI ct L f hO_0 q0 m0 p_0) (cwV 1 htb (gd_V tw_519 tw_520 tw_521 tw_479 tw_518) rfl rfl rfl (by decide +kernel) ⟨Nat.le_of_ble_eq_true rfl, Nat.le_of_ble_eq_true rfl⟩) ⟨pr_blind, tw_recv hK hP m0 rfl rfl, pr_pre hP hK hN⟩ rfl rfl hl.1 rfl (lv_room (Nat.le_of_ble_eq_true rfl)) d_Md_man_68 ⟨Nat.le_of_ble_eq_true rfl, Nat.le_of_ble_eq_true rfl⟩)) (fun r_11 er_11 => ?_)
            rcases er_11 with ⟨rfl, ra_12, -⟩ | ⟨po_13, po_14, po_15, ra_16, -⟩
            · exact W.iret (v := (-1)) hx hb hr (fun t ht hW => ⟨(-1), rfl, trivial, ht⟩) t_nil d_Md_man_71
            · exact W.iret (v := r_11) hx hb hr (fun t ht hW => ⟨r_11, rfl, trivial, ht⟩) t_nil d_Md_man_71
          · by_cases c_17 : p_1 = 3
            · refine lv_tableIn (off := 61) (tgt := 72) hx hb d_Md_man_11 (by rw [c_17]; decide +kernel) (by rw [c_17]; decide +kernel) (by rw [c_17]; decide +kernel) (by decide) ?_
              refine lv_aload_n hx hb d_Md_man_72 rfl (lv_at hl 0 rfl) ?_
              refine lv_iload_n hx hb d_Md_man_73 rfl (lv_at hl 1 rfl) ?_
              refine vp_callSi (va_Run.run (va_runV (As := [.int p_0]) (rest := []) ⟨hx, hb, hml, hown, htb⟩ (c_Md_placeOf_t l dC dI ct L f hO_0 q0 m0 p_0) (cwV 1 htb (gd_V tw_523 tw_524 tw_525 tw_479 tw_522) rfl rfl rfl (by decide +kernel) ⟨Nat.le_of_ble_eq_true rfl, Nat.le_of_ble_eq_true rfl⟩) ⟨pr_blind, tw_recv hK hP m0 rfl rfl, pr_pre hP hK hN⟩ rfl rfl hl.1 rfl (lv_room (Nat.le_of_ble_eq_true rfl)) d_Md_man_74 ⟨Nat.le_of_ble_eq_true rfl, Nat.le_of_ble_eq_true rfl⟩)) (fun r_18 er_18 => ?_)
              rcases er_18 with ⟨rfl, ra_19, -⟩ | ⟨po_20, po_21, -⟩
              · exact W.iret (v := (-1)) hx hb hr (fun t ht hW => ⟨(-1), rfl, trivial, ht⟩) t_nil d_Md_man_77
              · exact W.iret (v := r_18) hx hb hr (fun t ht hW => ⟨r_18, rfl, trivial, ht⟩) t_nil d_Md_man_77
            · by_cases c_22 : p_1 = 4
              · refine lv_tableIn (off := 67) (tgt := 78) hx hb d_Md_man_11 (by rw [c_22]; decide +kernel) (by rw [c_22]; decide +kernel) (by rw [c_22]; decide +kernel) (by decide) ?_
                refine lv_aload_n hx hb d_Md_man_78 rfl (lv_at hl 0 rfl) ?_
                refine tw_getr (D := (dC, dI)) (C := R_Md) (T := F_Md) (N := 64) (ci := 7) (kd := 27) (ct := ct) hx hb htb i_Md hown hK hP hO_0 m0 rfl rfl 15 (by decide) (htb (.fieldLink R_Md 76 "WaterMenModel" "coins" "[I") tw_526) (fun _ h9 => h9) rfl d_Md_man_79 (fun q_23 e_23 m_23 => ?_)
                refine lv_iload_n hx hb d_Md_man_82 rfl (lv_at hl 1 rfl) ?_
                refine tw_aldI (ct := ct) hx hb hK hP hO_0 m_23 rfl (hb_inl c_2 c_3 (by decide +kernel)) d_Md_man_83 (fun x_24 e_24 b_24 => ?_)
                exact W.iret (v := x_24) hx hb hr (fun t ht hW => ⟨x_24, rfl, trivial, ht⟩) t_nil d_Md_man_84
              · by_cases c_25 : p_1 = 5
                · refine lv_tableIn (off := 74) (tgt := 85) hx hb d_Md_man_11 (by rw [c_25]; decide +kernel) (by rw [c_25]; decide +kernel) (by rw [c_25]; decide +kernel) (by decide) ?_
                  refine lv_aload_n hx hb d_Md_man_85 rfl (lv_at hl 0 rfl) ?_
                  refine tw_getr (D := (dC, dI)) (C := R_Md) (T := F_Md) (N := 64) (ci := 7) (kd := 27) (ct := ct) hx hb htb i_Md hown hK hP hO_0 m0 rfl rfl 16 (by decide) (htb (.fieldLink R_Md 79 "WaterMenModel" "wayOf" "[I") tw_527) (fun _ h9 => h9) rfl d_Md_man_86 (fun q_26 e_26 m_26 => ?_)
                  refine lv_iload_n hx hb d_Md_man_89 rfl (lv_at hl 1 rfl) ?_
                  refine tw_aldI (ct := ct) hx hb hK hP hO_0 m_26 rfl (hb_inl c_2 c_3 (by decide +kernel)) d_Md_man_90 (fun x_27 e_27 b_27 => ?_)
                  refine lv_if_lt (tgt := 98) hx hb d_Md_man_91 (by decide) (fun c_28 => ?_) (fun c_28 => ?_)
                  · refine lv_iconst (v := 0) hx hb d_Md_man_98 (by decide +kernel) ?_
                    exact W.iret (v := 0) hx hb hr (fun t ht hW => ⟨0, rfl, trivial, ht⟩) t_nil d_Md_man_99
                  · refine lv_iconst (v := 1) hx hb d_Md_man_94 (by decide +kernel) ?_
                    refine lv_goto (tgt := 99) hx hb d_Md_man_95 (by decide) ?_
                    exact W.iret (v := 1) hx hb hr (fun t ht hW => ⟨1, rfl, trivial, ht⟩) t_nil d_Md_man_99
                · by_cases c_29 : p_1 = 6
                  · refine lv_tableIn (off := 89) (tgt := 100) hx hb d_Md_man_11 (by rw [c_29]; decide +kernel) (by rw [c_29]; decide +kernel) (by rw [c_29]; decide +kernel) (by decide) ?_
                    refine lv_aload_n hx hb d_Md_man_100 rfl (lv_at hl 0 rfl) ?_
                    refine tw_getr (D := (dC, dI)) (C := R_Md) (T := F_Md) (N := 64) (ci := 7) (kd := 27) (ct := ct) hx hb htb i_Md hown hK hP hO_0 m0 rfl rfl 17 (by decide) (htb (.fieldLink R_Md 82 "WaterMenModel" "tripsOf" "[I") tw_528) (fun _ h9 => h9) rfl d_Md_man_101 (fun q_30 e_30 m_30 => ?_)
                    refine lv_iload_n hx hb d_Md_man_104 rfl (lv_at hl 1 rfl) ?_
                    refine tw_aldI (ct := ct) hx hb hK hP hO_0 m_30 rfl (hb_inl c_2 c_3 (by decide +kernel)) d_Md_man_105 (fun x_31 e_31 b_31 => ?_)
                    exact W.iret (v := x_31) hx hb hr (fun t ht hW => ⟨x_31, rfl, trivial, ht⟩) t_nil d_Md_man_106
                  · refine lv_tableOut (tgt := 107) hx hb d_Md_man_11 (by have h0 := lv_neT c_4 (show (0 : Int32).toInt = 0 by decide +kernel); have h1 := lv_neT c_7 (show (1 : Int32).toInt = 1 by decide +kernel); have h2 := lv_neT c_10 (show (2 : Int32).toInt = 2 by decide +kernel); have h3 := lv_neT c_17 (show (3 : Int32).toInt = 3 by decide +kernel); have h4 := lv_neT c_22 (show (4 : Int32).toInt = 4 by decide +kernel); have h5 := lv_neT c_25 (show (5 : Int32).toInt = 5 by decide +kernel); have h6 := lv_neT c_29 (show (6 : Int32).toInt = 6 by decide +kernel); omega) (by decide) ?_
                    refine lv_bipush (v := (-2)) hx hb d_Md_man_107 (by decide +kernel) ?_
                    exact W.iret (v := (-2)) hx hb hr (fun t ht hW => ⟨(-2), rfl, trivial, ht⟩) t_nil d_Md_man_109
def W_Md_join_t : List (Nat × Nat) := [(43, 1000), (44, 1000)]
set_option maxHeartbeats 4000000 in
set_option maxRecDepth 100000 in
theorem c_Md_join_t (l : Launch) (dC : Nat → ClassId) (dI : Nat → Nat → Nat) (ct : Nat → ClassId) (L : List Nat) (f : TF) (hO_0 : Ok L f) (q0 : Nat) (m0 : q0 ∈ L ∧ tk f q0 = 27) (hT : TInv f q0) (sz : Nat) (p_0 : Int32) (p_1 : Int32)   : Met l y_Md_join (.code y_Md_join b_Md_join 3 (some .int) :: TB) ({ frames := 2, cells := 0, slots := 0, locals := 43 }) (va_Pc [.ref q0, .int p_0, .int p_1] (PC dC dI (TW ct L f) (TT ct) sz)) (va_Qi (fun r (u : TSt) => Ok u.1 u.2 ∧ Ext W_Md_join_t L f u.1 u.2 ∧ TInv u.2 q0 ∧ (True)) (fun (u : TSt) t => va_P (dC, dI) vwCl (TW ct u.1 u.2) t.heap ∧ va_K (dC, dI) vwCl (TT ct) t ∧ va_D (va_A (TW ct L f) sz) (TW ct u.1 u.2)) (va_A (TW ct L f) sz)) 0 0 (va_A (TW ct L f) sz) := by
  refine Met.ofW (cc := b_Md_join) (maxL := 3) (ret := (some .int)) (by decide) rfl ?_
  intro p e s m args below meth c s₁ B hml hv
  obtain ⟨rfl, hsz, hP, hK, hD0, hN⟩ := hv
  have hx := B.exec
  have hb := B.bytes
  have hr := B.returns
  have hts := atoms_spec (ws := (.code y_Md_join b_Md_join 3 (some .int) :: TB)) B.pre
  have htb := fun w (h : w ∈ TB) => hts w (List.mem_cons_of_mem _ h)
  have hown : s.vm.findClass R_Md = some m.cls := findClass_of_methodNamed B.named
  have hlocks := B.notSynchronized
  have hl := lv_entry ([.ref q0, .int p_0, .int p_1]) (n := 3) (Nat.le_of_ble_eq_true rfl)
  rw [lg_entry_eq]
  generalize (lg_sl ([.ref q0, .int p_0, .int p_1]) ++ List.replicate (3 - (lg_sl ([.ref q0, .int p_0, .int p_1])).length) Slot.unset).toArray = ls at hl ⊢
  have hl : lv_has ls 3 [(0, .ref q0), (1, .int p_0), (2, .int p_1)] := hl
  subst hsz
  have hD := hD0.self (sz := s.heap.size)
  obtain ⟨A, hAe⟩ : ∃ A, va_A (TW ct L f) s.heap.size = A := ⟨_, rfl⟩
  rw [hAe] at hD
  have hA : ∀ q : Nat, s.heap.size ≤ q → A q := fun q h => by rw [← hAe]; exact Or.inr h
  have hS : va_S A s.heap s.heap [] := va_S.rf
  have hA_0 : Ext [] L f L f := Ext.rf
  suffices hGo : ∀ (H : Heap) (locs : List Loc), va_P (dC, dI) vwCl (TW ct L f) H → va_S A s.heap H locs → W p l e (headSpec (.code y_Md_join b_Md_join 3 (some .int) :: TB) ({ frames := 2, cells := 0, slots := 0, locals := 43 })).room s m [.ref q0, .int p_0, .int p_1].toArray below meth c H locs 0 0 (MQ below (va_Qi (fun r (u : TSt) => Ok u.1 u.2 ∧ Ext W_Md_join_t L f u.1 u.2 ∧ TInv u.2 q0 ∧ (True)) (fun (u : TSt) t => va_P (dC, dI) vwCl (TW ct u.1 u.2) t.heap ∧ va_K (dC, dI) vwCl (TT ct) t ∧ va_D (va_A (TW ct L f) s.heap.size) (TW ct u.1 u.2)) (va_A (TW ct L f) s.heap.size)) [.ref q0, .int p_0, .int p_1].toArray s 0 0 (va_A (TW ct L f) s.heap.size)) (F0 m 0 ls []) from hGo _ _ hP hS
  clear hP hS
  intro H locs hP hS
  obtain ⟨qT, eqT, mqT⟩ := hO_0.r m0 (j := 20) (k' := 44) rfl
  obtain ⟨qS, eqS, mqS⟩ := hO_0.r m0 (j := 19) (k' := 43) rfl
  have bs_1 := hO_0.i m0 (show slotD 27 2 = some (.inl (0, 12)) from rfl)
  refine lv_aload_n hx hb d_Md_join_0 rfl (lv_at hl 0 rfl) ?_
  refine lv_iload_n hx hb d_Md_join_1 rfl (lv_at hl 1 rfl) ?_
  refine vp_callSi (va_Run.run (va_runV (As := [.int p_0]) (rest := []) ⟨hx, hb, hml, hown, htb⟩ (c_Md_isStairs_t l dC dI ct L f hO_0 q0 m0 p_0) (cwV 1 htb (gd_V tw_530 tw_531 tw_532 tw_479 tw_529) rfl rfl rfl (by decide +kernel) ⟨Nat.le_of_ble_eq_true rfl, Nat.le_of_ble_eq_true rfl⟩) ⟨pr_blind, tw_recv hK hP m0 rfl rfl, pr_pre hP hK hN⟩ rfl rfl hl.1 rfl (lv_room (Nat.le_of_ble_eq_true rfl)) d_Md_join_2 ⟨Nat.le_of_ble_eq_true rfl, Nat.le_of_ble_eq_true rfl⟩)) (fun r_2 er_2 => ?_)
  rcases er_2 with ⟨rfl, -⟩ | ⟨rfl, po_3, po_4, po_5, -⟩
  · refine lv_if_eq (tgt := 15) hx hb d_Md_join_5 (by decide) (fun _ => ?_) (fun h => absurd (by decide +kernel) h)
    refine lv_iconst (v := (-1)) hx hb d_Md_join_15 (by decide +kernel) ?_
    refine W.widen (k := 0) (n := 0) (Nat.le_of_ble_eq_true rfl) (Nat.le_of_ble_eq_true rfl) ?_
    exact W.iret (v := (-1)) hx hb hr (fun t ht hW => ⟨⟨(-1), (L, f), rfl, ⟨hO_0, hA_0.mono (by decide +kernel), hT, trivial⟩, by rw [ht]; exact hP, va_K.moved hW.alike hK, by rw [hAe]; exact hD⟩, by rw [hAe]; exact hS.F ht⟩) (by rw [hAe]; exact hS.2.2) d_Md_join_16
  · refine lv_if_eq (tgt := 15) hx hb d_Md_join_5 (by decide) (fun h => absurd h (by decide +kernel)) (fun _ => ?_)
    refine lv_iload_n hx hb d_Md_join_8 rfl (lv_at hl 2 rfl) ?_
    refine vp_callSi (va_Run.run (va_runS (As := [.int p_1]) (rest := []) ⟨hx, hb, hml, hown, htb⟩ (c_Md_isMan l p_1) (cwS 1 htb (gd_S tw_504 tw_505 tw_479 tw_503) rfl rfl rfl (by decide +kernel) ⟨Nat.le_of_ble_eq_true rfl, Nat.le_of_ble_eq_true rfl⟩) ⟨fun _ _ _ _ h => h, fun U _ _ => ⟨rfl, trivial⟩⟩ rfl rfl hl.1 rfl (lv_room (Nat.le_of_ble_eq_true rfl)) d_Md_join_9 ⟨Nat.le_of_ble_eq_true rfl, Nat.le_of_ble_eq_true rfl⟩)) (fun r er => ?_)
    subst er
    by_cases c_7 : p_1 < 0
    · refine hb_ti 0 (by unfold f_Md_isMan; rw [if_pos c_7]; first | done | rfl) ?_
      refine lv_if_ne (tgt := 17) hx hb d_Md_join_12 (by decide) (fun h => absurd (by decide +kernel) h) (fun _ => ?_)
      refine lv_iconst (v := (-1)) hx hb d_Md_join_15 (by decide +kernel) ?_
      refine W.widen (k := 0) (n := 0) (Nat.le_of_ble_eq_true rfl) (Nat.le_of_ble_eq_true rfl) ?_
      exact W.iret (v := (-1)) hx hb hr (fun t ht hW => ⟨⟨(-1), (L, f), rfl, ⟨hO_0, hA_0.mono (by decide +kernel), hT, trivial⟩, by rw [ht]; exact hP, va_K.moved hW.alike hK, by rw [hAe]; exact hD⟩, by rw [hAe]; exact hS.F ht⟩) (by rw [hAe]; exact hS.2.2) d_Md_join_16
    · by_cases c_8 : 39 < p_1
      · refine hb_ti 0 (by unfold f_Md_isMan; rw [if_neg c_7, if_pos c_8]; first | done | rfl) ?_
        refine lv_if_ne (tgt := 17) hx hb d_Md_join_12 (by decide) (fun h => absurd (by decide +kernel) h) (fun _ => ?_)
        refine lv_iconst (v := (-1)) hx hb d_Md_join_15 (by decide +kernel) ?_
        refine W.widen (k := 0) (n := 0) (Nat.le_of_ble_eq_true rfl) (Nat.le_of_ble_eq_true rfl) ?_
        exact W.iret (v := (-1)) hx hb hr (fun t ht hW => ⟨⟨(-1), (L, f), rfl, ⟨hO_0, hA_0.mono (by decide +kernel), hT, trivial⟩, by rw [ht]; exact hP, va_K.moved hW.alike hK, by rw [hAe]; exact hD⟩, by rw [hAe]; exact hS.F ht⟩) (by rw [hAe]; exact hS.2.2) d_Md_join_16
      · refine hb_ti 1 (by unfold f_Md_isMan; rw [if_neg c_7, if_neg c_8]; first | done | rfl) ?_
        refine lv_if_ne (tgt := 17) hx hb d_Md_join_12 (by decide) (fun _ => ?_) (fun h => absurd h (by decide +kernel))
        refine lv_aload_n hx hb d_Md_join_17 rfl (lv_at hl 0 rfl) ?_
        refine tw_getr (D := (dC, dI)) (C := R_Md) (T := F_Md) (N := 64) (ci := 7) (kd := 27) (ct := ct) hx hb htb i_Md hown hK hP hO_0 m0 rfl rfl 9 (by decide) (htb (.fieldLink R_Md 58 "WaterMenModel" "state" "[I") tw_506) (fun _ h9 => h9) rfl d_Md_join_18 (fun q_9 e_9 m_9 => ?_)
        refine lv_iload_n hx hb d_Md_join_21 rfl (lv_at hl 2 rfl) ?_
        refine tw_aldI (ct := ct) hx hb hK hP hO_0 m_9 rfl (hb_inl c_7 c_8 (by decide +kernel)) d_Md_join_22 (fun x_10 e_10 b_10 => ?_)
        refine lv_iconst (v := 2) hx hb d_Md_join_23 (by decide +kernel) ?_
        refine lv_icmp_ne (tgt := 44) hx hb d_Md_join_24 (by decide) (fun c_11 => ?_) (fun c_11 => ?_)
        · refine lv_bipush (v := (-2)) hx hb d_Md_join_44 (by decide +kernel) ?_
          refine W.widen (k := 0) (n := 0) (Nat.le_of_ble_eq_true rfl) (Nat.le_of_ble_eq_true rfl) ?_
          exact W.iret (v := (-2)) hx hb hr (fun t ht hW => ⟨⟨(-2), (L, f), rfl, ⟨hO_0, hA_0.mono (by decide +kernel), hT, trivial⟩, by rw [ht]; exact hP, va_K.moved hW.alike hK, by rw [hAe]; exact hD⟩, by rw [hAe]; exact hS.F ht⟩) (by rw [hAe]; exact hS.2.2) d_Md_join_46
        · refine lv_aload_n hx hb d_Md_join_27 rfl (lv_at hl 0 rfl) ?_
          refine tw_getr (D := (dC, dI)) (C := R_Md) (T := F_Md) (N := 64) (ci := 7) (kd := 27) (ct := ct) hx hb htb i_Md hown hK hP hO_0 m0 rfl rfl 16 (by decide) (htb (.fieldLink R_Md 79 "WaterMenModel" "wayOf" "[I") tw_527) (fun _ h9 => h9) rfl d_Md_join_28 (fun q_12 e_12 m_12 => ?_)
          refine lv_iload_n hx hb d_Md_join_31 rfl (lv_at hl 2 rfl) ?_
          refine tw_aldI (ct := ct) hx hb hK hP hO_0 m_12 rfl (hb_inl c_7 c_8 (by decide +kernel)) d_Md_join_32 (fun x_13 e_13 b_13 => ?_)
          refine lv_if_ge (tgt := 44) hx hb d_Md_join_33 (by decide) (fun c_14 => ?_) (fun c_14 => ?_)
          · refine lv_bipush (v := (-2)) hx hb d_Md_join_44 (by decide +kernel) ?_
            refine W.widen (k := 0) (n := 0) (Nat.le_of_ble_eq_true rfl) (Nat.le_of_ble_eq_true rfl) ?_
            exact W.iret (v := (-2)) hx hb hr (fun t ht hW => ⟨⟨(-2), (L, f), rfl, ⟨hO_0, hA_0.mono (by decide +kernel), hT, trivial⟩, by rw [ht]; exact hP, va_K.moved hW.alike hK, by rw [hAe]; exact hD⟩, by rw [hAe]; exact hS.F ht⟩) (by rw [hAe]; exact hS.2.2) d_Md_join_46
          · refine lv_aload_n hx hb d_Md_join_36 rfl (lv_at hl 0 rfl) ?_
            refine lv_iload_n hx hb d_Md_join_37 rfl (lv_at hl 2 rfl) ?_
            refine vp_callSi (va_Run.run (va_runV (As := [.int p_1]) (rest := []) ⟨hx, hb, hml, hown, htb⟩ (c_Md_rowOf_t l dC dI ct L f hO_0 q0 m0 p_1) (cwV 1 htb (gd_V tw_519 tw_520 tw_521 tw_479 tw_518) rfl rfl rfl (by decide +kernel) ⟨Nat.le_of_ble_eq_true rfl, Nat.le_of_ble_eq_true rfl⟩) ⟨pr_blind, tw_recv hK hP m0 rfl rfl, pr_pre hP hK hN⟩ rfl rfl hl.1 rfl (lv_room (Nat.le_of_ble_eq_true rfl)) d_Md_join_38 ⟨Nat.le_of_ble_eq_true rfl, Nat.le_of_ble_eq_true rfl⟩)) (fun r_15 er_15 => ?_)
            rcases er_15 with ⟨rfl, ra_16, -⟩ | ⟨po_17, po_18, po_19, ra_20, -⟩
            · refine lv_if_lt (tgt := 47) hx hb d_Md_join_41 (by decide) (fun _ => ?_) (fun h => absurd (by decide +kernel) h)
              refine lv_aload_n hx hb d_Md_join_47 rfl (lv_at hl 0 rfl) ?_
              refine tw_getR (D := (dC, dI)) (C := R_Md) (T := F_Md) (N := 64) (ci := 7) (kd := 27) (ct := ct) hx hb htb i_Md hown hK hP m0 rfl rfl 20 eqT (by decide) (htb (.fieldLink R_Md 91 "WaterMenModel" "turn" "[I") tw_517) (fun _ h9 => h9) rfl d_Md_join_48 ?_
              refine hb_tv (.ref qT) rfl ?_
              refine lv_bipush (v := 40) hx hb d_Md_join_51 (by decide +kernel) ?_
              refine lv_iload_n hx hb d_Md_join_53 rfl (lv_at hl 1 rfl) ?_
              refine lv_imul hx hb d_Md_join_54 ?_
              refine lv_aload_n hx hb d_Md_join_55 rfl (lv_at hl 0 rfl) ?_
              refine tw_getR (D := (dC, dI)) (C := R_Md) (T := F_Md) (N := 64) (ci := 7) (kd := 27) (ct := ct) hx hb htb i_Md hown hK hP m0 rfl rfl 19 eqS (by decide) (htb (.fieldLink R_Md 88 "WaterMenModel" "turns" "[I") tw_516) (fun _ h9 => h9) rfl d_Md_join_56 ?_
              refine hb_tv (.ref qS) rfl ?_
              refine lv_iload_n hx hb d_Md_join_59 rfl (lv_at hl 1 rfl) ?_
              refine tw_aldI (ct := ct) hx hb hK hP hO_0 mqS rfl (hb_inl po_3 po_4 (by decide +kernel)) d_Md_join_60 (fun x_21 e_21 b_21 => ?_)
              refine lv_iadd hx hb d_Md_join_61 ?_
              refine lv_iload_n hx hb d_Md_join_62 rfl (lv_at hl 2 rfl) ?_
              refine tw_astI (ct := ct) (x := p_1) hx hb hK hP hD hS hO_0 mqT rfl ((fun (a_0 : Int32) (a_1 : Int32) (a_2 : Int32) (k_0 : ¬ (a_0 < 0)) (k_1 : ¬ (a_1 ≤ a_0)) (k_2 : ¬ (a_2 < 0)) (k_3 : ¬ (39 < a_2)) (k_4 : ¬ (12 < a_1)) => (show vp_in (((40 * a_0) + a_2)) 480 from by have z0 : (0 : Int32).toInt = 0 := (by decide +kernel); have z1 : (12 : Int32).toInt = 12 := (by decide +kernel); have z2 : (39 : Int32).toInt = 39 := (by decide +kernel); have z3 : (40 : Int32).toInt = 40 := (by decide +kernel); have r0 := fb_rng (a_0); have r1 := fb_rng (a_1); have r2 := fb_rng (a_2); have e0 := k_0; rw [Int32.lt_iff_toInt_lt, z0] at e0; have e1 := k_1; rw [Int32.le_iff_toInt_le] at e1; have e2 := k_2; rw [Int32.lt_iff_toInt_lt, z0] at e2; have e3 := k_3; rw [Int32.lt_iff_toInt_lt, z2] at e3; have e4 := k_4; rw [Int32.lt_iff_toInt_lt, z1] at e4; obtain ⟨n_0, hn_0, s0⟩ := nd_mul (x := (40 : Int32)) (y := (a_0)) (by (try rw [z3]); omega) (by (try rw [z3]); omega); rw [z3] at s0; obtain ⟨n_1, hn_1, s1⟩ := nd_add (x := n_0) (y := (a_2)) (by omega) (by omega); rw [hn_0, hn_1, vp_in_iff]; omega)) p_0 (ti f q0 2) x_21 po_3 po_5 b_21.1 (join_room hO_0 mqT eqT eqS hT ra_16 po_3 po_4 po_5 c_7 c_8 e_21 b_21.1 b_21.2) bs_1.2) ⟨c_7, c_8⟩ d_Md_join_63 (fun f_1 H locs hP hD hS hO_1 hE_1 w_22 ow_22 hF_1 => ?_)
              have hA_1 := hA_0.trans hE_1
              refine lv_aload_n hx hb d_Md_join_64 rfl (lv_at hl 0 rfl) ?_
              refine tw_getR (D := (dC, dI)) (C := R_Md) (T := F_Md) (N := 64) (ci := 7) (kd := 27) (ct := ct) hx hb htb i_Md hown hK hP (hA_1.m m0) rfl rfl 19 ((hA_1.er m0 rfl).trans eqS) (by decide) (htb (.fieldLink R_Md 88 "WaterMenModel" "turns" "[I") tw_516) (fun _ h9 => h9) rfl d_Md_join_65 ?_
              refine hb_tv (.ref qS) rfl ?_
              refine lv_iload_n hx hb d_Md_join_68 rfl (lv_at hl 1 rfl) ?_
              refine lv_dup2_11 hx hb d_Md_join_69 rfl rfl ?_
              refine tw_aldxI (ct := ct) (x := x_21) hx hb hK hP (hA_1.m mqS) rfl (hb_inl po_3 po_4 (by decide +kernel)) ((hA_1.ei mqS rfl).trans e_21) d_Md_join_70 ?_
              refine lv_iconst (v := 1) hx hb d_Md_join_71 (by decide +kernel) ?_
              refine lv_iadd hx hb d_Md_join_72 ?_
              refine tw_astI (ct := ct) (x := (x_21 + 1)) hx hb hK hP hD hS hO_1 (hA_1.m mqS) rfl (hb_inl po_3 po_4 (by decide +kernel)) ⟨(show ¬ ((x_21 + 1) < 0) from by have e0 := b_21.1; rw [Int32.lt_iff_toInt_lt] at e0; have e1 := (join_room hO_0 mqT eqT eqS hT ra_16 po_3 po_4 po_5 c_7 c_8 e_21 b_21.1 b_21.2); rw [Int32.lt_iff_toInt_lt] at e1; have z0 : (0 : Int32).toInt = 0 := (by decide +kernel); have z1 : (1 : Int32).toInt = 1 := (by decide +kernel); have z2 : (39 : Int32).toInt = 39 := (by decide +kernel); have ss := fb_addI (x := x_21) (y := 1) (by omega) (by omega); rw [Int32.lt_iff_toInt_lt]; omega), (show ¬ (40 < (x_21 + 1)) from by have e0 := b_21.1; rw [Int32.lt_iff_toInt_lt] at e0; have e1 := (join_room hO_0 mqT eqT eqS hT ra_16 po_3 po_4 po_5 c_7 c_8 e_21 b_21.1 b_21.2); rw [Int32.lt_iff_toInt_lt] at e1; have z0 : (0 : Int32).toInt = 0 := (by decide +kernel); have z1 : (1 : Int32).toInt = 1 := (by decide +kernel); have z2 : (39 : Int32).toInt = 39 := (by decide +kernel); have z3 : (40 : Int32).toInt = 40 := (by decide +kernel); have ss := fb_addI (x := x_21) (y := 1) (by omega) (by omega); rw [Int32.lt_iff_toInt_lt]; omega)⟩ d_Md_join_73 (fun f_2 H locs hP hD hS hO_2 hE_2 w_24 ow_24 hF_2 => ?_)
              have hA_2 := hA_1.trans hE_2
              refine lv_aload_n hx hb d_Md_join_74 rfl (lv_at hl 0 rfl) ?_
              refine tw_getR (D := (dC, dI)) (C := R_Md) (T := F_Md) (N := 64) (ci := 7) (kd := 27) (ct := ct) hx hb htb i_Md hown hK hP (hA_2.m m0) rfl rfl 19 ((hA_2.er m0 rfl).trans eqS) (by decide) (htb (.fieldLink R_Md 88 "WaterMenModel" "turns" "[I") tw_516) (fun _ h9 => h9) rfl d_Md_join_75 ?_
              refine hb_tv (.ref qS) rfl ?_
              refine lv_iload_n hx hb d_Md_join_78 rfl (lv_at hl 1 rfl) ?_
              refine tw_aldxI (ct := ct) (x := (x_21 + 1)) hx hb hK hP (hA_2.m mqS) rfl (hb_inl po_3 po_4 (by decide +kernel)) w_24 d_Md_join_79 ?_
              refine W.widen (k := 0) (n := 0) (Nat.le_of_ble_eq_true rfl) (Nat.le_of_ble_eq_true rfl) ?_
              exact W.iret (v := (x_21 + 1)) hx hb hr (fun t ht hW => ⟨⟨(x_21 + 1), (L, f_2), rfl, ⟨hO_2, hA_2.mono (by decide +kernel), (tinv_join eqT eqS ((hA_2.er m0 rfl).trans eqT) ((hA_2.er m0 rfl).trans eqS) hT ra_16 po_3 po_4 po_5 e_21 b_21.1 (join_room hO_0 mqT eqT eqS hT ra_16 po_3 po_4 po_5 c_7 c_8 e_21 b_21.1 b_21.2) w_22 ow_22 (fun j => hE_2.ei (hE_1.m mqT) rfl) w_24 ow_24 (fun j => hE_1.ei mqS rfl) (fun s' hs => cnt40 hO_0 mqS hs)), trivial⟩, by rw [ht]; exact hP, va_K.moved hW.alike hK, by rw [hAe]; exact hD⟩, by rw [hAe]; exact hS.F ht⟩) (by rw [hAe]; exact hS.2.2) d_Md_join_80
            · refine lv_if_lt (tgt := 47) hx hb d_Md_join_41 (by decide) (fun h => absurd h po_17) (fun _ => ?_)
              refine lv_bipush (v := (-2)) hx hb d_Md_join_44 (by decide +kernel) ?_
              refine W.widen (k := 0) (n := 0) (Nat.le_of_ble_eq_true rfl) (Nat.le_of_ble_eq_true rfl) ?_
              exact W.iret (v := (-2)) hx hb hr (fun t ht hW => ⟨⟨(-2), (L, f), rfl, ⟨hO_0, hA_0.mono (by decide +kernel), hT, trivial⟩, by rw [ht]; exact hP, va_K.moved hW.alike hK, by rw [hAe]; exact hD⟩, by rw [hAe]; exact hS.F ht⟩) (by rw [hAe]; exact hS.2.2) d_Md_join_46
def W_Md_leave_t : List (Nat × Nat) := [(43, 1000), (44, 1000)]
set_option maxHeartbeats 4000000 in
set_option maxRecDepth 100000 in
theorem c_Md_leave_t (l : Launch) (dC : Nat → ClassId) (dI : Nat → Nat → Nat) (ct : Nat → ClassId) (L : List Nat) (f : TF) (hO_0 : Ok L f) (q0 : Nat) (m0 : q0 ∈ L ∧ tk f q0 = 27) (hT : TInv f q0) (sz : Nat) (p_0 : Int32)   : Met l y_Md_leave (.code y_Md_leave b_Md_leave 2 (some .int) :: TB) ({ frames := 3, cells := 0, slots := 0, locals := 70 }) (va_Pc [.ref q0, .int p_0] (PC dC dI (TW ct L f) (TT ct) sz)) (va_Qi (fun r (u : TSt) => Ok u.1 u.2 ∧ Ext W_Md_leave_t L f u.1 u.2 ∧ TInv u.2 q0 ∧ (True)) (fun (u : TSt) t => va_P (dC, dI) vwCl (TW ct u.1 u.2) t.heap ∧ va_K (dC, dI) vwCl (TT ct) t ∧ va_D (va_A (TW ct L f) sz) (TW ct u.1 u.2)) (va_A (TW ct L f) sz)) 0 0 (va_A (TW ct L f) sz) := by
  refine Met.ofW (cc := b_Md_leave) (maxL := 2) (ret := (some .int)) (by decide) rfl ?_
  intro p e s m args below meth c s₁ B hml hv
  obtain ⟨rfl, hsz, hP, hK, hD0, hN⟩ := hv
  have hx := B.exec
  have hb := B.bytes
  have hr := B.returns
  have hts := atoms_spec (ws := (.code y_Md_leave b_Md_leave 2 (some .int) :: TB)) B.pre
  have htb := fun w (h : w ∈ TB) => hts w (List.mem_cons_of_mem _ h)
  have hown : s.vm.findClass R_Md = some m.cls := findClass_of_methodNamed B.named
  have hlocks := B.notSynchronized
  have hl := lv_entry ([.ref q0, .int p_0]) (n := 2) (Nat.le_of_ble_eq_true rfl)
  rw [lg_entry_eq]
  generalize (lg_sl ([.ref q0, .int p_0]) ++ List.replicate (2 - (lg_sl ([.ref q0, .int p_0])).length) Slot.unset).toArray = ls at hl ⊢
  have hl : lv_has ls 2 [(0, .ref q0), (1, .int p_0)] := hl
  subst hsz
  have hD := hD0.self (sz := s.heap.size)
  obtain ⟨A, hAe⟩ : ∃ A, va_A (TW ct L f) s.heap.size = A := ⟨_, rfl⟩
  rw [hAe] at hD
  have hA : ∀ q : Nat, s.heap.size ≤ q → A q := fun q h => by rw [← hAe]; exact Or.inr h
  have hS : va_S A s.heap s.heap [] := va_S.rf
  have hA_0 : Ext [] L f L f := Ext.rf
  suffices hGo : ∀ (H : Heap) (locs : List Loc), va_P (dC, dI) vwCl (TW ct L f) H → va_S A s.heap H locs → W p l e (headSpec (.code y_Md_leave b_Md_leave 2 (some .int) :: TB) ({ frames := 3, cells := 0, slots := 0, locals := 70 })).room s m [.ref q0, .int p_0].toArray below meth c H locs 0 0 (MQ below (va_Qi (fun r (u : TSt) => Ok u.1 u.2 ∧ Ext W_Md_leave_t L f u.1 u.2 ∧ TInv u.2 q0 ∧ (True)) (fun (u : TSt) t => va_P (dC, dI) vwCl (TW ct u.1 u.2) t.heap ∧ va_K (dC, dI) vwCl (TT ct) t ∧ va_D (va_A (TW ct L f) s.heap.size) (TW ct u.1 u.2)) (va_A (TW ct L f) s.heap.size)) [.ref q0, .int p_0].toArray s 0 0 (va_A (TW ct L f) s.heap.size)) (F0 m 0 ls []) from hGo _ _ hP hS
  clear hP hS
  intro H locs hP hS
  refine lv_iload_n hx hb d_Md_leave_0 rfl (lv_at hl 1 rfl) ?_
  refine vp_callSi (va_Run.run (va_runS (As := [.int p_0]) (rest := []) ⟨hx, hb, hml, hown, htb⟩ (c_Md_isMan l p_0) (cwS 1 htb (gd_S tw_504 tw_505 tw_479 tw_503) rfl rfl rfl (by decide +kernel) ⟨Nat.le_of_ble_eq_true rfl, Nat.le_of_ble_eq_true rfl⟩) ⟨fun _ _ _ _ h => h, fun U _ _ => ⟨rfl, trivial⟩⟩ rfl rfl hl.1 rfl (lv_room (Nat.le_of_ble_eq_true rfl)) d_Md_leave_1 ⟨Nat.le_of_ble_eq_true rfl, Nat.le_of_ble_eq_true rfl⟩)) (fun r er => ?_)
  subst er
  by_cases c_2 : p_0 < 0
  · refine hb_ti 0 (by unfold f_Md_isMan; rw [if_pos c_2]; first | done | rfl) ?_
    refine lv_if_ne (tgt := 9) hx hb d_Md_leave_4 (by decide) (fun h => absurd (by decide +kernel) h) (fun _ => ?_)
    refine lv_iconst (v := (-1)) hx hb d_Md_leave_7 (by decide +kernel) ?_
    refine W.widen (k := 0) (n := 0) (Nat.le_of_ble_eq_true rfl) (Nat.le_of_ble_eq_true rfl) ?_
    exact W.iret (v := (-1)) hx hb hr (fun t ht hW => ⟨⟨(-1), (L, f), rfl, ⟨hO_0, hA_0.mono (by decide +kernel), hT, trivial⟩, by rw [ht]; exact hP, va_K.moved hW.alike hK, by rw [hAe]; exact hD⟩, by rw [hAe]; exact hS.F ht⟩) (by rw [hAe]; exact hS.2.2) d_Md_leave_8
  · by_cases c_3 : 39 < p_0
    · refine hb_ti 0 (by unfold f_Md_isMan; rw [if_neg c_2, if_pos c_3]; first | done | rfl) ?_
      refine lv_if_ne (tgt := 9) hx hb d_Md_leave_4 (by decide) (fun h => absurd (by decide +kernel) h) (fun _ => ?_)
      refine lv_iconst (v := (-1)) hx hb d_Md_leave_7 (by decide +kernel) ?_
      refine W.widen (k := 0) (n := 0) (Nat.le_of_ble_eq_true rfl) (Nat.le_of_ble_eq_true rfl) ?_
      exact W.iret (v := (-1)) hx hb hr (fun t ht hW => ⟨⟨(-1), (L, f), rfl, ⟨hO_0, hA_0.mono (by decide +kernel), hT, trivial⟩, by rw [ht]; exact hP, va_K.moved hW.alike hK, by rw [hAe]; exact hD⟩, by rw [hAe]; exact hS.F ht⟩) (by rw [hAe]; exact hS.2.2) d_Md_leave_8
    · refine hb_ti 1 (by unfold f_Md_isMan; rw [if_neg c_2, if_neg c_3]; first | done | rfl) ?_
      refine lv_if_ne (tgt := 9) hx hb d_Md_leave_4 (by decide) (fun _ => ?_) (fun h => absurd h (by decide +kernel))
      refine lv_aload_n hx hb d_Md_leave_9 rfl (lv_at hl 0 rfl) ?_
      refine lv_iload_n hx hb d_Md_leave_10 rfl (lv_at hl 1 rfl) ?_
      refine vp_callSi (va_Run.run (va_runV (As := [.int p_0]) (rest := []) ⟨hx, hb, hml, hown, htb⟩ (c_Md_rowOf_t l dC dI ct L f hO_0 q0 m0 p_0) (cwV 1 htb (gd_V tw_519 tw_520 tw_521 tw_479 tw_518) rfl rfl rfl (by decide +kernel) ⟨Nat.le_of_ble_eq_true rfl, Nat.le_of_ble_eq_true rfl⟩) ⟨pr_blind, tw_recv hK hP m0 rfl rfl, pr_pre hP hK hN⟩ rfl rfl hl.1 rfl (lv_room (Nat.le_of_ble_eq_true rfl)) d_Md_leave_11 ⟨Nat.le_of_ble_eq_true rfl, Nat.le_of_ble_eq_true rfl⟩)) (fun r_4 er_4 => ?_)
      rcases er_4 with ⟨rfl, ra_5, -⟩ | ⟨po_6, po_7, po_8, ra_9, -⟩
      · refine lv_if_ge (tgt := 20) hx hb d_Md_leave_14 (by decide) (fun h => absurd h (by decide +kernel)) (fun _ => ?_)
        refine lv_bipush (v := (-2)) hx hb d_Md_leave_17 (by decide +kernel) ?_
        refine W.widen (k := 0) (n := 0) (Nat.le_of_ble_eq_true rfl) (Nat.le_of_ble_eq_true rfl) ?_
        exact W.iret (v := (-2)) hx hb hr (fun t ht hW => ⟨⟨(-2), (L, f), rfl, ⟨hO_0, hA_0.mono (by decide +kernel), hT, trivial⟩, by rw [ht]; exact hP, va_K.moved hW.alike hK, by rw [hAe]; exact hD⟩, by rw [hAe]; exact hS.F ht⟩) (by rw [hAe]; exact hS.2.2) d_Md_leave_19
      · refine lv_if_ge (tgt := 20) hx hb d_Md_leave_14 (by decide) (fun _ => ?_) (fun h => absurd (show 0 ≤ r_4 from by have e0 := po_6; rw [Int32.lt_iff_toInt_lt] at e0; have e1 := po_7; rw [Int32.lt_iff_toInt_lt] at e1; have z0 : (0 : Int32).toInt = 0 := (by decide +kernel); have z1 : (11 : Int32).toInt = 11 := (by decide +kernel); rw [Int32.le_iff_toInt_le]; omega) h)
        refine lv_aload_n hx hb d_Md_leave_20 rfl (lv_at hl 0 rfl) ?_
        refine lv_iload_n hx hb d_Md_leave_21 rfl (lv_at hl 1 rfl) ?_
        have hFc := hb_free hD hS hA
        refine va_callv (va_runV (As := [.int p_0]) (rest := []) ⟨hx, hb, hml, hown, htb⟩ (c_Md_leaves_t l dC dI ct L f hO_0 q0 m0 hT _ p_0) (cwV 1 htb (gd_V tw_534 tw_535 tw_536 tw_479 tw_533) rfl rfl rfl (by decide +kernel) ⟨Nat.le_of_ble_eq_true rfl, Nat.le_of_ble_eq_true rfl⟩) ⟨pc_blind, tw_recv hK hP m0 rfl rfl, pc_pre hP hK hD hN⟩ rfl rfl hl.1 rfl (lv_room (Nat.le_of_ble_eq_true rfl)) d_Md_leave_22 ⟨Nat.le_of_ble_eq_true rfl, Nat.le_of_ble_eq_true rfl⟩) hS (fun q _ h => hFc q h) hFc (fun u t H locs ht hvm er hB hz1 hk1 hS => ?_)
        obtain ⟨L_1, f_1⟩ := u
        obtain ⟨hO_1, hE_1, hT_1, er⟩ := er
        obtain ⟨hP, hK1, hD1⟩ := hB
        rw [ht] at hP
        have hP : va_P (dC, dI) vwCl (TW ct L_1 f_1) H := hP
        have hD : va_D A (TW ct L_1 f_1) := hD1.weaken (fun _ q _ h => hFc q.1 h)
        have hO_1 : Ok L_1 f_1 := hO_1
        have hE_1 : Ext W_Md_leaves_t L f L_1 f_1 := hE_1
        clear hK1 hD1 ht hvm hz1 hk1
        have hA_1 := hA_0.trans hE_1
        clear er
        refine lv_iconst (v := 1) hx hb d_Md_leave_25 (by decide +kernel) ?_
        refine W.widen (k := 0) (n := 0) (Nat.le_of_ble_eq_true rfl) (Nat.le_of_ble_eq_true rfl) ?_
        exact W.iret (v := 1) hx hb hr (fun t ht hW => ⟨⟨1, (L_1, f_1), rfl, ⟨hO_1, hA_1.mono (by decide +kernel), hT_1, trivial⟩, by rw [ht]; exact hP, va_K.moved hW.alike hK, by rw [hAe]; exact hD⟩, by rw [hAe]; exact hS.F ht⟩) (by rw [hAe]; exact hS.2.2) d_Md_leave_26
set_option maxHeartbeats 4000000 in
set_option maxRecDepth 100000 in
theorem c_Md_isBoat_t (l : Launch) (dC : Nat → ClassId) (dI : Nat → Nat → Nat) (ct : Nat → ClassId) (L : List Nat) (f : TF) (hO_0 : Ok L f) (q0 : Nat) (m0 : q0 ∈ L ∧ tk f q0 = 27) (p_0 : Int32)   : Met l y_Md_isBoat (.code y_Md_isBoat b_Md_isBoat 2 (some .boolean) :: TB) ({ frames := 1, cells := 0, slots := 0, locals := 22 }) (va_Pc [.ref q0, .int p_0] (PR dC dI (TW ct L f) (TT ct))) (vp_Si (fun r => (r = 0 ∧ True) ∨ (r = 1 ∧ ¬ (p_0 < 0) ∧ ¬ (19 < p_0) ∧ True))) 0 0 (fun _ => False) := by
  refine Met.ofW (cc := b_Md_isBoat) (maxL := 2) (ret := (some .boolean)) (by decide) rfl ?_
  intro p e s m args below meth c s₁ B hml hv
  obtain ⟨rfl, hP, hK, hN⟩ := hv
  have hx := B.exec
  have hb := B.bytes
  have hr := B.returns
  have hts := atoms_spec (ws := (.code y_Md_isBoat b_Md_isBoat 2 (some .boolean) :: TB)) B.pre
  have htb := fun w (h : w ∈ TB) => hts w (List.mem_cons_of_mem _ h)
  have hown : s.vm.findClass R_Md = some m.cls := findClass_of_methodNamed B.named
  have hlocks := B.notSynchronized
  have hl := lv_entry ([.ref q0, .int p_0]) (n := 2) (Nat.le_of_ble_eq_true rfl)
  rw [lg_entry_eq]
  generalize (lg_sl ([.ref q0, .int p_0]) ++ List.replicate (2 - (lg_sl ([.ref q0, .int p_0])).length) Slot.unset).toArray = ls at hl ⊢
  have hl : lv_has ls 2 [(0, .ref q0), (1, .int p_0)] := hl
  refine lv_iload_n hx hb d_Md_isBoat_0 rfl (lv_at hl 1 rfl) ?_
  refine lv_iconst (v := 0) hx hb d_Md_isBoat_1 (by decide +kernel) ?_
  refine lv_aload_n hx hb d_Md_isBoat_2 rfl (lv_at hl 0 rfl) ?_
  refine tw_geti (D := (dC, dI)) (C := R_Md) (T := F_Md) (N := 64) (ci := 7) (kd := 27) (ct := ct) hx hb htb i_Md hown hK hP hO_0 m0 rfl rfl 21 (by decide) (htb (.fieldLink R_Md 206 "WaterMenModel" "boats" "I") tw_537) (fun _ h9 => h9) rfl d_Md_isBoat_3 (fun x_1 e_1 b_1 => ?_)
  refine lv_iconst (v := 1) hx hb d_Md_isBoat_6 (by decide +kernel) ?_
  refine lv_isub hx hb d_Md_isBoat_7 ?_
  refine vp_callSi (va_Run.run (va_runS (As := [.int p_0, .int 0, .int (x_1 - 1)]) (rest := []) ⟨hx, hb, hml, hown, htb⟩ (c_Md_in l p_0 0 (x_1 - 1)) (cwS 3 htb (gd_S tw_480 tw_481 tw_479 tw_478) rfl rfl rfl (by decide +kernel) ⟨Nat.le_of_ble_eq_true rfl, Nat.le_of_ble_eq_true rfl⟩) ⟨fun _ _ _ _ h => h, fun U _ _ => ⟨rfl, trivial⟩⟩ rfl rfl hl.1 rfl (lv_room (Nat.le_of_ble_eq_true rfl)) d_Md_isBoat_8 ⟨Nat.le_of_ble_eq_true rfl, Nat.le_of_ble_eq_true rfl⟩)) (fun r er => ?_)
  subst er
  by_cases c_3 : p_0 < 0
  · refine hb_ti 0 (by unfold f_Md_in; rw [if_pos c_3]; first | done | rfl) ?_
    exact W.zret (v := 0) hx hb hr (by decide +kernel) (fun t ht hW => ⟨0, rfl, (Or.inl ⟨rfl, trivial⟩), ht⟩) t_nil d_Md_isBoat_11
  · by_cases c_4 : (x_1 - 1) < p_0
    · refine hb_ti 0 (by unfold f_Md_in; rw [if_neg c_3, if_pos c_4]; first | done | rfl) ?_
      exact W.zret (v := 0) hx hb hr (by decide +kernel) (fun t ht hW => ⟨0, rfl, (Or.inl ⟨rfl, trivial⟩), ht⟩) t_nil d_Md_isBoat_11
    · refine hb_ti 1 (by unfold f_Md_in; rw [if_neg c_3, if_neg c_4]; first | done | rfl) ?_
      exact W.zret (v := 1) hx hb hr (by decide +kernel) (fun t ht hW => ⟨1, rfl, (Or.inr ⟨rfl, c_3, (show ¬ (19 < p_0) from ((fun (a_0 : Int32) (a_1 : Int32) (k_0 : ¬ (a_1 < 0)) (k_1 : ¬ (20 < a_1)) (k_2 : ¬ ((a_1 - 1) < a_0)) => (show ¬ (19 < a_0) from by have z0 : (0 : Int32).toInt = 0 := (by decide +kernel); have z1 : (1 : Int32).toInt = 1 := (by decide +kernel); have z2 : (19 : Int32).toInt = 19 := (by decide +kernel); have z3 : (20 : Int32).toInt = 20 := (by decide +kernel); have r0 := fb_rng (a_0); have r1 := fb_rng (a_1); have e0 := k_0; rw [Int32.lt_iff_toInt_lt, z0] at e0; have e1 := k_1; rw [Int32.lt_iff_toInt_lt, z3] at e1; obtain ⟨n_0, hn_0, s0⟩ := nd_sub (x := (a_1)) (y := (1 : Int32)) (by (try rw [z1]); omega) (by (try rw [z1]); omega); rw [z1] at s0; have e2 := k_2; rw [hn_0, Int32.lt_iff_toInt_lt] at e2; rw [Int32.lt_iff_toInt_lt, z2]; omega)) p_0 x_1 b_1.1 b_1.2 c_4)), trivial⟩), ht⟩) t_nil d_Md_isBoat_11
