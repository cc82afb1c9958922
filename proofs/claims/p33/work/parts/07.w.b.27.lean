def wp_Md_hourNow_w (L : List Nat) (f : TF) (q0 : Nat) (Q : Int32 → Prop) : Prop := ∀ x_1 : Int32, ti f q0 1 = x_1 → ∀ y_2 : Int32, y_2 = x_1 - x_1 / 720 * 720 → ∀ y_3 : Int32, y_3 = y_2 / 60 → Q y_3
set_option maxHeartbeats 4000000 in
set_option maxRecDepth 100000 in
theorem c_Md_hourNow_w (l : Launch) (dC : Nat → ClassId) (dI : Nat → Nat → Nat) (ct : Nat → ClassId) (L : List Nat) (f : TF) (hO_0 : Ok L f) (q0 : Nat) (m0 : q0 ∈ L ∧ tk f q0 = 27)    (Q : Int32 → Prop) (hQ : wp_Md_hourNow_w L f q0 Q) : Met l y_Md_hourNow (.code y_Md_hourNow b_Md_hourNow 1 (some .int) :: TB) ({ frames := 0, cells := 0, slots := 0, locals := 0 }) (va_Pc [.ref q0] (PR dC dI (TW ct L f) (TT ct))) (vp_Si (fun r => ((¬ (r < 0) ∧ ¬ (11 < r) ∧ True)) ∧ Q r)) 0 0 (fun _ => False) := by
  refine Met.ofW (cc := b_Md_hourNow) (maxL := 1) (ret := (some .int)) (by decide) rfl ?_
  intro p e s m args below meth c s₁ B hml hv
  obtain ⟨rfl, hP, hK, hN⟩ := hv
  have hx := B.exec
  have hb := B.bytes
  have hr := B.returns
  have hts := atoms_spec (ws := (.code y_Md_hourNow b_Md_hourNow 1 (some .int) :: TB)) B.pre
  have htb := fun w (h : w ∈ TB) => hts w (List.mem_cons_of_mem _ h)
  have hown : s.vm.findClass R_Md = some m.cls := findClass_of_methodNamed B.named
  have hlocks := B.notSynchronized
  have hl := lv_entry ([.ref q0]) (n := 1) (Nat.le_of_ble_eq_true rfl)
  rw [lg_entry_eq]
  generalize (lg_sl ([.ref q0]) ++ List.replicate (1 - (lg_sl ([.ref q0])).length) Slot.unset).toArray = ls at hl ⊢
  have hl : lv_has ls 1 [(0, .ref q0)] := hl
  unfold wp_Md_hourNow_w at hQ
  refine lv_aload_n hx hb d_Md_hourNow_0 rfl (lv_at hl 0 rfl) ?_
  refine tw_geti (D := (dC, dI)) (C := R_Md) (T := F_Md) (N := 64) (ci := 7) (kd := 27) (ct := ct) hx hb htb i_Md hown hK hP hO_0 m0 rfl rfl 1 (by decide) (htb (.fieldLink R_Md 7 "WaterMenModel" "time" "I") tw_111) (fun _ h9 => h9) rfl d_Md_hourNow_1 (fun x_1 e_1 b_1 => ?_)
  have hQ := hQ x_1 e_1
  refine lv_sipush (v := 720) hx hb d_Md_hourNow_4 (by decide +kernel) ?_
  refine lv_irem hx hb d_Md_hourNow_7 (by decide) ?_
  refine hb_remn (c := 720) (C1 := 719) (K := 2147482927) (by decide +kernel) (by decide +kernel) (by decide +kernel) b_1.1 (show ¬ (2147482927 < x_1) from by have e0 := b_1.1; rw [Int32.lt_iff_toInt_lt] at e0; have e1 := b_1.2; rw [Int32.lt_iff_toInt_lt] at e1; have z0 : (0 : Int32).toInt = 0 := (by decide +kernel); have z1 : (359999 : Int32).toInt = 359999 := (by decide +kernel); have z2 : (2147482927 : Int32).toInt = 2147482927 := (by decide +kernel); rw [Int32.lt_iff_toInt_lt]; omega) (fun y_2 qu_2 g1_2 g2_2 g3_2 g4_2 g5_2 g9_2 => ?_)
  have hQ := hQ y_2 g9_2
  refine lv_bipush (v := 60) hx hb d_Md_hourNow_8 (by decide +kernel) ?_
  refine lv_idiv hx hb d_Md_hourNow_10 (by decide) ?_
  refine hb_divn (U := 719) (Qm := 11) (c := 60) (C1 := 59) (K := 2147483587) (by decide +kernel) (by decide +kernel) (by decide +kernel) g1_2 (show ¬ (2147483587 < y_2) from by have e0 := g1_2; rw [Int32.lt_iff_toInt_lt] at e0; have e1 := g2_2; rw [Int32.lt_iff_toInt_lt] at e1; have z0 : (0 : Int32).toInt = 0 := (by decide +kernel); have z1 : (719 : Int32).toInt = 719 := (by decide +kernel); have z2 : (2147483587 : Int32).toInt = 2147483587 := (by decide +kernel); rw [Int32.lt_iff_toInt_lt]; omega) g2_2 (by decide +kernel) (fun y_3 g1_3 g2_3 g3_3 g4_3 g5_3 g9_3 => ?_)
  have hQ := hQ y_3 g9_3
  exact W.iret (v := y_3) hx hb hr (fun t ht hW => ⟨y_3, rfl, ⟨⟨g1_3, g5_3, trivial⟩, hQ⟩, ht⟩) t_nil d_Md_hourNow_11
def wp_Md_minutesOf_w (L : List Nat) (f : TF) (q0 : Nat) (p_0 : Int32) (p_1 : Int32) (Q : Int32 → Prop) : Prop := ∀ q_1 : Nat, tr f q0 3 = some q_1 → ∀ x_2 : Int32, ti f q_1 (p_1 : Int32).toNatClampNeg = x_2 → ∀ q_3 : Nat, tr f q0 23 = some q_3 → ∀ x_4 : Int32, ti f q_3 (p_0 : Int32).toNatClampNeg = x_4 → ∀ x_5 : Int32, ti f q_1 (x_4 : Int32).toNatClampNeg = x_5 → wp_Md_today_w L f q0 (fun (r_6 : Int32) => (wp_Md_hourNow_w L f q0 (fun (r_11 : Int32) => (wp_Md_flowOf_w L f q0 r_6 r_11 (fun (r_14 : Int32) => ((r_14 = 0 → ((0 ≤ (x_2 - x_5) → ∀ q_52 : Nat, tr f q0 22 = some q_52 → ∀ x_53 : Int32, ti f q_52 (p_0 : Int32).toNatClampNeg = x_53 → ((x_53 = 2 → ((1 ≤ ((((x_2 - x_5) * 10) * 2) / 3) → Q ((((x_2 - x_5) * 10) * 2) / 3)) ∧ (¬ (1 ≤ ((((x_2 - x_5) * 10) * 2) / 3)) → Q 1))) ∧ (¬ (x_53 = 2) → ((1 ≤ ((x_2 - x_5) * 10) → Q ((x_2 - x_5) * 10)) ∧ (¬ (1 ≤ ((x_2 - x_5) * 10)) → Q 1))))) ∧ (¬ (0 ≤ (x_2 - x_5)) → ∀ q_57 : Nat, tr f q0 22 = some q_57 → ∀ x_58 : Int32, ti f q_57 (p_0 : Int32).toNatClampNeg = x_58 → ((x_58 = 2 → ((1 ≤ ((((-(x_2 - x_5)) * 10) * 2) / 3) → Q ((((-(x_2 - x_5)) * 10) * 2) / 3)) ∧ (¬ (1 ≤ ((((-(x_2 - x_5)) * 10) * 2) / 3)) → Q 1))) ∧ (¬ (x_58 = 2) → ((1 ≤ ((-(x_2 - x_5)) * 10) → Q ((-(x_2 - x_5)) * 10)) ∧ (¬ (1 ≤ ((-(x_2 - x_5)) * 10)) → Q 1))))))) ∧ (¬ (r_14 = 0) → ((r_14 ≤ 0 → (((x_2 - x_5) ≤ 0 → ((0 ≤ (x_2 - x_5) → ∀ q_19 : Nat, tr f q0 22 = some q_19 → ∀ x_20 : Int32, ti f q_19 (p_0 : Int32).toNatClampNeg = x_20 → ((x_20 = 2 → ((1 ≤ ((((x_2 - x_5) * 7) * 2) / 3) → Q ((((x_2 - x_5) * 7) * 2) / 3)) ∧ (¬ (1 ≤ ((((x_2 - x_5) * 7) * 2) / 3)) → Q 1))) ∧ (¬ (x_20 = 2) → ((1 ≤ ((x_2 - x_5) * 7) → Q ((x_2 - x_5) * 7)) ∧ (¬ (1 ≤ ((x_2 - x_5) * 7)) → Q 1))))) ∧ (¬ (0 ≤ (x_2 - x_5)) → ∀ q_24 : Nat, tr f q0 22 = some q_24 → ∀ x_25 : Int32, ti f q_24 (p_0 : Int32).toNatClampNeg = x_25 → ((x_25 = 2 → ((1 ≤ ((((-(x_2 - x_5)) * 7) * 2) / 3) → Q ((((-(x_2 - x_5)) * 7) * 2) / 3)) ∧ (¬ (1 ≤ ((((-(x_2 - x_5)) * 7) * 2) / 3)) → Q 1))) ∧ (¬ (x_25 = 2) → ((1 ≤ ((-(x_2 - x_5)) * 7) → Q ((-(x_2 - x_5)) * 7)) ∧ (¬ (1 ≤ ((-(x_2 - x_5)) * 7)) → Q 1))))))) ∧ (¬ ((x_2 - x_5) ≤ 0) → ∀ q_29 : Nat, tr f q0 22 = some q_29 → ∀ x_30 : Int32, ti f q_29 (p_0 : Int32).toNatClampNeg = x_30 → ((x_30 = 2 → ((1 ≤ ((((x_2 - x_5) * 14) * 2) / 3) → Q ((((x_2 - x_5) * 14) * 2) / 3)) ∧ (¬ (1 ≤ ((((x_2 - x_5) * 14) * 2) / 3)) → Q 1))) ∧ (¬ (x_30 = 2) → ((1 ≤ ((x_2 - x_5) * 14) → Q ((x_2 - x_5) * 14)) ∧ (¬ (1 ≤ ((x_2 - x_5) * 14)) → Q 1))))))) ∧ (¬ (r_14 ≤ 0) → (((x_2 - x_5) ≤ 0 → ((0 ≤ (x_2 - x_5) → ∀ q_36 : Nat, tr f q0 22 = some q_36 → ∀ x_37 : Int32, ti f q_36 (p_0 : Int32).toNatClampNeg = x_37 → ((x_37 = 2 → ((1 ≤ ((((x_2 - x_5) * 14) * 2) / 3) → Q ((((x_2 - x_5) * 14) * 2) / 3)) ∧ (¬ (1 ≤ ((((x_2 - x_5) * 14) * 2) / 3)) → Q 1))) ∧ (¬ (x_37 = 2) → ((1 ≤ ((x_2 - x_5) * 14) → Q ((x_2 - x_5) * 14)) ∧ (¬ (1 ≤ ((x_2 - x_5) * 14)) → Q 1))))) ∧ (¬ (0 ≤ (x_2 - x_5)) → ∀ q_41 : Nat, tr f q0 22 = some q_41 → ∀ x_42 : Int32, ti f q_41 (p_0 : Int32).toNatClampNeg = x_42 → ((x_42 = 2 → ((1 ≤ ((((-(x_2 - x_5)) * 14) * 2) / 3) → Q ((((-(x_2 - x_5)) * 14) * 2) / 3)) ∧ (¬ (1 ≤ ((((-(x_2 - x_5)) * 14) * 2) / 3)) → Q 1))) ∧ (¬ (x_42 = 2) → ((1 ≤ ((-(x_2 - x_5)) * 14) → Q ((-(x_2 - x_5)) * 14)) ∧ (¬ (1 ≤ ((-(x_2 - x_5)) * 14)) → Q 1))))))) ∧ (¬ ((x_2 - x_5) ≤ 0) → ∀ q_46 : Nat, tr f q0 22 = some q_46 → ∀ x_47 : Int32, ti f q_46 (p_0 : Int32).toNatClampNeg = x_47 → ((x_47 = 2 → ((1 ≤ ((((x_2 - x_5) * 7) * 2) / 3) → Q ((((x_2 - x_5) * 7) * 2) / 3)) ∧ (¬ (1 ≤ ((((x_2 - x_5) * 7) * 2) / 3)) → Q 1))) ∧ (¬ (x_47 = 2) → ((1 ≤ ((x_2 - x_5) * 7) → Q ((x_2 - x_5) * 7)) ∧ (¬ (1 ≤ ((x_2 - x_5) * 7)) → Q 1)))))))))))))))
set_option maxHeartbeats 4000000 in
set_option maxRecDepth 100000 in
theorem c_Md_minutesOf_w (l : Launch) (dC : Nat → ClassId) (dI : Nat → Nat → Nat) (ct : Nat → ClassId) (L : List Nat) (f : TF) (hO_0 : Ok L f) (q0 : Nat) (m0 : q0 ∈ L ∧ tk f q0 = 27) (p_0 : Int32) (p_1 : Int32)  (as_0 : ¬ (p_0 < 0)) (as_1 : ¬ (19 < p_0)) (as_2 : ¬ (p_1 < 0)) (as_3 : ¬ (11 < p_1)) (Q : Int32 → Prop) (hQ : wp_Md_minutesOf_w L f q0 p_0 p_1 Q) : Met l y_Md_minutesOf (.code y_Md_minutesOf b_Md_minutesOf 7 (some .int) :: TB) ({ frames := 2, cells := 0, slots := 0, locals := 44 }) (va_Pc [.ref q0, .int p_0, .int p_1] (PR dC dI (TW ct L f) (TT ct))) (vp_Si (fun r => (True) ∧ Q r)) 0 0 (fun _ => False) := by
  refine Met.ofW (cc := b_Md_minutesOf) (maxL := 7) (ret := (some .int)) (by decide) rfl ?_
  intro p e s m args below meth c s₁ B hml hv
  obtain ⟨rfl, hP, hK, hN⟩ := hv
  have hx := B.exec
  have hb := B.bytes
  have hr := B.returns
  have hts := atoms_spec (ws := (.code y_Md_minutesOf b_Md_minutesOf 7 (some .int) :: TB)) B.pre
  have htb := fun w (h : w ∈ TB) => hts w (List.mem_cons_of_mem _ h)
  have hown : s.vm.findClass R_Md = some m.cls := findClass_of_methodNamed B.named
  have hlocks := B.notSynchronized
  have hl := lv_entry ([.ref q0, .int p_0, .int p_1]) (n := 7) (Nat.le_of_ble_eq_true rfl)
  rw [lg_entry_eq]
  generalize (lg_sl ([.ref q0, .int p_0, .int p_1]) ++ List.replicate (7 - (lg_sl ([.ref q0, .int p_0, .int p_1])).length) Slot.unset).toArray = ls at hl ⊢
  have hl : lv_has ls 7 [(0, .ref q0), (1, .int p_0), (2, .int p_1)] := hl
  unfold wp_Md_minutesOf_w at hQ
  refine lv_aload_n hx hb d_Md_minutesOf_0 rfl (lv_at hl 0 rfl) ?_
  refine tw_getr (D := (dC, dI)) (C := R_Md) (T := F_Md) (N := 64) (ci := 7) (kd := 27) (ct := ct) hx hb htb i_Md hown hK hP hO_0 m0 rfl rfl 3 (by decide) (htb (.fieldLink R_Md 32 "WaterMenModel" "miles" "[I") tw_204) (fun _ h9 => h9) rfl d_Md_minutesOf_1 (fun q_1 e_1 m_1 => ?_)
  have hQ := hQ q_1 e_1
  refine lv_iload_n hx hb d_Md_minutesOf_4 rfl (lv_at hl 2 rfl) ?_
  refine tw_aldI (ct := ct) hx hb hK hP hO_0 m_1 rfl (hb_inl as_2 as_3 (by decide +kernel)) d_Md_minutesOf_5 (fun x_2 e_2 b_2 => ?_)
  have hQ := hQ x_2 e_2
  refine lv_aload_n hx hb d_Md_minutesOf_6 rfl (lv_at hl 0 rfl) ?_
  refine tw_getR (D := (dC, dI)) (C := R_Md) (T := F_Md) (N := 64) (ci := 7) (kd := 27) (ct := ct) hx hb htb i_Md hown hK hP m0 rfl rfl 3 e_1 (by decide) (htb (.fieldLink R_Md 32 "WaterMenModel" "miles" "[I") tw_204) (fun _ h9 => h9) rfl d_Md_minutesOf_7 ?_
  refine hb_tv (.ref q_1) rfl ?_
  refine lv_aload_n hx hb d_Md_minutesOf_10 rfl (lv_at hl 0 rfl) ?_
  refine tw_getr (D := (dC, dI)) (C := R_Md) (T := F_Md) (N := 64) (ci := 7) (kd := 27) (ct := ct) hx hb htb i_Md hown hK hP hO_0 m0 rfl rfl 23 (by decide) (htb (.fieldLink R_Md 97 "WaterMenModel" "boatAt" "[I") tw_511) (fun _ h9 => h9) rfl d_Md_minutesOf_11 (fun q_3 e_3 m_3 => ?_)
  have hQ := hQ q_3 e_3
  refine lv_iload_n hx hb d_Md_minutesOf_14 rfl (lv_at hl 1 rfl) ?_
  refine tw_aldI (ct := ct) hx hb hK hP hO_0 m_3 rfl (hb_inl as_0 as_1 (by decide +kernel)) d_Md_minutesOf_15 (fun x_4 e_4 b_4 => ?_)
  have hQ := hQ x_4 e_4
  refine tw_aldI (ct := ct) hx hb hK hP hO_0 m_1 rfl (hb_inl b_4.1 b_4.2 (by decide +kernel)) d_Md_minutesOf_16 (fun x_5 e_5 b_5 => ?_)
  have hQ := hQ x_5 e_5
  refine lv_isub hx hb d_Md_minutesOf_17 ?_
  refine lv_istore_n (lv' := [(3, .int (x_2 - x_5)), (0, .ref q0), (1, .int p_0), (2, .int p_1)]) hx hb d_Md_minutesOf_18 rfl hl (by decide) rfl (fun ls hl => ?_)
  refine lv_aload_n hx hb d_Md_minutesOf_19 rfl (lv_at hl 1 rfl) ?_
  refine lv_aload_n hx hb d_Md_minutesOf_20 rfl (lv_at hl 1 rfl) ?_
  refine vp_callSi (va_Run.run (va_runV (As := []) (rest := [.ref q0]) ⟨hx, hb, hml, hown, htb⟩ (c_Md_today_w l dC dI ct L f hO_0 q0 m0 _ hQ) (cwV 0 htb (gd_V tw_113 tw_114 tw_115 tw_89 tw_112) rfl rfl rfl (by decide +kernel) ⟨Nat.le_of_ble_eq_true rfl, Nat.le_of_ble_eq_true rfl⟩) ⟨pr_blind, tw_recv hK hP m0 rfl rfl, pr_pre hP hK hN⟩ rfl rfl hl.1 rfl (lv_room (Nat.le_of_ble_eq_true rfl)) d_Md_minutesOf_21 ⟨Nat.le_of_ble_eq_true rfl, Nat.le_of_ble_eq_true rfl⟩)) (fun r_6 er_6 => ?_)
  obtain ⟨er_6, hQ⟩ := er_6
  obtain ⟨po_7, po_8, po_9, po_10, -⟩ := er_6
  refine lv_aload_n hx hb d_Md_minutesOf_24 rfl (lv_at hl 1 rfl) ?_
  refine vp_callSi (va_Run.run (va_runV (As := []) (rest := [.int r_6, .ref q0]) ⟨hx, hb, hml, hown, htb⟩ (c_Md_hourNow_w l dC dI ct L f hO_0 q0 m0 _ hQ) (cwV 0 htb (gd_V tw_580 tw_581 tw_582 tw_89 tw_579) rfl rfl rfl (by decide +kernel) ⟨Nat.le_of_ble_eq_true rfl, Nat.le_of_ble_eq_true rfl⟩) ⟨pr_blind, tw_recv hK hP m0 rfl rfl, pr_pre hP hK hN⟩ rfl rfl hl.1 rfl (lv_room (Nat.le_of_ble_eq_true rfl)) d_Md_minutesOf_25 ⟨Nat.le_of_ble_eq_true rfl, Nat.le_of_ble_eq_true rfl⟩)) (fun r_11 er_11 => ?_)
  obtain ⟨er_11, hQ⟩ := er_11
  obtain ⟨po_12, po_13, -⟩ := er_11
  refine vp_callSi (va_Run.run (va_runV (As := [.int r_6, .int r_11]) (rest := []) ⟨hx, hb, hml, hown, htb⟩ (c_Md_flowOf_w l dC dI ct L f hO_0 q0 m0 r_6 r_11 po_7 po_8 po_12 po_13 _ hQ) (cwV 2 htb (gd_V tw_164 tw_165 tw_166 tw_89 tw_163) rfl rfl rfl (by decide +kernel) ⟨Nat.le_of_ble_eq_true rfl, Nat.le_of_ble_eq_true rfl⟩) ⟨pr_blind, tw_recv hK hP m0 rfl rfl, pr_pre hP hK hN⟩ rfl rfl hl.1 rfl (lv_room (Nat.le_of_ble_eq_true rfl)) d_Md_minutesOf_28 ⟨Nat.le_of_ble_eq_true rfl, Nat.le_of_ble_eq_true rfl⟩)) (fun r_14 er_14 => ?_)
  obtain ⟨er_14, hQ⟩ := er_14
  clear er_14
  refine lv_istore (lv' := [(4, .int r_14), (3, .int (x_2 - x_5)), (0, .ref q0), (1, .int p_0), (2, .int p_1)]) hx hb d_Md_minutesOf_31 hl (by decide) rfl (fun ls hl => ?_)
  refine lv_iload hx hb d_Md_minutesOf_33 (lv_at hl 0 rfl) ?_
  refine lv_if_ne (tgt := 43) hx hb d_Md_minutesOf_35 (by decide) (fun c_15 => ?_) (fun c_15 => ?_)
  · have hQ := hQ.2 c_15
    refine lv_iload hx hb d_Md_minutesOf_43 (lv_at hl 0 rfl) ?_
    refine lv_if_le (tgt := 52) hx hb d_Md_minutesOf_45 (by decide) (fun c_16 => ?_) (fun c_16 => ?_)
    · have hQ := hQ.1 c_16
      refine lv_iconst (v := 0) hx hb d_Md_minutesOf_52 (by decide +kernel) ?_
      refine lv_iload_n hx hb d_Md_minutesOf_53 rfl (lv_at hl 1 rfl) ?_
      refine lv_if_le (tgt := 61) hx hb d_Md_minutesOf_54 (by decide) (fun c_17 => ?_) (fun c_17 => ?_)
      · have hQ := hQ.1 c_17
        refine lv_iconst (v := 0) hx hb d_Md_minutesOf_61 (by decide +kernel) ?_
        refine lv_icmp_ne (tgt := 70) hx hb d_Md_minutesOf_62 (by decide) (fun h => absurd (by decide +kernel) h) (fun _ => ?_)
        refine lv_bipush (v := 7) hx hb d_Md_minutesOf_65 (by decide +kernel) ?_
        refine lv_goto (tgt := 72) hx hb d_Md_minutesOf_67 (by decide) ?_
        refine lv_istore (lv' := [(5, .int 7), (4, .int r_14), (3, .int (x_2 - x_5)), (0, .ref q0), (1, .int p_0), (2, .int p_1)]) hx hb d_Md_minutesOf_72 hl (by decide) rfl (fun ls hl => ?_)
        refine lv_iload_n hx hb d_Md_minutesOf_74 rfl (lv_at hl 2 rfl) ?_
        refine lv_if_ge (tgt := 83) hx hb d_Md_minutesOf_75 (by decide) (fun c_18 => ?_) (fun c_18 => ?_)
        · have hQ := hQ.1 c_18
          refine lv_iload_n hx hb d_Md_minutesOf_83 rfl (lv_at hl 2 rfl) ?_
          refine lv_iload hx hb d_Md_minutesOf_84 (lv_at hl 0 rfl) ?_
          refine lv_imul hx hb d_Md_minutesOf_86 ?_
          refine lv_istore (lv' := [(6, .int ((x_2 - x_5) * 7)), (5, .int 7), (4, .int r_14), (3, .int (x_2 - x_5)), (0, .ref q0), (1, .int p_0), (2, .int p_1)]) hx hb d_Md_minutesOf_87 hl (by decide) rfl (fun ls hl => ?_)
          refine lv_aload_n hx hb d_Md_minutesOf_89 rfl (lv_at hl 4 rfl) ?_
          refine tw_getr (D := (dC, dI)) (C := R_Md) (T := F_Md) (N := 64) (ci := 7) (kd := 27) (ct := ct) hx hb htb i_Md hown hK hP hO_0 m0 rfl rfl 22 (by decide) (htb (.fieldLink R_Md 94 "WaterMenModel" "boatOars" "[I") tw_510) (fun _ h9 => h9) rfl d_Md_minutesOf_90 (fun q_19 e_19 m_19 => ?_)
          have hQ := hQ q_19 e_19
          refine lv_iload_n hx hb d_Md_minutesOf_93 rfl (lv_at hl 5 rfl) ?_
          refine tw_aldI (ct := ct) hx hb hK hP hO_0 m_19 rfl (hb_inl as_0 as_1 (by decide +kernel)) d_Md_minutesOf_94 (fun x_20 e_20 b_20 => ?_)
          have hQ := hQ x_20 e_20
          refine lv_iconst (v := 2) hx hb d_Md_minutesOf_95 (by decide +kernel) ?_
          refine lv_icmp_ne (tgt := 108) hx hb d_Md_minutesOf_96 (by decide) (fun c_21 => ?_) (fun c_21 => ?_)
          · have hQ := hQ.2 c_21
            refine lv_iload hx hb d_Md_minutesOf_108 (lv_at hl 0 rfl) ?_
            refine lv_istore (lv' := [(6, .int ((x_2 - x_5) * 7)), (5, .int 7), (4, .int r_14), (3, .int (x_2 - x_5)), (0, .ref q0), (1, .int p_0), (2, .int p_1)]) hx hb d_Md_minutesOf_110 hl (by decide) rfl (fun ls hl => ?_)
            refine lv_iload hx hb d_Md_minutesOf_112 (lv_at hl 0 rfl) ?_
            refine lv_iconst (v := 1) hx hb d_Md_minutesOf_114 (by decide +kernel) ?_
            refine lv_icmp_ge (tgt := 122) hx hb d_Md_minutesOf_115 (by decide) (fun c_22 => ?_) (fun c_22 => ?_)
            · have hQ := hQ.1 c_22
              refine lv_iload hx hb d_Md_minutesOf_122 (lv_at hl 0 rfl) ?_
              exact W.iret (v := ((x_2 - x_5) * 7)) hx hb hr (fun t ht hW => ⟨((x_2 - x_5) * 7), rfl, ⟨trivial, hQ⟩, ht⟩) t_nil d_Md_minutesOf_124
            · have hQ := hQ.2 c_22
              refine lv_iconst (v := 1) hx hb d_Md_minutesOf_118 (by decide +kernel) ?_
              refine lv_goto (tgt := 124) hx hb d_Md_minutesOf_119 (by decide) ?_
              exact W.iret (v := 1) hx hb hr (fun t ht hW => ⟨1, rfl, ⟨trivial, hQ⟩, ht⟩) t_nil d_Md_minutesOf_124
          · have hQ := hQ.1 c_21
            refine lv_iload hx hb d_Md_minutesOf_99 (lv_at hl 0 rfl) ?_
            refine lv_iconst (v := 2) hx hb d_Md_minutesOf_101 (by decide +kernel) ?_
            refine lv_imul hx hb d_Md_minutesOf_102 ?_
            refine lv_iconst (v := 3) hx hb d_Md_minutesOf_103 (by decide +kernel) ?_
            refine lv_idiv hx hb d_Md_minutesOf_104 (by decide) ?_
            refine lv_goto (tgt := 110) hx hb d_Md_minutesOf_105 (by decide) ?_
            refine lv_istore (lv' := [(6, .int ((((x_2 - x_5) * 7) * 2) / 3)), (5, .int 7), (4, .int r_14), (3, .int (x_2 - x_5)), (0, .ref q0), (1, .int p_0), (2, .int p_1)]) hx hb d_Md_minutesOf_110 hl (by decide) rfl (fun ls hl => ?_)
            refine lv_iload hx hb d_Md_minutesOf_112 (lv_at hl 0 rfl) ?_
            refine lv_iconst (v := 1) hx hb d_Md_minutesOf_114 (by decide +kernel) ?_
            refine lv_icmp_ge (tgt := 122) hx hb d_Md_minutesOf_115 (by decide) (fun c_23 => ?_) (fun c_23 => ?_)
            · have hQ := hQ.1 c_23
              refine lv_iload hx hb d_Md_minutesOf_122 (lv_at hl 0 rfl) ?_
              exact W.iret (v := ((((x_2 - x_5) * 7) * 2) / 3)) hx hb hr (fun t ht hW => ⟨((((x_2 - x_5) * 7) * 2) / 3), rfl, ⟨trivial, hQ⟩, ht⟩) t_nil d_Md_minutesOf_124
            · have hQ := hQ.2 c_23
              refine lv_iconst (v := 1) hx hb d_Md_minutesOf_118 (by decide +kernel) ?_
              refine lv_goto (tgt := 124) hx hb d_Md_minutesOf_119 (by decide) ?_
              exact W.iret (v := 1) hx hb hr (fun t ht hW => ⟨1, rfl, ⟨trivial, hQ⟩, ht⟩) t_nil d_Md_minutesOf_124
        · have hQ := hQ.2 c_18
          refine lv_iload_n hx hb d_Md_minutesOf_78 rfl (lv_at hl 2 rfl) ?_
          refine lv_ineg hx hb d_Md_minutesOf_79 ?_
          refine lv_goto (tgt := 84) hx hb d_Md_minutesOf_80 (by decide) ?_
          refine lv_iload hx hb d_Md_minutesOf_84 (lv_at hl 0 rfl) ?_
          refine lv_imul hx hb d_Md_minutesOf_86 ?_
          refine lv_istore (lv' := [(6, .int ((-(x_2 - x_5)) * 7)), (5, .int 7), (4, .int r_14), (3, .int (x_2 - x_5)), (0, .ref q0), (1, .int p_0), (2, .int p_1)]) hx hb d_Md_minutesOf_87 hl (by decide) rfl (fun ls hl => ?_)
          refine lv_aload_n hx hb d_Md_minutesOf_89 rfl (lv_at hl 4 rfl) ?_
          refine tw_getr (D := (dC, dI)) (C := R_Md) (T := F_Md) (N := 64) (ci := 7) (kd := 27) (ct := ct) hx hb htb i_Md hown hK hP hO_0 m0 rfl rfl 22 (by decide) (htb (.fieldLink R_Md 94 "WaterMenModel" "boatOars" "[I") tw_510) (fun _ h9 => h9) rfl d_Md_minutesOf_90 (fun q_24 e_24 m_24 => ?_)
          have hQ := hQ q_24 e_24
          refine lv_iload_n hx hb d_Md_minutesOf_93 rfl (lv_at hl 5 rfl) ?_
          refine tw_aldI (ct := ct) hx hb hK hP hO_0 m_24 rfl (hb_inl as_0 as_1 (by decide +kernel)) d_Md_minutesOf_94 (fun x_25 e_25 b_25 => ?_)
          have hQ := hQ x_25 e_25
          refine lv_iconst (v := 2) hx hb d_Md_minutesOf_95 (by decide +kernel) ?_
          refine lv_icmp_ne (tgt := 108) hx hb d_Md_minutesOf_96 (by decide) (fun c_26 => ?_) (fun c_26 => ?_)
          · have hQ := hQ.2 c_26
            refine lv_iload hx hb d_Md_minutesOf_108 (lv_at hl 0 rfl) ?_
            refine lv_istore (lv' := [(6, .int ((-(x_2 - x_5)) * 7)), (5, .int 7), (4, .int r_14), (3, .int (x_2 - x_5)), (0, .ref q0), (1, .int p_0), (2, .int p_1)]) hx hb d_Md_minutesOf_110 hl (by decide) rfl (fun ls hl => ?_)
            refine lv_iload hx hb d_Md_minutesOf_112 (lv_at hl 0 rfl) ?_
            refine lv_iconst (v := 1) hx hb d_Md_minutesOf_114 (by decide +kernel) ?_
            refine lv_icmp_ge (tgt := 122) hx hb d_Md_minutesOf_115 (by decide) (fun c_27 => ?_) (fun c_27 => ?_)
            · have hQ := hQ.1 c_27
              refine lv_iload hx hb d_Md_minutesOf_122 (lv_at hl 0 rfl) ?_
              exact W.iret (v := ((-(x_2 - x_5)) * 7)) hx hb hr (fun t ht hW => ⟨((-(x_2 - x_5)) * 7), rfl, ⟨trivial, hQ⟩, ht⟩) t_nil d_Md_minutesOf_124
            · have hQ := hQ.2 c_27
              refine lv_iconst (v := 1) hx hb d_Md_minutesOf_118 (by decide +kernel) ?_
              refine lv_goto (tgt := 124) hx hb d_Md_minutesOf_119 (by decide) ?_
              exact W.iret (v := 1) hx hb hr (fun t ht hW => ⟨1, rfl, ⟨trivial, hQ⟩, ht⟩) t_nil d_Md_minutesOf_124
          · have hQ := hQ.1 c_26
            refine lv_iload hx hb d_Md_minutesOf_99 (lv_at hl 0 rfl) ?_
            refine lv_iconst (v := 2) hx hb d_Md_minutesOf_101 (by decide +kernel) ?_
            refine lv_imul hx hb d_Md_minutesOf_102 ?_
            refine lv_iconst (v := 3) hx hb d_Md_minutesOf_103 (by decide +kernel) ?_
            refine lv_idiv hx hb d_Md_minutesOf_104 (by decide) ?_
            refine lv_goto (tgt := 110) hx hb d_Md_minutesOf_105 (by decide) ?_
            refine lv_istore (lv' := [(6, .int ((((-(x_2 - x_5)) * 7) * 2) / 3)), (5, .int 7), (4, .int r_14), (3, .int (x_2 - x_5)), (0, .ref q0), (1, .int p_0), (2, .int p_1)]) hx hb d_Md_minutesOf_110 hl (by decide) rfl (fun ls hl => ?_)
            refine lv_iload hx hb d_Md_minutesOf_112 (lv_at hl 0 rfl) ?_
            refine lv_iconst (v := 1) hx hb d_Md_minutesOf_114 (by decide +kernel) ?_
            refine lv_icmp_ge (tgt := 122) hx hb d_Md_minutesOf_115 (by decide) (fun c_28 => ?_) (fun c_28 => ?_)
            · have hQ := hQ.1 c_28
              refine lv_iload hx hb d_Md_minutesOf_122 (lv_at hl 0 rfl) ?_
              exact W.iret (v := ((((-(x_2 - x_5)) * 7) * 2) / 3)) hx hb hr (fun t ht hW => ⟨((((-(x_2 - x_5)) * 7) * 2) / 3), rfl, ⟨trivial, hQ⟩, ht⟩) t_nil d_Md_minutesOf_124
            · have hQ := hQ.2 c_28
              refine lv_iconst (v := 1) hx hb d_Md_minutesOf_118 (by decide +kernel) ?_
              refine lv_goto (tgt := 124) hx hb d_Md_minutesOf_119 (by decide) ?_
              exact W.iret (v := 1) hx hb hr (fun t ht hW => ⟨1, rfl, ⟨trivial, hQ⟩, ht⟩) t_nil d_Md_minutesOf_124
      · have hQ := hQ.2 c_17
        refine lv_iconst (v := 1) hx hb d_Md_minutesOf_57 (by decide +kernel) ?_
        refine lv_goto (tgt := 62) hx hb d_Md_minutesOf_58 (by decide) ?_
        refine lv_icmp_ne (tgt := 70) hx hb d_Md_minutesOf_62 (by decide) (fun _ => ?_) (fun h => absurd h (by decide +kernel))
        refine lv_bipush (v := 14) hx hb d_Md_minutesOf_70 (by decide +kernel) ?_
        refine lv_istore (lv' := [(5, .int 14), (4, .int r_14), (3, .int (x_2 - x_5)), (0, .ref q0), (1, .int p_0), (2, .int p_1)]) hx hb d_Md_minutesOf_72 hl (by decide) rfl (fun ls hl => ?_)
        refine lv_iload_n hx hb d_Md_minutesOf_74 rfl (lv_at hl 2 rfl) ?_
        refine lv_if_ge (tgt := 83) hx hb d_Md_minutesOf_75 (by decide) (fun _ => ?_) (fun h => absurd (show 0 ≤ (x_2 - x_5) from by have e0 := c_17; rw [Int32.le_iff_toInt_le] at e0; have z0 : (0 : Int32).toInt = 0 := (by decide +kernel); rw [Int32.le_iff_toInt_le]; omega) h)
        refine lv_iload_n hx hb d_Md_minutesOf_83 rfl (lv_at hl 2 rfl) ?_
        refine lv_iload hx hb d_Md_minutesOf_84 (lv_at hl 0 rfl) ?_
        refine lv_imul hx hb d_Md_minutesOf_86 ?_
        refine lv_istore (lv' := [(6, .int ((x_2 - x_5) * 14)), (5, .int 14), (4, .int r_14), (3, .int (x_2 - x_5)), (0, .ref q0), (1, .int p_0), (2, .int p_1)]) hx hb d_Md_minutesOf_87 hl (by decide) rfl (fun ls hl => ?_)
        refine lv_aload_n hx hb d_Md_minutesOf_89 rfl (lv_at hl 4 rfl) ?_
        refine tw_getr (D := (dC, dI)) (C := R_Md) (T := F_Md) (N := 64) (ci := 7) (kd := 27) (ct := ct) hx hb htb i_Md hown hK hP hO_0 m0 rfl rfl 22 (by decide) (htb (.fieldLink R_Md 94 "WaterMenModel" "boatOars" "[I") tw_510) (fun _ h9 => h9) rfl d_Md_minutesOf_90 (fun q_29 e_29 m_29 => ?_)
        have hQ := hQ q_29 e_29
        refine lv_iload_n hx hb d_Md_minutesOf_93 rfl (lv_at hl 5 rfl) ?_
        refine tw_aldI (ct := ct) hx hb hK hP hO_0 m_29 rfl (hb_inl as_0 as_1 (by decide +kernel)) d_Md_minutesOf_94 (fun x_30 e_30 b_30 => ?_)
        have hQ := hQ x_30 e_30
        refine lv_iconst (v := 2) hx hb d_Md_minutesOf_95 (by decide +kernel) ?_
        refine lv_icmp_ne (tgt := 108) hx hb d_Md_minutesOf_96 (by decide) (fun c_31 => ?_) (fun c_31 => ?_)
        · have hQ := hQ.2 c_31
          refine lv_iload hx hb d_Md_minutesOf_108 (lv_at hl 0 rfl) ?_
          refine lv_istore (lv' := [(6, .int ((x_2 - x_5) * 14)), (5, .int 14), (4, .int r_14), (3, .int (x_2 - x_5)), (0, .ref q0), (1, .int p_0), (2, .int p_1)]) hx hb d_Md_minutesOf_110 hl (by decide) rfl (fun ls hl => ?_)
          refine lv_iload hx hb d_Md_minutesOf_112 (lv_at hl 0 rfl) ?_
          refine lv_iconst (v := 1) hx hb d_Md_minutesOf_114 (by decide +kernel) ?_
          refine lv_icmp_ge (tgt := 122) hx hb d_Md_minutesOf_115 (by decide) (fun c_32 => ?_) (fun c_32 => ?_)
          · have hQ := hQ.1 c_32
            refine lv_iload hx hb d_Md_minutesOf_122 (lv_at hl 0 rfl) ?_
            exact W.iret (v := ((x_2 - x_5) * 14)) hx hb hr (fun t ht hW => ⟨((x_2 - x_5) * 14), rfl, ⟨trivial, hQ⟩, ht⟩) t_nil d_Md_minutesOf_124
          · have hQ := hQ.2 c_32
            refine lv_iconst (v := 1) hx hb d_Md_minutesOf_118 (by decide +kernel) ?_
            refine lv_goto (tgt := 124) hx hb d_Md_minutesOf_119 (by decide) ?_
            exact W.iret (v := 1) hx hb hr (fun t ht hW => ⟨1, rfl, ⟨trivial, hQ⟩, ht⟩) t_nil d_Md_minutesOf_124
        · have hQ := hQ.1 c_31
          refine lv_iload hx hb d_Md_minutesOf_99 (lv_at hl 0 rfl) ?_
          refine lv_iconst (v := 2) hx hb d_Md_minutesOf_101 (by decide +kernel) ?_
          refine lv_imul hx hb d_Md_minutesOf_102 ?_
          refine lv_iconst (v := 3) hx hb d_Md_minutesOf_103 (by decide +kernel) ?_
          refine lv_idiv hx hb d_Md_minutesOf_104 (by decide) ?_
          refine lv_goto (tgt := 110) hx hb d_Md_minutesOf_105 (by decide) ?_
          refine lv_istore (lv' := [(6, .int ((((x_2 - x_5) * 14) * 2) / 3)), (5, .int 14), (4, .int r_14), (3, .int (x_2 - x_5)), (0, .ref q0), (1, .int p_0), (2, .int p_1)]) hx hb d_Md_minutesOf_110 hl (by decide) rfl (fun ls hl => ?_)
          refine lv_iload hx hb d_Md_minutesOf_112 (lv_at hl 0 rfl) ?_
          refine lv_iconst (v := 1) hx hb d_Md_minutesOf_114 (by decide +kernel) ?_
          refine lv_icmp_ge (tgt := 122) hx hb d_Md_minutesOf_115 (by decide) (fun c_33 => ?_) (fun c_33 => ?_)
          · have hQ := hQ.1 c_33
            refine lv_iload hx hb d_Md_minutesOf_122 (lv_at hl 0 rfl) ?_
            exact W.iret (v := ((((x_2 - x_5) * 14) * 2) / 3)) hx hb hr (fun t ht hW => ⟨((((x_2 - x_5) * 14) * 2) / 3), rfl, ⟨trivial, hQ⟩, ht⟩) t_nil d_Md_minutesOf_124
          · have hQ := hQ.2 c_33
            refine lv_iconst (v := 1) hx hb d_Md_minutesOf_118 (by decide +kernel) ?_
            refine lv_goto (tgt := 124) hx hb d_Md_minutesOf_119 (by decide) ?_
            exact W.iret (v := 1) hx hb hr (fun t ht hW => ⟨1, rfl, ⟨trivial, hQ⟩, ht⟩) t_nil d_Md_minutesOf_124
    · have hQ := hQ.2 c_16
      refine lv_iconst (v := 1) hx hb d_Md_minutesOf_48 (by decide +kernel) ?_
      refine lv_goto (tgt := 53) hx hb d_Md_minutesOf_49 (by decide) ?_
      refine lv_iload_n hx hb d_Md_minutesOf_53 rfl (lv_at hl 1 rfl) ?_
      refine lv_if_le (tgt := 61) hx hb d_Md_minutesOf_54 (by decide) (fun c_34 => ?_) (fun c_34 => ?_)
      · have hQ := hQ.1 c_34
        refine lv_iconst (v := 0) hx hb d_Md_minutesOf_61 (by decide +kernel) ?_
        refine lv_icmp_ne (tgt := 70) hx hb d_Md_minutesOf_62 (by decide) (fun _ => ?_) (fun h => absurd h (by decide +kernel))
        refine lv_bipush (v := 14) hx hb d_Md_minutesOf_70 (by decide +kernel) ?_
        refine lv_istore (lv' := [(5, .int 14), (4, .int r_14), (3, .int (x_2 - x_5)), (0, .ref q0), (1, .int p_0), (2, .int p_1)]) hx hb d_Md_minutesOf_72 hl (by decide) rfl (fun ls hl => ?_)
        refine lv_iload_n hx hb d_Md_minutesOf_74 rfl (lv_at hl 2 rfl) ?_
        refine lv_if_ge (tgt := 83) hx hb d_Md_minutesOf_75 (by decide) (fun c_35 => ?_) (fun c_35 => ?_)
        · have hQ := hQ.1 c_35
          refine lv_iload_n hx hb d_Md_minutesOf_83 rfl (lv_at hl 2 rfl) ?_
          refine lv_iload hx hb d_Md_minutesOf_84 (lv_at hl 0 rfl) ?_
          refine lv_imul hx hb d_Md_minutesOf_86 ?_
          refine lv_istore (lv' := [(6, .int ((x_2 - x_5) * 14)), (5, .int 14), (4, .int r_14), (3, .int (x_2 - x_5)), (0, .ref q0), (1, .int p_0), (2, .int p_1)]) hx hb d_Md_minutesOf_87 hl (by decide) rfl (fun ls hl => ?_)
          refine lv_aload_n hx hb d_Md_minutesOf_89 rfl (lv_at hl 4 rfl) ?_
          refine tw_getr (D := (dC, dI)) (C := R_Md) (T := F_Md) (N := 64) (ci := 7) (kd := 27) (ct := ct) hx hb htb i_Md hown hK hP hO_0 m0 rfl rfl 22 (by decide) (htb (.fieldLink R_Md 94 "WaterMenModel" "boatOars" "[I") tw_510) (fun _ h9 => h9) rfl d_Md_minutesOf_90 (fun q_36 e_36 m_36 => ?_)
          have hQ := hQ q_36 e_36
          refine lv_iload_n hx hb d_Md_minutesOf_93 rfl (lv_at hl 5 rfl) ?_
          refine tw_aldI (ct := ct) hx hb hK hP hO_0 m_36 rfl (hb_inl as_0 as_1 (by decide +kernel)) d_Md_minutesOf_94 (fun x_37 e_37 b_37 => ?_)
          have hQ := hQ x_37 e_37
          refine lv_iconst (v := 2) hx hb d_Md_minutesOf_95 (by decide +kernel) ?_
          refine lv_icmp_ne (tgt := 108) hx hb d_Md_minutesOf_96 (by decide) (fun c_38 => ?_) (fun c_38 => ?_)
          · have hQ := hQ.2 c_38
            refine lv_iload hx hb d_Md_minutesOf_108 (lv_at hl 0 rfl) ?_
            refine lv_istore (lv' := [(6, .int ((x_2 - x_5) * 14)), (5, .int 14), (4, .int r_14), (3, .int (x_2 - x_5)), (0, .ref q0), (1, .int p_0), (2, .int p_1)]) hx hb d_Md_minutesOf_110 hl (by decide) rfl (fun ls hl => ?_)
            refine lv_iload hx hb d_Md_minutesOf_112 (lv_at hl 0 rfl) ?_
            refine lv_iconst (v := 1) hx hb d_Md_minutesOf_114 (by decide +kernel) ?_
            refine lv_icmp_ge (tgt := 122) hx hb d_Md_minutesOf_115 (by decide) (fun c_39 => ?_) (fun c_39 => ?_)
            · have hQ := hQ.1 c_39
              refine lv_iload hx hb d_Md_minutesOf_122 (lv_at hl 0 rfl) ?_
              exact W.iret (v := ((x_2 - x_5) * 14)) hx hb hr (fun t ht hW => ⟨((x_2 - x_5) * 14), rfl, ⟨trivial, hQ⟩, ht⟩) t_nil d_Md_minutesOf_124
            · have hQ := hQ.2 c_39
              refine lv_iconst (v := 1) hx hb d_Md_minutesOf_118 (by decide +kernel) ?_
              refine lv_goto (tgt := 124) hx hb d_Md_minutesOf_119 (by decide) ?_
              exact W.iret (v := 1) hx hb hr (fun t ht hW => ⟨1, rfl, ⟨trivial, hQ⟩, ht⟩) t_nil d_Md_minutesOf_124
          · have hQ := hQ.1 c_38
            refine lv_iload hx hb d_Md_minutesOf_99 (lv_at hl 0 rfl) ?_
            refine lv_iconst (v := 2) hx hb d_Md_minutesOf_101 (by decide +kernel) ?_
            refine lv_imul hx hb d_Md_minutesOf_102 ?_
            refine lv_iconst (v := 3) hx hb d_Md_minutesOf_103 (by decide +kernel) ?_
            refine lv_idiv hx hb d_Md_minutesOf_104 (by decide) ?_
            refine lv_goto (tgt := 110) hx hb d_Md_minutesOf_105 (by decide) ?_
            refine lv_istore (lv' := [(6, .int ((((x_2 - x_5) * 14) * 2) / 3)), (5, .int 14), (4, .int r_14), (3, .int (x_2 - x_5)), (0, .ref q0), (1, .int p_0), (2, .int p_1)]) hx hb d_Md_minutesOf_110 hl (by decide) rfl (fun ls hl => ?_)
            refine lv_iload hx hb d_Md_minutesOf_112 (lv_at hl 0 rfl) ?_
            refine lv_iconst (v := 1) hx hb d_Md_minutesOf_114 (by decide +kernel) ?_
            refine lv_icmp_ge (tgt := 122) hx hb d_Md_minutesOf_115 (by decide) (fun c_40 => ?_) (fun c_40 => ?_)
            · have hQ := hQ.1 c_40
              refine lv_iload hx hb d_Md_minutesOf_122 (lv_at hl 0 rfl) ?_
              exact W.iret (v := ((((x_2 - x_5) * 14) * 2) / 3)) hx hb hr (fun t ht hW => ⟨((((x_2 - x_5) * 14) * 2) / 3), rfl, ⟨trivial, hQ⟩, ht⟩) t_nil d_Md_minutesOf_124
            · have hQ := hQ.2 c_40
              refine lv_iconst (v := 1) hx hb d_Md_minutesOf_118 (by decide +kernel) ?_
              refine lv_goto (tgt := 124) hx hb d_Md_minutesOf_119 (by decide) ?_
              exact W.iret (v := 1) hx hb hr (fun t ht hW => ⟨1, rfl, ⟨trivial, hQ⟩, ht⟩) t_nil d_Md_minutesOf_124
        · have hQ := hQ.2 c_35
          refine lv_iload_n hx hb d_Md_minutesOf_78 rfl (lv_at hl 2 rfl) ?_
          refine lv_ineg hx hb d_Md_minutesOf_79 ?_
          refine lv_goto (tgt := 84) hx hb d_Md_minutesOf_80 (by decide) ?_
          refine lv_iload hx hb d_Md_minutesOf_84 (lv_at hl 0 rfl) ?_
          refine lv_imul hx hb d_Md_minutesOf_86 ?_
          refine lv_istore (lv' := [(6, .int ((-(x_2 - x_5)) * 14)), (5, .int 14), (4, .int r_14), (3, .int (x_2 - x_5)), (0, .ref q0), (1, .int p_0), (2, .int p_1)]) hx hb d_Md_minutesOf_87 hl (by decide) rfl (fun ls hl => ?_)
          refine lv_aload_n hx hb d_Md_minutesOf_89 rfl (lv_at hl 4 rfl) ?_
          refine tw_getr (D := (dC, dI)) (C := R_Md) (T := F_Md) (N := 64) (ci := 7) (kd := 27) (ct := ct) hx hb htb i_Md hown hK hP hO_0 m0 rfl rfl 22 (by decide) (htb (.fieldLink R_Md 94 "WaterMenModel" "boatOars" "[I") tw_510) (fun _ h9 => h9) rfl d_Md_minutesOf_90 (fun q_41 e_41 m_41 => ?_)
          have hQ := hQ q_41 e_41
          refine lv_iload_n hx hb d_Md_minutesOf_93 rfl (lv_at hl 5 rfl) ?_
          refine tw_aldI (ct := ct) hx hb hK hP hO_0 m_41 rfl (hb_inl as_0 as_1 (by decide +kernel)) d_Md_minutesOf_94 (fun x_42 e_42 b_42 => ?_)
          have hQ := hQ x_42 e_42
          refine lv_iconst (v := 2) hx hb d_Md_minutesOf_95 (by decide +kernel) ?_
          refine lv_icmp_ne (tgt := 108) hx hb d_Md_minutesOf_96 (by decide) (fun c_43 => ?_) (fun c_43 => ?_)
          · have hQ := hQ.2 c_43
            refine lv_iload hx hb d_Md_minutesOf_108 (lv_at hl 0 rfl) ?_
            refine lv_istore (lv' := [(6, .int ((-(x_2 - x_5)) * 14)), (5, .int 14), (4, .int r_14), (3, .int (x_2 - x_5)), (0, .ref q0), (1, .int p_0), (2, .int p_1)]) hx hb d_Md_minutesOf_110 hl (by decide) rfl (fun ls hl => ?_)
            refine lv_iload hx hb d_Md_minutesOf_112 (lv_at hl 0 rfl) ?_
            refine lv_iconst (v := 1) hx hb d_Md_minutesOf_114 (by decide +kernel) ?_
            refine lv_icmp_ge (tgt := 122) hx hb d_Md_minutesOf_115 (by decide) (fun c_44 => ?_) (fun c_44 => ?_)
            · have hQ := hQ.1 c_44
              refine lv_iload hx hb d_Md_minutesOf_122 (lv_at hl 0 rfl) ?_
              exact W.iret (v := ((-(x_2 - x_5)) * 14)) hx hb hr (fun t ht hW => ⟨((-(x_2 - x_5)) * 14), rfl, ⟨trivial, hQ⟩, ht⟩) t_nil d_Md_minutesOf_124
            · have hQ := hQ.2 c_44
              refine lv_iconst (v := 1) hx hb d_Md_minutesOf_118 (by decide +kernel) ?_
              refine lv_goto (tgt := 124) hx hb d_Md_minutesOf_119 (by decide) ?_
              exact W.iret (v := 1) hx hb hr (fun t ht hW => ⟨1, rfl, ⟨trivial, hQ⟩, ht⟩) t_nil d_Md_minutesOf_124
          · have hQ := hQ.1 c_43
            refine lv_iload hx hb d_Md_minutesOf_99 (lv_at hl 0 rfl) ?_
            refine lv_iconst (v := 2) hx hb d_Md_minutesOf_101 (by decide +kernel) ?_
            refine lv_imul hx hb d_Md_minutesOf_102 ?_
            refine lv_iconst (v := 3) hx hb d_Md_minutesOf_103 (by decide +kernel) ?_
            refine lv_idiv hx hb d_Md_minutesOf_104 (by decide) ?_
            refine lv_goto (tgt := 110) hx hb d_Md_minutesOf_105 (by decide) ?_
            refine lv_istore (lv' := [(6, .int ((((-(x_2 - x_5)) * 14) * 2) / 3)), (5, .int 14), (4, .int r_14), (3, .int (x_2 - x_5)), (0, .ref q0), (1, .int p_0), (2, .int p_1)]) hx hb d_Md_minutesOf_110 hl (by decide) rfl (fun ls hl => ?_)
            refine lv_iload hx hb d_Md_minutesOf_112 (lv_at hl 0 rfl) ?_
            refine lv_iconst (v := 1) hx hb d_Md_minutesOf_114 (by decide +kernel) ?_
            refine lv_icmp_ge (tgt := 122) hx hb d_Md_minutesOf_115 (by decide) (fun c_45 => ?_) (fun c_45 => ?_)
            · have hQ := hQ.1 c_45
              refine lv_iload hx hb d_Md_minutesOf_122 (lv_at hl 0 rfl) ?_
              exact W.iret (v := ((((-(x_2 - x_5)) * 14) * 2) / 3)) hx hb hr (fun t ht hW => ⟨((((-(x_2 - x_5)) * 14) * 2) / 3), rfl, ⟨trivial, hQ⟩, ht⟩) t_nil d_Md_minutesOf_124
            · have hQ := hQ.2 c_45
              refine lv_iconst (v := 1) hx hb d_Md_minutesOf_118 (by decide +kernel) ?_
              refine lv_goto (tgt := 124) hx hb d_Md_minutesOf_119 (by decide) ?_
              exact W.iret (v := 1) hx hb hr (fun t ht hW => ⟨1, rfl, ⟨trivial, hQ⟩, ht⟩) t_nil d_Md_minutesOf_124
      · have hQ := hQ.2 c_34
        refine lv_iconst (v := 1) hx hb d_Md_minutesOf_57 (by decide +kernel) ?_
        refine lv_goto (tgt := 62) hx hb d_Md_minutesOf_58 (by decide) ?_
        refine lv_icmp_ne (tgt := 70) hx hb d_Md_minutesOf_62 (by decide) (fun h => absurd (by decide +kernel) h) (fun _ => ?_)
        refine lv_bipush (v := 7) hx hb d_Md_minutesOf_65 (by decide +kernel) ?_
        refine lv_goto (tgt := 72) hx hb d_Md_minutesOf_67 (by decide) ?_
        refine lv_istore (lv' := [(5, .int 7), (4, .int r_14), (3, .int (x_2 - x_5)), (0, .ref q0), (1, .int p_0), (2, .int p_1)]) hx hb d_Md_minutesOf_72 hl (by decide) rfl (fun ls hl => ?_)
        refine lv_iload_n hx hb d_Md_minutesOf_74 rfl (lv_at hl 2 rfl) ?_
        refine lv_if_ge (tgt := 83) hx hb d_Md_minutesOf_75 (by decide) (fun _ => ?_) (fun h => absurd (show 0 ≤ (x_2 - x_5) from by have e0 := c_34; rw [Int32.le_iff_toInt_le] at e0; have z0 : (0 : Int32).toInt = 0 := (by decide +kernel); rw [Int32.le_iff_toInt_le]; omega) h)
        refine lv_iload_n hx hb d_Md_minutesOf_83 rfl (lv_at hl 2 rfl) ?_
        refine lv_iload hx hb d_Md_minutesOf_84 (lv_at hl 0 rfl) ?_
        refine lv_imul hx hb d_Md_minutesOf_86 ?_
        refine lv_istore (lv' := [(6, .int ((x_2 - x_5) * 7)), (5, .int 7), (4, .int r_14), (3, .int (x_2 - x_5)), (0, .ref q0), (1, .int p_0), (2, .int p_1)]) hx hb d_Md_minutesOf_87 hl (by decide) rfl (fun ls hl => ?_)
        refine lv_aload_n hx hb d_Md_minutesOf_89 rfl (lv_at hl 4 rfl) ?_
        refine tw_getr (D := (dC, dI)) (C := R_Md) (T := F_Md) (N := 64) (ci := 7) (kd := 27) (ct := ct) hx hb htb i_Md hown hK hP hO_0 m0 rfl rfl 22 (by decide) (htb (.fieldLink R_Md 94 "WaterMenModel" "boatOars" "[I") tw_510) (fun _ h9 => h9) rfl d_Md_minutesOf_90 (fun q_46 e_46 m_46 => ?_)
        have hQ := hQ q_46 e_46
        refine lv_iload_n hx hb d_Md_minutesOf_93 rfl (lv_at hl 5 rfl) ?_
        refine tw_aldI (ct := ct) hx hb hK hP hO_0 m_46 rfl (hb_inl as_0 as_1 (by decide +kernel)) d_Md_minutesOf_94 (fun x_47 e_47 b_47 => ?_)
        have hQ := hQ x_47 e_47
        refine lv_iconst (v := 2) hx hb d_Md_minutesOf_95 (by decide +kernel) ?_
        refine lv_icmp_ne (tgt := 108) hx hb d_Md_minutesOf_96 (by decide) (fun c_48 => ?_) (fun c_48 => ?_)
        · have hQ := hQ.2 c_48
          refine lv_iload hx hb d_Md_minutesOf_108 (lv_at hl 0 rfl) ?_
          refine lv_istore (lv' := [(6, .int ((x_2 - x_5) * 7)), (5, .int 7), (4, .int r_14), (3, .int (x_2 - x_5)), (0, .ref q0), (1, .int p_0), (2, .int p_1)]) hx hb d_Md_minutesOf_110 hl (by decide) rfl (fun ls hl => ?_)
          refine lv_iload hx hb d_Md_minutesOf_112 (lv_at hl 0 rfl) ?_
          refine lv_iconst (v := 1) hx hb d_Md_minutesOf_114 (by decide +kernel) ?_
          refine lv_icmp_ge (tgt := 122) hx hb d_Md_minutesOf_115 (by decide) (fun c_49 => ?_) (fun c_49 => ?_)
          · have hQ := hQ.1 c_49
            refine lv_iload hx hb d_Md_minutesOf_122 (lv_at hl 0 rfl) ?_
            exact W.iret (v := ((x_2 - x_5) * 7)) hx hb hr (fun t ht hW => ⟨((x_2 - x_5) * 7), rfl, ⟨trivial, hQ⟩, ht⟩) t_nil d_Md_minutesOf_124
          · have hQ := hQ.2 c_49
            refine lv_iconst (v := 1) hx hb d_Md_minutesOf_118 (by decide +kernel) ?_
            refine lv_goto (tgt := 124) hx hb d_Md_minutesOf_119 (by decide) ?_
            exact W.iret (v := 1) hx hb hr (fun t ht hW => ⟨1, rfl, ⟨trivial, hQ⟩, ht⟩) t_nil d_Md_minutesOf_124
        · have hQ := hQ.1 c_48
          refine lv_iload hx hb d_Md_minutesOf_99 (lv_at hl 0 rfl) ?_
          refine lv_iconst (v := 2) hx hb d_Md_minutesOf_101 (by decide +kernel) ?_
          refine lv_imul hx hb d_Md_minutesOf_102 ?_
          refine lv_iconst (v := 3) hx hb d_Md_minutesOf_103 (by decide +kernel) ?_
          refine lv_idiv hx hb d_Md_minutesOf_104 (by decide) ?_
          refine lv_goto (tgt := 110) hx hb d_Md_minutesOf_105 (by decide) ?_
          refine lv_istore (lv' := [(6, .int ((((x_2 - x_5) * 7) * 2) / 3)), (5, .int 7), (4, .int r_14), (3, .int (x_2 - x_5)), (0, .ref q0), (1, .int p_0), (2, .int p_1)]) hx hb d_Md_minutesOf_110 hl (by decide) rfl (fun ls hl => ?_)
          refine lv_iload hx hb d_Md_minutesOf_112 (lv_at hl 0 rfl) ?_
          refine lv_iconst (v := 1) hx hb d_Md_minutesOf_114 (by decide +kernel) ?_
          refine lv_icmp_ge (tgt := 122) hx hb d_Md_minutesOf_115 (by decide) (fun c_50 => ?_) (fun c_50 => ?_)
          · have hQ := hQ.1 c_50
            refine lv_iload hx hb d_Md_minutesOf_122 (lv_at hl 0 rfl) ?_
            exact W.iret (v := ((((x_2 - x_5) * 7) * 2) / 3)) hx hb hr (fun t ht hW => ⟨((((x_2 - x_5) * 7) * 2) / 3), rfl, ⟨trivial, hQ⟩, ht⟩) t_nil d_Md_minutesOf_124
          · have hQ := hQ.2 c_50
            refine lv_iconst (v := 1) hx hb d_Md_minutesOf_118 (by decide +kernel) ?_
            refine lv_goto (tgt := 124) hx hb d_Md_minutesOf_119 (by decide) ?_
            exact W.iret (v := 1) hx hb hr (fun t ht hW => ⟨1, rfl, ⟨trivial, hQ⟩, ht⟩) t_nil d_Md_minutesOf_124
  · have hQ := hQ.1 c_15
    refine lv_bipush (v := 10) hx hb d_Md_minutesOf_38 (by decide +kernel) ?_
    refine lv_goto (tgt := 72) hx hb d_Md_minutesOf_40 (by decide) ?_
    refine lv_istore (lv' := [(5, .int 10), (4, .int r_14), (3, .int (x_2 - x_5)), (0, .ref q0), (1, .int p_0), (2, .int p_1)]) hx hb d_Md_minutesOf_72 hl (by decide) rfl (fun ls hl => ?_)
    refine lv_iload_n hx hb d_Md_minutesOf_74 rfl (lv_at hl 2 rfl) ?_
    refine lv_if_ge (tgt := 83) hx hb d_Md_minutesOf_75 (by decide) (fun c_51 => ?_) (fun c_51 => ?_)
    · have hQ := hQ.1 c_51
      refine lv_iload_n hx hb d_Md_minutesOf_83 rfl (lv_at hl 2 rfl) ?_
      refine lv_iload hx hb d_Md_minutesOf_84 (lv_at hl 0 rfl) ?_
      refine lv_imul hx hb d_Md_minutesOf_86 ?_
      refine lv_istore (lv' := [(6, .int ((x_2 - x_5) * 10)), (5, .int 10), (4, .int r_14), (3, .int (x_2 - x_5)), (0, .ref q0), (1, .int p_0), (2, .int p_1)]) hx hb d_Md_minutesOf_87 hl (by decide) rfl (fun ls hl => ?_)
      refine lv_aload_n hx hb d_Md_minutesOf_89 rfl (lv_at hl 4 rfl) ?_
      refine tw_getr (D := (dC, dI)) (C := R_Md) (T := F_Md) (N := 64) (ci := 7) (kd := 27) (ct := ct) hx hb htb i_Md hown hK hP hO_0 m0 rfl rfl 22 (by decide) (htb (.fieldLink R_Md 94 "WaterMenModel" "boatOars" "[I") tw_510) (fun _ h9 => h9) rfl d_Md_minutesOf_90 (fun q_52 e_52 m_52 => ?_)
      have hQ := hQ q_52 e_52
      refine lv_iload_n hx hb d_Md_minutesOf_93 rfl (lv_at hl 5 rfl) ?_
      refine tw_aldI (ct := ct) hx hb hK hP hO_0 m_52 rfl (hb_inl as_0 as_1 (by decide +kernel)) d_Md_minutesOf_94 (fun x_53 e_53 b_53 => ?_)
      have hQ := hQ x_53 e_53
      refine lv_iconst (v := 2) hx hb d_Md_minutesOf_95 (by decide +kernel) ?_
      refine lv_icmp_ne (tgt := 108) hx hb d_Md_minutesOf_96 (by decide) (fun c_54 => ?_) (fun c_54 => ?_)
      · have hQ := hQ.2 c_54
        refine lv_iload hx hb d_Md_minutesOf_108 (lv_at hl 0 rfl) ?_
        refine lv_istore (lv' := [(6, .int ((x_2 - x_5) * 10)), (5, .int 10), (4, .int r_14), (3, .int (x_2 - x_5)), (0, .ref q0), (1, .int p_0), (2, .int p_1)]) hx hb d_Md_minutesOf_110 hl (by decide) rfl (fun ls hl => ?_)
        refine lv_iload hx hb d_Md_minutesOf_112 (lv_at hl 0 rfl) ?_
        refine lv_iconst (v := 1) hx hb d_Md_minutesOf_114 (by decide +kernel) ?_
        refine lv_icmp_ge (tgt := 122) hx hb d_Md_minutesOf_115 (by decide) (fun c_55 => ?_) (fun c_55 => ?_)
        · have hQ := hQ.1 c_55
          refine lv_iload hx hb d_Md_minutesOf_122 (lv_at hl 0 rfl) ?_
          exact W.iret (v := ((x_2 - x_5) * 10)) hx hb hr (fun t ht hW => ⟨((x_2 - x_5) * 10), rfl, ⟨trivial, hQ⟩, ht⟩) t_nil d_Md_minutesOf_124
        · have hQ := hQ.2 c_55
          refine lv_iconst (v := 1) hx hb d_Md_minutesOf_118 (by decide +kernel) ?_
          refine lv_goto (tgt := 124) hx hb d_Md_minutesOf_119 (by decide) ?_
          exact W.iret (v := 1) hx hb hr (fun t ht hW => ⟨1, rfl, ⟨trivial, hQ⟩, ht⟩) t_nil d_Md_minutesOf_124
      · have hQ := hQ.1 c_54
        refine lv_iload hx hb d_Md_minutesOf_99 (lv_at hl 0 rfl) ?_
        refine lv_iconst (v := 2) hx hb d_Md_minutesOf_101 (by decide +kernel) ?_
        refine lv_imul hx hb d_Md_minutesOf_102 ?_
        refine lv_iconst (v := 3) hx hb d_Md_minutesOf_103 (by decide +kernel) ?_
        refine lv_idiv hx hb d_Md_minutesOf_104 (by decide) ?_
        refine lv_goto (tgt := 110) hx hb d_Md_minutesOf_105 (by decide) ?_
        refine lv_istore (lv' := [(6, .int ((((x_2 - x_5) * 10) * 2) / 3)), (5, .int 10), (4, .int r_14), (3, .int (x_2 - x_5)), (0, .ref q0), (1, .int p_0), (2, .int p_1)]) hx hb d_Md_minutesOf_110 hl (by decide) rfl (fun ls hl => ?_)
        refine lv_iload hx hb d_Md_minutesOf_112 (lv_at hl 0 rfl) ?_
        refine lv_iconst (v := 1) hx hb d_Md_minutesOf_114 (by decide +kernel) ?_
        refine lv_icmp_ge (tgt := 122) hx hb d_Md_minutesOf_115 (by decide) (fun c_56 => ?_) (fun c_56 => ?_)
        · have hQ := hQ.1 c_56
          refine lv_iload hx hb d_Md_minutesOf_122 (lv_at hl 0 rfl) ?_
          exact W.iret (v := ((((x_2 - x_5) * 10) * 2) / 3)) hx hb hr (fun t ht hW => ⟨((((x_2 - x_5) * 10) * 2) / 3), rfl, ⟨trivial, hQ⟩, ht⟩) t_nil d_Md_minutesOf_124
        · have hQ := hQ.2 c_56
          refine lv_iconst (v := 1) hx hb d_Md_minutesOf_118 (by decide +kernel) ?_
          refine lv_goto (tgt := 124) hx hb d_Md_minutesOf_119 (by decide) ?_
          exact W.iret (v := 1) hx hb hr (fun t ht hW => ⟨1, rfl, ⟨trivial, hQ⟩, ht⟩) t_nil d_Md_minutesOf_124
    · have hQ := hQ.2 c_51
      refine lv_iload_n hx hb d_Md_minutesOf_78 rfl (lv_at hl 2 rfl) ?_
      refine lv_ineg hx hb d_Md_minutesOf_79 ?_
      refine lv_goto (tgt := 84) hx hb d_Md_minutesOf_80 (by decide) ?_
      refine lv_iload hx hb d_Md_minutesOf_84 (lv_at hl 0 rfl) ?_
      refine lv_imul hx hb d_Md_minutesOf_86 ?_
      refine lv_istore (lv' := [(6, .int ((-(x_2 - x_5)) * 10)), (5, .int 10), (4, .int r_14), (3, .int (x_2 - x_5)), (0, .ref q0), (1, .int p_0), (2, .int p_1)]) hx hb d_Md_minutesOf_87 hl (by decide) rfl (fun ls hl => ?_)
      refine lv_aload_n hx hb d_Md_minutesOf_89 rfl (lv_at hl 4 rfl) ?_
      refine tw_getr (D := (dC, dI)) (C := R_Md) (T := F_Md) (N := 64) (ci := 7) (kd := 27) (ct := ct) hx hb htb i_Md hown hK hP hO_0 m0 rfl rfl 22 (by decide) (htb (.fieldLink R_Md 94 "WaterMenModel" "boatOars" "[I") tw_510) (fun _ h9 => h9) rfl d_Md_minutesOf_90 (fun q_57 e_57 m_57 => ?_)
      have hQ := hQ q_57 e_57
      refine lv_iload_n hx hb d_Md_minutesOf_93 rfl (lv_at hl 5 rfl) ?_
      refine tw_aldI (ct := ct) hx hb hK hP hO_0 m_57 rfl (hb_inl as_0 as_1 (by decide +kernel)) d_Md_minutesOf_94 (fun x_58 e_58 b_58 => ?_)
      have hQ := hQ x_58 e_58
      refine lv_iconst (v := 2) hx hb d_Md_minutesOf_95 (by decide +kernel) ?_
      refine lv_icmp_ne (tgt := 108) hx hb d_Md_minutesOf_96 (by decide) (fun c_59 => ?_) (fun c_59 => ?_)
      · have hQ := hQ.2 c_59
        refine lv_iload hx hb d_Md_minutesOf_108 (lv_at hl 0 rfl) ?_
        refine lv_istore (lv' := [(6, .int ((-(x_2 - x_5)) * 10)), (5, .int 10), (4, .int r_14), (3, .int (x_2 - x_5)), (0, .ref q0), (1, .int p_0), (2, .int p_1)]) hx hb d_Md_minutesOf_110 hl (by decide) rfl (fun ls hl => ?_)
        refine lv_iload hx hb d_Md_minutesOf_112 (lv_at hl 0 rfl) ?_
        refine lv_iconst (v := 1) hx hb d_Md_minutesOf_114 (by decide +kernel) ?_
        refine lv_icmp_ge (tgt := 122) hx hb d_Md_minutesOf_115 (by decide) (fun c_60 => ?_) (fun c_60 => ?_)
        · have hQ := hQ.1 c_60
          refine lv_iload hx hb d_Md_minutesOf_122 (lv_at hl 0 rfl) ?_
          exact W.iret (v := ((-(x_2 - x_5)) * 10)) hx hb hr (fun t ht hW => ⟨((-(x_2 - x_5)) * 10), rfl, ⟨trivial, hQ⟩, ht⟩) t_nil d_Md_minutesOf_124
        · have hQ := hQ.2 c_60
          refine lv_iconst (v := 1) hx hb d_Md_minutesOf_118 (by decide +kernel) ?_
          refine lv_goto (tgt := 124) hx hb d_Md_minutesOf_119 (by decide) ?_
          exact W.iret (v := 1) hx hb hr (fun t ht hW => ⟨1, rfl, ⟨trivial, hQ⟩, ht⟩) t_nil d_Md_minutesOf_124
      · have hQ := hQ.1 c_59
        refine lv_iload hx hb d_Md_minutesOf_99 (lv_at hl 0 rfl) ?_
        refine lv_iconst (v := 2) hx hb d_Md_minutesOf_101 (by decide +kernel) ?_
        refine lv_imul hx hb d_Md_minutesOf_102 ?_
        refine lv_iconst (v := 3) hx hb d_Md_minutesOf_103 (by decide +kernel) ?_
        refine lv_idiv hx hb d_Md_minutesOf_104 (by decide) ?_
        refine lv_goto (tgt := 110) hx hb d_Md_minutesOf_105 (by decide) ?_
        refine lv_istore (lv' := [(6, .int ((((-(x_2 - x_5)) * 10) * 2) / 3)), (5, .int 10), (4, .int r_14), (3, .int (x_2 - x_5)), (0, .ref q0), (1, .int p_0), (2, .int p_1)]) hx hb d_Md_minutesOf_110 hl (by decide) rfl (fun ls hl => ?_)
        refine lv_iload hx hb d_Md_minutesOf_112 (lv_at hl 0 rfl) ?_
        refine lv_iconst (v := 1) hx hb d_Md_minutesOf_114 (by decide +kernel) ?_
        refine lv_icmp_ge (tgt := 122) hx hb d_Md_minutesOf_115 (by decide) (fun c_61 => ?_) (fun c_61 => ?_)
        · have hQ := hQ.1 c_61
          refine lv_iload hx hb d_Md_minutesOf_122 (lv_at hl 0 rfl) ?_
          exact W.iret (v := ((((-(x_2 - x_5)) * 10) * 2) / 3)) hx hb hr (fun t ht hW => ⟨((((-(x_2 - x_5)) * 10) * 2) / 3), rfl, ⟨trivial, hQ⟩, ht⟩) t_nil d_Md_minutesOf_124
        · have hQ := hQ.2 c_61
          refine lv_iconst (v := 1) hx hb d_Md_minutesOf_118 (by decide +kernel) ?_
          refine lv_goto (tgt := 124) hx hb d_Md_minutesOf_119 (by decide) ?_
          exact W.iret (v := 1) hx hb hr (fun t ht hW => ⟨1, rfl, ⟨trivial, hQ⟩, ht⟩) t_nil d_Md_minutesOf_124
