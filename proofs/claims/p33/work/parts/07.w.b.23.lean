def wp_WM_craft_w (L : List Nat) (f : TF) (q0 : Nat) (p_0 : Int32) (p_1 : Int32) (Q : Int32 → Prop) : Prop := wp_WM_boatAt_w L f q0 p_0 (fun (r_1 : Option Nat) => ((r_1 = none → Q (-1)) ∧ (∀ q_1 : Nat, r_1 = some q_1 → ((p_1 = 0 → ∀ x_3 : Int32, ti f q_1 1 = x_3 → Q x_3) ∧ (¬ (p_1 = 0) → ((p_1 = 1 → ∀ x_5 : Int32, ti f q_1 0 = x_5 → Q x_5) ∧ (¬ (p_1 = 1) → ((p_1 = 2 → ∀ x_7 : Int32, ti f q_1 2 = x_7 → Q x_7) ∧ (¬ (p_1 = 2) → ((p_1 = 3 → ∀ x_9 : Int32, ti f q0 10 = x_9 → wp_Bt_stateAt_w L f q_1 x_9 (fun (r_10 : Int32) => ((r_10 = 1 → ∀ x_12 : Int32, ti f q_1 3 = x_12 → Q x_12) ∧ (¬ (r_10 = 1) → Q (-1))))) ∧ (¬ (p_1 = 3) → ((p_1 = 4 → ∀ x_14 : Int32, ti f q0 10 = x_14 → wp_Bt_stateAt_w L f q_1 x_14 (fun (r_15 : Int32) => Q r_15)) ∧ (¬ (p_1 = 4) → Q (-1))))))))))))))
set_option maxHeartbeats 4000000 in
set_option maxRecDepth 100000 in
theorem c_WM_craft_w (l : Launch) (dC : Nat → ClassId) (dI : Nat → Nat → Nat) (ct : Nat → ClassId) (L : List Nat) (f : TF) (hO_0 : Ok L f) (q0 : Nat) (m0 : q0 ∈ L ∧ tk f q0 = 0) (p_0 : Int32) (p_1 : Int32)   (Q : Int32 → Prop) (hQ : wp_WM_craft_w L f q0 p_0 p_1 Q) : Met l y_WM_craft (.code y_WM_craft b_WM_craft 4 (some .int) :: TB) ({ frames := 1, cells := 0, slots := 0, locals := 21 }) (va_Pc [.ref q0, .int p_0, .int p_1] (PR dC dI (TW ct L f) (TT ct))) (vp_Si (fun r => (True) ∧ Q r)) 0 0 (fun _ => False) := by
  refine Met.ofW (cc := b_WM_craft) (maxL := 4) (ret := (some .int)) (by decide) rfl ?_
  intro p e s m args below meth c s₁ B hml hv
  obtain ⟨rfl, hP, hK, hN⟩ := hv
  have hx := B.exec
  have hb := B.bytes
  have hr := B.returns
  have hts := atoms_spec (ws := (.code y_WM_craft b_WM_craft 4 (some .int) :: TB)) B.pre
  have htb := fun w (h : w ∈ TB) => hts w (List.mem_cons_of_mem _ h)
  have hown : s.vm.findClass R_WM = some m.cls := findClass_of_methodNamed B.named
  have hlocks := B.notSynchronized
  have hl := lv_entry ([.ref q0, .int p_0, .int p_1]) (n := 4) (Nat.le_of_ble_eq_true rfl)
  rw [lg_entry_eq]
  generalize (lg_sl ([.ref q0, .int p_0, .int p_1]) ++ List.replicate (4 - (lg_sl ([.ref q0, .int p_0, .int p_1])).length) Slot.unset).toArray = ls at hl ⊢
  have hl : lv_has ls 4 [(0, .ref q0), (1, .int p_0), (2, .int p_1)] := hl
  unfold wp_WM_craft_w at hQ
  refine lv_aload_n hx hb d_WM_craft_0 rfl (lv_at hl 0 rfl) ?_
  refine lv_iload_n hx hb d_WM_craft_1 rfl (lv_at hl 1 rfl) ?_
  refine va_csq (va_Run.run (va_runV (As := [.int p_0]) (rest := []) ⟨hx, hb, hml, hown, htb⟩ (c_WM_boatAt_w l dC dI ct L f hO_0 q0 m0 p_0 _ hQ) (cwV 1 htb (gd_V tw_514 tw_515 tw_516 tw_26 tw_513) rfl rfl rfl (by decide +kernel) ⟨Nat.le_of_ble_eq_true rfl, Nat.le_of_ble_eq_true rfl⟩) ⟨pr_blind, tw_recv hK hP m0 rfl rfl, pr_pre hP hK hN⟩ rfl rfl hl.1 rfl (lv_room (Nat.le_of_ble_eq_true rfl)) d_WM_craft_2 ⟨Nat.le_of_ble_eq_true rfl, Nat.le_of_ble_eq_true rfl⟩)) (fun r_1 er_1 => ?_)
  obtain ⟨er_1, hQ⟩ := er_1
  rcases er_1 with rfl | ⟨q_1, rfl, m_1⟩
  · have hQ := hQ.1 rfl
    refine hb_tv .null rfl ?_
    refine lv_astore_nN (lv' := [(3, .null), (0, .ref q0), (1, .int p_0), (2, .int p_1)]) hx hb d_WM_craft_5 rfl hl (by decide) rfl (fun ls hl => ?_)
    refine lv_aload_nN hx hb d_WM_craft_6 rfl (lv_at hl 0 rfl) ?_
    refine lv_ifnonnullN hx hb d_WM_craft_7 ?_
    refine lv_iconst (v := (-1)) hx hb d_WM_craft_10 (by decide +kernel) ?_
    exact W.iret (v := (-1)) hx hb hr (fun t ht hW => ⟨(-1), rfl, ⟨trivial, hQ⟩, ht⟩) t_nil d_WM_craft_11
  · have hQ := hQ.2 q_1 rfl
    refine hb_tv (.ref q_1) rfl ?_
    refine lv_astore_n (lv' := [(3, .ref q_1), (0, .ref q0), (1, .int p_0), (2, .int p_1)]) hx hb d_WM_craft_5 rfl hl (by decide) rfl (fun ls hl => ?_)
    refine lv_aload_n hx hb d_WM_craft_6 rfl (lv_at hl 0 rfl) ?_
    refine lv_ifnonnull (tgt := 12) hx hb d_WM_craft_7 (by decide) ?_
    refine lv_iload_n hx hb d_WM_craft_12 rfl (lv_at hl 3 rfl) ?_
    by_cases c_2 : p_1 = 0
    · have hQ := hQ.1 c_2
      refine lv_tableIn (off := 35) (tgt := 48) hx hb d_WM_craft_13 (by rw [c_2]; decide +kernel) (by rw [c_2]; decide +kernel) (by rw [c_2]; decide +kernel) (by decide) ?_
      refine lv_aload_n hx hb d_WM_craft_48 rfl (lv_at hl 0 rfl) ?_
      refine tw_geti (D := (dC, dI)) (C := R_Bt) (T := F_Bt) (N := 6) (ci := 9) (kd := 24) (ct := ct) hx hb htb i_Bt hown hK hP hO_0 m_1 rfl rfl 1 (by decide) (htb (.fieldLink R_WM 178 "WaterMen$Boat" "stairs" "I") tw_517) (fun _ h9 => h9) rfl d_WM_craft_49 (fun x_3 e_3 b_3 => ?_)
      have hQ := hQ x_3 e_3
      exact W.iret (v := x_3) hx hb hr (fun t ht hW => ⟨x_3, rfl, ⟨trivial, hQ⟩, ht⟩) t_nil d_WM_craft_52
    · have hQ := hQ.2 c_2
      by_cases c_4 : p_1 = 1
      · have hQ := hQ.1 c_4
        refine lv_tableIn (off := 40) (tgt := 53) hx hb d_WM_craft_13 (by rw [c_4]; decide +kernel) (by rw [c_4]; decide +kernel) (by rw [c_4]; decide +kernel) (by decide) ?_
        refine lv_aload_n hx hb d_WM_craft_53 rfl (lv_at hl 0 rfl) ?_
        refine tw_geti (D := (dC, dI)) (C := R_Bt) (T := F_Bt) (N := 6) (ci := 9) (kd := 24) (ct := ct) hx hb htb i_Bt hown hK hP hO_0 m_1 rfl rfl 0 (by decide) (htb (.fieldLink R_WM 181 "WaterMen$Boat" "oars" "I") tw_518) (fun _ h9 => h9) rfl d_WM_craft_54 (fun x_5 e_5 b_5 => ?_)
        have hQ := hQ x_5 e_5
        exact W.iret (v := x_5) hx hb hr (fun t ht hW => ⟨x_5, rfl, ⟨trivial, hQ⟩, ht⟩) t_nil d_WM_craft_57
      · have hQ := hQ.2 c_4
        by_cases c_6 : p_1 = 2
        · have hQ := hQ.1 c_6
          refine lv_tableIn (off := 45) (tgt := 58) hx hb d_WM_craft_13 (by rw [c_6]; decide +kernel) (by rw [c_6]; decide +kernel) (by rw [c_6]; decide +kernel) (by decide) ?_
          refine lv_aload_n hx hb d_WM_craft_58 rfl (lv_at hl 0 rfl) ?_
          refine tw_geti (D := (dC, dI)) (C := R_Bt) (T := F_Bt) (N := 6) (ci := 9) (kd := 24) (ct := ct) hx hb htb i_Bt hown hK hP hO_0 m_1 rfl rfl 2 (by decide) (htb (.fieldLink R_WM 184 "WaterMen$Boat" "thereFrom" "I") tw_519) (fun _ h9 => h9) rfl d_WM_craft_59 (fun x_7 e_7 b_7 => ?_)
          have hQ := hQ x_7 e_7
          exact W.iret (v := x_7) hx hb hr (fun t ht hW => ⟨x_7, rfl, ⟨trivial, hQ⟩, ht⟩) t_nil d_WM_craft_62
        · have hQ := hQ.2 c_6
          by_cases c_8 : p_1 = 3
          · have hQ := hQ.1 c_8
            refine lv_tableIn (off := 50) (tgt := 63) hx hb d_WM_craft_13 (by rw [c_8]; decide +kernel) (by rw [c_8]; decide +kernel) (by rw [c_8]; decide +kernel) (by decide) ?_
            refine lv_aload_n hx hb d_WM_craft_63 rfl (lv_at hl 0 rfl) ?_
            refine lv_aload_n hx hb d_WM_craft_64 rfl (lv_at hl 1 rfl) ?_
            refine tw_geti (D := (dC, dI)) (C := R_WM) (T := F_WM) (N := 13) (ci := 0) (kd := 0) (ct := ct) hx hb htb i_WM hown hK hP hO_0 m0 rfl rfl 10 (by decide) (htb (.fieldLink R_WM 155 "WaterMen" "now" "I") tw_40) (fun _ h9 => h9) rfl d_WM_craft_65 (fun x_9 e_9 b_9 => ?_)
            have hQ := hQ x_9 e_9
            refine vp_callSi (va_Run.run (va_runV (As := [.int x_9]) (rest := []) ⟨hx, hb, hml, hown, htb⟩ (c_Bt_stateAt_w l dC dI ct L f hO_0 q_1 m_1 x_9 _ hQ) (cwV 1 htb (gd_V tw_523 tw_524 tw_525 tw_501 tw_522) rfl rfl rfl (by decide +kernel) ⟨Nat.le_of_ble_eq_true rfl, Nat.le_of_ble_eq_true rfl⟩) ⟨pr_blind, tw_recv hK hP m_1 rfl rfl, pr_pre hP hK hN⟩ rfl rfl hl.1 rfl (lv_room (Nat.le_of_ble_eq_true rfl)) d_WM_craft_68 ⟨Nat.le_of_ble_eq_true rfl, Nat.le_of_ble_eq_true rfl⟩)) (fun r_10 er_10 => ?_)
            obtain ⟨er_10, hQ⟩ := er_10
            clear er_10
            refine lv_iconst (v := 1) hx hb d_WM_craft_71 (by decide +kernel) ?_
            refine lv_icmp_ne (tgt := 82) hx hb d_WM_craft_72 (by decide) (fun c_11 => ?_) (fun c_11 => ?_)
            · have hQ := hQ.2 c_11
              refine lv_iconst (v := (-1)) hx hb d_WM_craft_82 (by decide +kernel) ?_
              exact W.iret (v := (-1)) hx hb hr (fun t ht hW => ⟨(-1), rfl, ⟨trivial, hQ⟩, ht⟩) t_nil d_WM_craft_83
            · have hQ := hQ.1 c_11
              refine lv_aload_n hx hb d_WM_craft_75 rfl (lv_at hl 0 rfl) ?_
              refine tw_geti (D := (dC, dI)) (C := R_Bt) (T := F_Bt) (N := 6) (ci := 9) (kd := 24) (ct := ct) hx hb htb i_Bt hown hK hP hO_0 m_1 rfl rfl 3 (by decide) (htb (.fieldLink R_WM 190 "WaterMen$Boat" "rower" "I") tw_526) (fun _ h9 => h9) rfl d_WM_craft_76 (fun x_12 e_12 b_12 => ?_)
              have hQ := hQ x_12 e_12
              refine lv_goto (tgt := 83) hx hb d_WM_craft_79 (by decide) ?_
              exact W.iret (v := x_12) hx hb hr (fun t ht hW => ⟨x_12, rfl, ⟨trivial, hQ⟩, ht⟩) t_nil d_WM_craft_83
          · have hQ := hQ.2 c_8
            by_cases c_13 : p_1 = 4
            · have hQ := hQ.1 c_13
              refine lv_tableIn (off := 71) (tgt := 84) hx hb d_WM_craft_13 (by rw [c_13]; decide +kernel) (by rw [c_13]; decide +kernel) (by rw [c_13]; decide +kernel) (by decide) ?_
              refine lv_aload_n hx hb d_WM_craft_84 rfl (lv_at hl 0 rfl) ?_
              refine lv_aload_n hx hb d_WM_craft_85 rfl (lv_at hl 1 rfl) ?_
              refine tw_geti (D := (dC, dI)) (C := R_WM) (T := F_WM) (N := 13) (ci := 0) (kd := 0) (ct := ct) hx hb htb i_WM hown hK hP hO_0 m0 rfl rfl 10 (by decide) (htb (.fieldLink R_WM 155 "WaterMen" "now" "I") tw_40) (fun _ h9 => h9) rfl d_WM_craft_86 (fun x_14 e_14 b_14 => ?_)
              have hQ := hQ x_14 e_14
              refine vp_callSi (va_Run.run (va_runV (As := [.int x_14]) (rest := []) ⟨hx, hb, hml, hown, htb⟩ (c_Bt_stateAt_w l dC dI ct L f hO_0 q_1 m_1 x_14 _ hQ) (cwV 1 htb (gd_V tw_523 tw_524 tw_525 tw_501 tw_522) rfl rfl rfl (by decide +kernel) ⟨Nat.le_of_ble_eq_true rfl, Nat.le_of_ble_eq_true rfl⟩) ⟨pr_blind, tw_recv hK hP m_1 rfl rfl, pr_pre hP hK hN⟩ rfl rfl hl.1 rfl (lv_room (Nat.le_of_ble_eq_true rfl)) d_WM_craft_89 ⟨Nat.le_of_ble_eq_true rfl, Nat.le_of_ble_eq_true rfl⟩)) (fun r_15 er_15 => ?_)
              obtain ⟨er_15, hQ⟩ := er_15
              clear er_15
              exact W.iret (v := r_15) hx hb hr (fun t ht hW => ⟨r_15, rfl, ⟨trivial, hQ⟩, ht⟩) t_nil d_WM_craft_92
            · have hQ := hQ.2 c_13
              refine lv_tableOut (tgt := 93) hx hb d_WM_craft_13 (by have h0 := lv_neT c_2 (show (0 : Int32).toInt = 0 by decide +kernel); have h1 := lv_neT c_4 (show (1 : Int32).toInt = 1 by decide +kernel); have h2 := lv_neT c_6 (show (2 : Int32).toInt = 2 by decide +kernel); have h3 := lv_neT c_8 (show (3 : Int32).toInt = 3 by decide +kernel); have h4 := lv_neT c_13 (show (4 : Int32).toInt = 4 by decide +kernel); omega) (by decide) ?_
              refine lv_iconst (v := (-1)) hx hb d_WM_craft_93 (by decide +kernel) ?_
              exact W.iret (v := (-1)) hx hb hr (fun t ht hW => ⟨(-1), rfl, ⟨trivial, hQ⟩, ht⟩) t_nil d_WM_craft_94
def wp_Md_isBoat_w (L : List Nat) (f : TF) (q0 : Nat) (p_0 : Int32) (Q : Int32 → Prop) : Prop := ∀ x_1 : Int32, ti f q0 21 = x_1 → ((p_0 < 0 → Q 0) ∧ (¬ (p_0 < 0) → (((x_1 - 1) < p_0 → Q 0) ∧ (¬ ((x_1 - 1) < p_0) → Q 1))))
set_option maxHeartbeats 4000000 in
set_option maxRecDepth 100000 in
theorem c_Md_isBoat_w (l : Launch) (dC : Nat → ClassId) (dI : Nat → Nat → Nat) (ct : Nat → ClassId) (L : List Nat) (f : TF) (hO_0 : Ok L f) (q0 : Nat) (m0 : q0 ∈ L ∧ tk f q0 = 27) (p_0 : Int32)   (Q : Int32 → Prop) (hQ : wp_Md_isBoat_w L f q0 p_0 Q) : Met l y_Md_isBoat (.code y_Md_isBoat b_Md_isBoat 2 (some .boolean) :: TB) ({ frames := 1, cells := 0, slots := 0, locals := 22 }) (va_Pc [.ref q0, .int p_0] (PR dC dI (TW ct L f) (TT ct))) (vp_Si (fun r => ((r = 0 ∧ True) ∨ (r = 1 ∧ ¬ (p_0 < 0) ∧ ¬ (19 < p_0) ∧ True)) ∧ Q r)) 0 0 (fun _ => False) := by
  refine Met.ofW (cc := b_Md_isBoat) (maxL := 2) (ret := (some .boolean)) (by decide) rfl ?_
  intro p e s m args below meth c s₁ B hml hv
  obtain ⟨rfl, hP, hK, hN⟩ := hv
  have hx := B.exec
  have hb := B.bytes
  have hr := B.returns
  have hts := atoms_spec (ws := (.code y_Md_isBoat b_Md_isBoat 2 (some .boolean) :: TB)) B.pre
  have htb := fun w (h : w ∈ TB) => hts w (List.mem_cons_of_mem _ h)
  have hown : s.vm.findClass R_Md = some m.cls := findClass_of_methodNamed B.named
  have hlocks := B.notSynchronized
  have hl := lv_entry ([.ref q0, .int p_0]) (n := 2) (Nat.le_of_ble_eq_true rfl)
  rw [lg_entry_eq]
  generalize (lg_sl ([.ref q0, .int p_0]) ++ List.replicate (2 - (lg_sl ([.ref q0, .int p_0])).length) Slot.unset).toArray = ls at hl ⊢
  have hl : lv_has ls 2 [(0, .ref q0), (1, .int p_0)] := hl
  unfold wp_Md_isBoat_w at hQ
  refine lv_iload_n hx hb d_Md_isBoat_0 rfl (lv_at hl 1 rfl) ?_
  refine lv_iconst (v := 0) hx hb d_Md_isBoat_1 (by decide +kernel) ?_
  refine lv_aload_n hx hb d_Md_isBoat_2 rfl (lv_at hl 0 rfl) ?_
  refine tw_geti (D := (dC, dI)) (C := R_Md) (T := F_Md) (N := 64) (ci := 7) (kd := 27) (ct := ct) hx hb htb i_Md hown hK hP hO_0 m0 rfl rfl 21 (by decide) (htb (.fieldLink R_Md 206 "WaterMenModel" "boats" "I") tw_227) (fun _ h9 => h9) rfl d_Md_isBoat_3 (fun x_1 e_1 b_1 => ?_)
  have hQ := hQ x_1 e_1
  refine lv_iconst (v := 1) hx hb d_Md_isBoat_6 (by decide +kernel) ?_
  refine lv_isub hx hb d_Md_isBoat_7 ?_
  refine vp_callSi (va_Run.run (va_runS (As := [.int p_0, .int 0, .int (x_1 - 1)]) (rest := []) ⟨hx, hb, hml, hown, htb⟩ (c_Md_in l p_0 0 (x_1 - 1)) (cwS 3 htb (gd_S tw_90 tw_91 tw_89 tw_88) rfl rfl rfl (by decide +kernel) ⟨Nat.le_of_ble_eq_true rfl, Nat.le_of_ble_eq_true rfl⟩) ⟨fun _ _ _ _ h => h, fun U _ _ => ⟨rfl, trivial⟩⟩ rfl rfl hl.1 rfl (lv_room (Nat.le_of_ble_eq_true rfl)) d_Md_isBoat_8 ⟨Nat.le_of_ble_eq_true rfl, Nat.le_of_ble_eq_true rfl⟩)) (fun r er => ?_)
  subst er
  by_cases c_3 : p_0 < 0
  · have hQ := hQ.1 c_3
    refine hb_ti 0 (by unfold f_Md_in; rw [if_pos c_3]; first | done | rfl) ?_
    exact W.zret (v := 0) hx hb hr (by decide +kernel) (fun t ht hW => ⟨0, rfl, ⟨(Or.inl ⟨rfl, trivial⟩), hQ⟩, ht⟩) t_nil d_Md_isBoat_11
  · have hQ := hQ.2 c_3
    by_cases c_4 : (x_1 - 1) < p_0
    · have hQ := hQ.1 c_4
      refine hb_ti 0 (by unfold f_Md_in; rw [if_neg c_3, if_pos c_4]; first | done | rfl) ?_
      exact W.zret (v := 0) hx hb hr (by decide +kernel) (fun t ht hW => ⟨0, rfl, ⟨(Or.inl ⟨rfl, trivial⟩), hQ⟩, ht⟩) t_nil d_Md_isBoat_11
    · have hQ := hQ.2 c_4
      refine hb_ti 1 (by unfold f_Md_in; rw [if_neg c_3, if_neg c_4]; first | done | rfl) ?_
      exact W.zret (v := 1) hx hb hr (by decide +kernel) (fun t ht hW => ⟨1, rfl, ⟨(Or.inr ⟨rfl, c_3, (show ¬ (19 < p_0) from ((fun (a_0 : Int32) (a_1 : Int32) (k_0 : ¬ (a_1 < 0)) (k_1 : ¬ (20 < a_1)) (k_2 : ¬ ((a_1 - 1) < a_0)) => (show ¬ (19 < a_0) from by have z0 : (0 : Int32).toInt = 0 := (by decide +kernel); have z1 : (1 : Int32).toInt = 1 := (by decide +kernel); have z2 : (19 : Int32).toInt = 19 := (by decide +kernel); have z3 : (20 : Int32).toInt = 20 := (by decide +kernel); have r0 := fb_rng (a_0); have r1 := fb_rng (a_1); have e0 := k_0; rw [Int32.lt_iff_toInt_lt, z0] at e0; have e1 := k_1; rw [Int32.lt_iff_toInt_lt, z3] at e1; obtain ⟨n_0, hn_0, s0⟩ := nd_sub (x := (a_1)) (y := (1 : Int32)) (by (try rw [z1]); omega) (by (try rw [z1]); omega); rw [z1] at s0; have e2 := k_2; rw [hn_0, Int32.lt_iff_toInt_lt] at e2; rw [Int32.lt_iff_toInt_lt, z2]; omega)) p_0 x_1 b_1.1 b_1.2 c_4)), trivial⟩), hQ⟩, ht⟩) t_nil d_Md_isBoat_11
def wp_Md_craft_w (L : List Nat) (f : TF) (q0 : Nat) (p_0 : Int32) (p_1 : Int32) (Q : Int32 → Prop) : Prop := wp_Md_isBoat_w L f q0 p_0 (fun (r_1 : Int32) => ((r_1 = 0 → Q (-1)) ∧ (r_1 = 1 → ((p_1 = 0 → ∀ q_5 : Nat, tr f q0 23 = some q_5 → ∀ x_6 : Int32, ti f q_5 (p_0 : Int32).toNatClampNeg = x_6 → Q x_6) ∧ (¬ (p_1 = 0) → ((p_1 = 1 → ∀ q_8 : Nat, tr f q0 22 = some q_8 → ∀ x_9 : Int32, ti f q_8 (p_0 : Int32).toNatClampNeg = x_9 → Q x_9) ∧ (¬ (p_1 = 1) → ((p_1 = 2 → ∀ q_11 : Nat, tr f q0 24 = some q_11 → ∀ x_12 : Int32, ti f q_11 (p_0 : Int32).toNatClampNeg = x_12 → Q x_12) ∧ (¬ (p_1 = 2) → ((p_1 = 3 → ∀ q_14 : Nat, tr f q0 25 = some q_14 → ∀ x_15 : Int32, ti f q_14 (p_0 : Int32).toNatClampNeg = x_15 → ((0 ≤ x_15 → ∀ q_17 : Nat, tr f q0 49 = some q_17 → ∀ x_19 : Int32, ti f q_17 (x_15 : Int32).toNatClampNeg = x_19 → Q x_19) ∧ (¬ (0 ≤ x_15) → Q (-1)))) ∧ (¬ (p_1 = 3) → ((p_1 = 4 → ∀ q_21 : Nat, tr f q0 26 = some q_21 → ∀ x_22 : Int32, ti f q_21 (p_0 : Int32).toNatClampNeg = x_22 → ((x_22 = 0 → ∀ q_24 : Nat, tr f q0 25 = some q_24 → ∀ x_25 : Int32, ti f q_24 (p_0 : Int32).toNatClampNeg = x_25 → ((x_25 < 0 → Q 0) ∧ (¬ (x_25 < 0) → Q 1))) ∧ (¬ (x_22 = 0) → Q 2))) ∧ (¬ (p_1 = 4) → Q (-1))))))))))))))
set_option maxHeartbeats 4000000 in
set_option maxRecDepth 100000 in
theorem c_Md_craft_w (l : Launch) (dC : Nat → ClassId) (dI : Nat → Nat → Nat) (ct : Nat → ClassId) (L : List Nat) (f : TF) (hO_0 : Ok L f) (q0 : Nat) (m0 : q0 ∈ L ∧ tk f q0 = 27) (p_0 : Int32) (p_1 : Int32)   (Q : Int32 → Prop) (hQ : wp_Md_craft_w L f q0 p_0 p_1 Q) : Met l y_Md_craft (.code y_Md_craft b_Md_craft 3 (some .int) :: TB) ({ frames := 2, cells := 0, slots := 0, locals := 43 }) (va_Pc [.ref q0, .int p_0, .int p_1] (PR dC dI (TW ct L f) (TT ct))) (vp_Si (fun r => (True) ∧ Q r)) 0 0 (fun _ => False) := by
  refine Met.ofW (cc := b_Md_craft) (maxL := 3) (ret := (some .int)) (by decide) rfl ?_
  intro p e s m args below meth c s₁ B hml hv
  obtain ⟨rfl, hP, hK, hN⟩ := hv
  have hx := B.exec
  have hb := B.bytes
  have hr := B.returns
  have hts := atoms_spec (ws := (.code y_Md_craft b_Md_craft 3 (some .int) :: TB)) B.pre
  have htb := fun w (h : w ∈ TB) => hts w (List.mem_cons_of_mem _ h)
  have hown : s.vm.findClass R_Md = some m.cls := findClass_of_methodNamed B.named
  have hlocks := B.notSynchronized
  have hl := lv_entry ([.ref q0, .int p_0, .int p_1]) (n := 3) (Nat.le_of_ble_eq_true rfl)
  rw [lg_entry_eq]
  generalize (lg_sl ([.ref q0, .int p_0, .int p_1]) ++ List.replicate (3 - (lg_sl ([.ref q0, .int p_0, .int p_1])).length) Slot.unset).toArray = ls at hl ⊢
  have hl : lv_has ls 3 [(0, .ref q0), (1, .int p_0), (2, .int p_1)] := hl
  unfold wp_Md_craft_w at hQ
  refine lv_aload_n hx hb d_Md_craft_0 rfl (lv_at hl 0 rfl) ?_
  refine lv_iload_n hx hb d_Md_craft_1 rfl (lv_at hl 1 rfl) ?_
  refine vp_callSi (va_Run.run (va_runV (As := [.int p_0]) (rest := []) ⟨hx, hb, hml, hown, htb⟩ (c_Md_isBoat_w l dC dI ct L f hO_0 q0 m0 p_0 _ hQ) (cwV 1 htb (gd_V tw_528 tw_529 tw_530 tw_89 tw_527) rfl rfl rfl (by decide +kernel) ⟨Nat.le_of_ble_eq_true rfl, Nat.le_of_ble_eq_true rfl⟩) ⟨pr_blind, tw_recv hK hP m0 rfl rfl, pr_pre hP hK hN⟩ rfl rfl hl.1 rfl (lv_room (Nat.le_of_ble_eq_true rfl)) d_Md_craft_2 ⟨Nat.le_of_ble_eq_true rfl, Nat.le_of_ble_eq_true rfl⟩)) (fun r_1 er_1 => ?_)
  obtain ⟨er_1, hQ⟩ := er_1
  rcases er_1 with ⟨rfl, -⟩ | ⟨rfl, po_2, po_3, -⟩
  · have hQ := hQ.1 rfl
    refine lv_if_ne (tgt := 10) hx hb d_Md_craft_5 (by decide) (fun h => absurd (by decide +kernel) h) (fun _ => ?_)
    refine lv_iconst (v := (-1)) hx hb d_Md_craft_8 (by decide +kernel) ?_
    exact W.iret (v := (-1)) hx hb hr (fun t ht hW => ⟨(-1), rfl, ⟨trivial, hQ⟩, ht⟩) t_nil d_Md_craft_9
  · have hQ := hQ.2 rfl
    refine lv_if_ne (tgt := 10) hx hb d_Md_craft_5 (by decide) (fun _ => ?_) (fun h => absurd h (by decide +kernel))
    refine lv_iload_n hx hb d_Md_craft_10 rfl (lv_at hl 2 rfl) ?_
    by_cases c_4 : p_1 = 0
    · have hQ := hQ.1 c_4
      refine lv_tableIn (off := 33) (tgt := 44) hx hb d_Md_craft_11 (by rw [c_4]; decide +kernel) (by rw [c_4]; decide +kernel) (by rw [c_4]; decide +kernel) (by decide) ?_
      refine lv_aload_n hx hb d_Md_craft_44 rfl (lv_at hl 0 rfl) ?_
      refine tw_getr (D := (dC, dI)) (C := R_Md) (T := F_Md) (N := 64) (ci := 7) (kd := 27) (ct := ct) hx hb htb i_Md hown hK hP hO_0 m0 rfl rfl 23 (by decide) (htb (.fieldLink R_Md 97 "WaterMenModel" "boatAt" "[I") tw_511) (fun _ h9 => h9) rfl d_Md_craft_45 (fun q_5 e_5 m_5 => ?_)
      have hQ := hQ q_5 e_5
      refine lv_iload_n hx hb d_Md_craft_48 rfl (lv_at hl 1 rfl) ?_
      refine tw_aldI (ct := ct) hx hb hK hP hO_0 m_5 rfl (hb_inl po_2 po_3 (by decide +kernel)) d_Md_craft_49 (fun x_6 e_6 b_6 => ?_)
      have hQ := hQ x_6 e_6
      exact W.iret (v := x_6) hx hb hr (fun t ht hW => ⟨x_6, rfl, ⟨trivial, hQ⟩, ht⟩) t_nil d_Md_craft_50
    · have hQ := hQ.2 c_4
      by_cases c_7 : p_1 = 1
      · have hQ := hQ.1 c_7
        refine lv_tableIn (off := 40) (tgt := 51) hx hb d_Md_craft_11 (by rw [c_7]; decide +kernel) (by rw [c_7]; decide +kernel) (by rw [c_7]; decide +kernel) (by decide) ?_
        refine lv_aload_n hx hb d_Md_craft_51 rfl (lv_at hl 0 rfl) ?_
        refine tw_getr (D := (dC, dI)) (C := R_Md) (T := F_Md) (N := 64) (ci := 7) (kd := 27) (ct := ct) hx hb htb i_Md hown hK hP hO_0 m0 rfl rfl 22 (by decide) (htb (.fieldLink R_Md 94 "WaterMenModel" "boatOars" "[I") tw_510) (fun _ h9 => h9) rfl d_Md_craft_52 (fun q_8 e_8 m_8 => ?_)
        have hQ := hQ q_8 e_8
        refine lv_iload_n hx hb d_Md_craft_55 rfl (lv_at hl 1 rfl) ?_
        refine tw_aldI (ct := ct) hx hb hK hP hO_0 m_8 rfl (hb_inl po_2 po_3 (by decide +kernel)) d_Md_craft_56 (fun x_9 e_9 b_9 => ?_)
        have hQ := hQ x_9 e_9
        exact W.iret (v := x_9) hx hb hr (fun t ht hW => ⟨x_9, rfl, ⟨trivial, hQ⟩, ht⟩) t_nil d_Md_craft_57
      · have hQ := hQ.2 c_7
        by_cases c_10 : p_1 = 2
        · have hQ := hQ.1 c_10
          refine lv_tableIn (off := 47) (tgt := 58) hx hb d_Md_craft_11 (by rw [c_10]; decide +kernel) (by rw [c_10]; decide +kernel) (by rw [c_10]; decide +kernel) (by decide) ?_
          refine lv_aload_n hx hb d_Md_craft_58 rfl (lv_at hl 0 rfl) ?_
          refine tw_getr (D := (dC, dI)) (C := R_Md) (T := F_Md) (N := 64) (ci := 7) (kd := 27) (ct := ct) hx hb htb i_Md hown hK hP hO_0 m0 rfl rfl 24 (by decide) (htb (.fieldLink R_Md 100 "WaterMenModel" "boatFrom" "[I") tw_512) (fun _ h9 => h9) rfl d_Md_craft_59 (fun q_11 e_11 m_11 => ?_)
          have hQ := hQ q_11 e_11
          refine lv_iload_n hx hb d_Md_craft_62 rfl (lv_at hl 1 rfl) ?_
          refine tw_aldI (ct := ct) hx hb hK hP hO_0 m_11 rfl (hb_inl po_2 po_3 (by decide +kernel)) d_Md_craft_63 (fun x_12 e_12 b_12 => ?_)
          have hQ := hQ x_12 e_12
          exact W.iret (v := x_12) hx hb hr (fun t ht hW => ⟨x_12, rfl, ⟨trivial, hQ⟩, ht⟩) t_nil d_Md_craft_64
        · have hQ := hQ.2 c_10
          by_cases c_13 : p_1 = 3
          · have hQ := hQ.1 c_13
            refine lv_tableIn (off := 54) (tgt := 65) hx hb d_Md_craft_11 (by rw [c_13]; decide +kernel) (by rw [c_13]; decide +kernel) (by rw [c_13]; decide +kernel) (by decide) ?_
            refine lv_aload_n hx hb d_Md_craft_65 rfl (lv_at hl 0 rfl) ?_
            refine tw_getr (D := (dC, dI)) (C := R_Md) (T := F_Md) (N := 64) (ci := 7) (kd := 27) (ct := ct) hx hb htb i_Md hown hK hP hO_0 m0 rfl rfl 25 (by decide) (htb (.fieldLink R_Md 103 "WaterMenModel" "boatTrip" "[I") tw_228) (fun _ h9 => h9) rfl d_Md_craft_66 (fun q_14 e_14 m_14 => ?_)
            have hQ := hQ q_14 e_14
            refine lv_iload_n hx hb d_Md_craft_69 rfl (lv_at hl 1 rfl) ?_
            refine tw_aldI (ct := ct) hx hb hK hP hO_0 m_14 rfl (hb_inl po_2 po_3 (by decide +kernel)) d_Md_craft_70 (fun x_15 e_15 b_15 => ?_)
            have hQ := hQ x_15 e_15
            refine lv_if_ge (tgt := 78) hx hb d_Md_craft_71 (by decide) (fun c_16 => ?_) (fun c_16 => ?_)
            · have hQ := hQ.1 c_16
              refine lv_aload_n hx hb d_Md_craft_78 rfl (lv_at hl 0 rfl) ?_
              refine tw_getr (D := (dC, dI)) (C := R_Md) (T := F_Md) (N := 64) (ci := 7) (kd := 27) (ct := ct) hx hb htb i_Md hown hK hP hO_0 m0 rfl rfl 49 (by decide) (htb (.fieldLink R_Md 152 "WaterMenModel" "tripMan" "[I") tw_230) (fun _ h9 => h9) rfl d_Md_craft_79 (fun q_17 e_17 m_17 => ?_)
              have hQ := hQ q_17 e_17
              refine lv_aload_n hx hb d_Md_craft_82 rfl (lv_at hl 0 rfl) ?_
              refine tw_getR (D := (dC, dI)) (C := R_Md) (T := F_Md) (N := 64) (ci := 7) (kd := 27) (ct := ct) hx hb htb i_Md hown hK hP m0 rfl rfl 25 e_14 (by decide) (htb (.fieldLink R_Md 103 "WaterMenModel" "boatTrip" "[I") tw_228) (fun _ h9 => h9) rfl d_Md_craft_83 ?_
              refine hb_tv (.ref q_14) rfl ?_
              refine lv_iload_n hx hb d_Md_craft_86 rfl (lv_at hl 1 rfl) ?_
              refine tw_aldxI (ct := ct) (x := x_15) hx hb hK hP m_14 rfl (hb_inl po_2 po_3 (by decide +kernel)) e_15 d_Md_craft_87 ?_
              refine tw_aldI (ct := ct) hx hb hK hP hO_0 m_17 rfl ((fun (a_0 : Int32) (k_0 : ¬ (599 < a_0)) (k_1 : 0 ≤ a_0) => (show vp_in (a_0) 600 from by have z0 : (0 : Int32).toInt = 0 := (by decide +kernel); have z1 : (599 : Int32).toInt = 599 := (by decide +kernel); have r0 := fb_rng (a_0); have e0 := k_0; rw [Int32.lt_iff_toInt_lt, z1] at e0; have e1 := k_1; rw [Int32.le_iff_toInt_le, z0] at e1; rw [vp_in_iff]; omega)) x_15 b_15.2 c_16) d_Md_craft_88 (fun x_19 e_19 b_19 => ?_)
              have hQ := hQ x_19 e_19
              exact W.iret (v := x_19) hx hb hr (fun t ht hW => ⟨x_19, rfl, ⟨trivial, hQ⟩, ht⟩) t_nil d_Md_craft_89
            · have hQ := hQ.2 c_16
              refine lv_iconst (v := (-1)) hx hb d_Md_craft_74 (by decide +kernel) ?_
              refine lv_goto (tgt := 89) hx hb d_Md_craft_75 (by decide) ?_
              exact W.iret (v := (-1)) hx hb hr (fun t ht hW => ⟨(-1), rfl, ⟨trivial, hQ⟩, ht⟩) t_nil d_Md_craft_89
          · have hQ := hQ.2 c_13
            by_cases c_20 : p_1 = 4
            · have hQ := hQ.1 c_20
              refine lv_tableIn (off := 79) (tgt := 90) hx hb d_Md_craft_11 (by rw [c_20]; decide +kernel) (by rw [c_20]; decide +kernel) (by rw [c_20]; decide +kernel) (by decide) ?_
              refine lv_aload_n hx hb d_Md_craft_90 rfl (lv_at hl 0 rfl) ?_
              refine tw_getr (D := (dC, dI)) (C := R_Md) (T := F_Md) (N := 64) (ci := 7) (kd := 27) (ct := ct) hx hb htb i_Md hown hK hP hO_0 m0 rfl rfl 26 (by decide) (htb (.fieldLink R_Md 106 "WaterMenModel" "sunk" "[Z") tw_531) (fun _ h9 => h9) rfl d_Md_craft_91 (fun q_21 e_21 m_21 => ?_)
              have hQ := hQ q_21 e_21
              refine lv_iload_n hx hb d_Md_craft_94 rfl (lv_at hl 1 rfl) ?_
              refine tw_aldZ (ct := ct) hx hb hK hP hO_0 m_21 rfl (hb_inl po_2 po_3 (by decide +kernel)) d_Md_craft_95 (fun x_22 e_22 b_22 => ?_)
              have hQ := hQ x_22 e_22
              refine lv_if_eq (tgt := 103) hx hb d_Md_craft_96 (by decide) (fun c_23 => ?_) (fun c_23 => ?_)
              · have hQ := hQ.1 c_23
                refine lv_aload_n hx hb d_Md_craft_103 rfl (lv_at hl 0 rfl) ?_
                refine tw_getr (D := (dC, dI)) (C := R_Md) (T := F_Md) (N := 64) (ci := 7) (kd := 27) (ct := ct) hx hb htb i_Md hown hK hP hO_0 m0 rfl rfl 25 (by decide) (htb (.fieldLink R_Md 103 "WaterMenModel" "boatTrip" "[I") tw_228) (fun _ h9 => h9) rfl d_Md_craft_104 (fun q_24 e_24 m_24 => ?_)
                have hQ := hQ q_24 e_24
                refine lv_iload_n hx hb d_Md_craft_107 rfl (lv_at hl 1 rfl) ?_
                refine tw_aldI (ct := ct) hx hb hK hP hO_0 m_24 rfl (hb_inl po_2 po_3 (by decide +kernel)) d_Md_craft_108 (fun x_25 e_25 b_25 => ?_)
                have hQ := hQ x_25 e_25
                refine lv_if_lt (tgt := 116) hx hb d_Md_craft_109 (by decide) (fun c_26 => ?_) (fun c_26 => ?_)
                · have hQ := hQ.1 c_26
                  refine lv_iconst (v := 0) hx hb d_Md_craft_116 (by decide +kernel) ?_
                  exact W.iret (v := 0) hx hb hr (fun t ht hW => ⟨0, rfl, ⟨trivial, hQ⟩, ht⟩) t_nil d_Md_craft_117
                · have hQ := hQ.2 c_26
                  refine lv_iconst (v := 1) hx hb d_Md_craft_112 (by decide +kernel) ?_
                  refine lv_goto (tgt := 117) hx hb d_Md_craft_113 (by decide) ?_
                  exact W.iret (v := 1) hx hb hr (fun t ht hW => ⟨1, rfl, ⟨trivial, hQ⟩, ht⟩) t_nil d_Md_craft_117
              · have hQ := hQ.2 c_23
                refine lv_iconst (v := 2) hx hb d_Md_craft_99 (by decide +kernel) ?_
                refine lv_goto (tgt := 117) hx hb d_Md_craft_100 (by decide) ?_
                exact W.iret (v := 2) hx hb hr (fun t ht hW => ⟨2, rfl, ⟨trivial, hQ⟩, ht⟩) t_nil d_Md_craft_117
            · have hQ := hQ.2 c_20
              refine lv_tableOut (tgt := 118) hx hb d_Md_craft_11 (by have h0 := lv_neT c_4 (show (0 : Int32).toInt = 0 by decide +kernel); have h1 := lv_neT c_7 (show (1 : Int32).toInt = 1 by decide +kernel); have h2 := lv_neT c_10 (show (2 : Int32).toInt = 2 by decide +kernel); have h3 := lv_neT c_13 (show (3 : Int32).toInt = 3 by decide +kernel); have h4 := lv_neT c_20 (show (4 : Int32).toInt = 4 by decide +kernel); omega) (by decide) ?_
              refine lv_iconst (v := (-1)) hx hb d_Md_craft_118 (by decide +kernel) ?_
              exact W.iret (v := (-1)) hx hb hr (fun t ht hW => ⟨(-1), rfl, ⟨trivial, hQ⟩, ht⟩) t_nil d_Md_craft_119
def wp_Mn_isOnWay_w (L : List Nat) (f : TF) (q0 : Nat) (p_0 : Int32) (Q : Int32 → Prop) : Prop := ∀ x_1 : Int32, ti f q0 5 = x_1 → ((x_1 ≤ p_0 → Q 0) ∧ (¬ (x_1 ≤ p_0) → Q 1))
set_option maxHeartbeats 4000000 in
set_option maxRecDepth 100000 in
theorem c_Mn_isOnWay_w (l : Launch) (dC : Nat → ClassId) (dI : Nat → Nat → Nat) (ct : Nat → ClassId) (L : List Nat) (f : TF) (hO_0 : Ok L f) (q0 : Nat) (m0 : q0 ∈ L ∧ tk f q0 = 20) (p_0 : Int32)   (Q : Int32 → Prop) (hQ : wp_Mn_isOnWay_w L f q0 p_0 Q) : Met l y_Mn_isOnWay (.code y_Mn_isOnWay b_Mn_isOnWay 2 (some .boolean) :: TB) ({ frames := 0, cells := 0, slots := 0, locals := 0 }) (va_Pc [.ref q0, .int p_0] (PR dC dI (TW ct L f) (TT ct))) (vp_Si (fun r => ((r = 0 ∧ True) ∨ (r = 1 ∧ True)) ∧ Q r)) 0 0 (fun _ => False) := by
  refine Met.ofW (cc := b_Mn_isOnWay) (maxL := 2) (ret := (some .boolean)) (by decide) rfl ?_
  intro p e s m args below meth c s₁ B hml hv
  obtain ⟨rfl, hP, hK, hN⟩ := hv
  have hx := B.exec
  have hb := B.bytes
  have hr := B.returns
  have hts := atoms_spec (ws := (.code y_Mn_isOnWay b_Mn_isOnWay 2 (some .boolean) :: TB)) B.pre
  have htb := fun w (h : w ∈ TB) => hts w (List.mem_cons_of_mem _ h)
  have hown : s.vm.findClass R_Mn = some m.cls := findClass_of_methodNamed B.named
  have hlocks := B.notSynchronized
  have hl := lv_entry ([.ref q0, .int p_0]) (n := 2) (Nat.le_of_ble_eq_true rfl)
  rw [lg_entry_eq]
  generalize (lg_sl ([.ref q0, .int p_0]) ++ List.replicate (2 - (lg_sl ([.ref q0, .int p_0])).length) Slot.unset).toArray = ls at hl ⊢
  have hl : lv_has ls 2 [(0, .ref q0), (1, .int p_0)] := hl
  unfold wp_Mn_isOnWay_w at hQ
  refine lv_iload_n hx hb d_Mn_isOnWay_0 rfl (lv_at hl 1 rfl) ?_
  refine lv_aload_n hx hb d_Mn_isOnWay_1 rfl (lv_at hl 0 rfl) ?_
  refine tw_geti (D := (dC, dI)) (C := R_Mn) (T := F_Mn) (N := 8) (ci := 2) (kd := 20) (ct := ct) hx hb htb i_Mn hown hK hP hO_0 m0 rfl rfl 5 (by decide) (htb (.fieldLink R_Mn 21 "WaterMen$Man" "busyUntil" "I") tw_41) (fun _ h9 => h9) rfl d_Mn_isOnWay_2 (fun x_1 e_1 b_1 => ?_)
  have hQ := hQ x_1 e_1
  refine lv_icmp_ge (tgt := 12) hx hb d_Mn_isOnWay_5 (by decide) (fun c_2 => ?_) (fun c_2 => ?_)
  · have hQ := hQ.1 c_2
    refine lv_iconst (v := 0) hx hb d_Mn_isOnWay_12 (by decide +kernel) ?_
    exact W.zret (v := 0) hx hb hr (by decide +kernel) (fun t ht hW => ⟨0, rfl, ⟨(Or.inl ⟨rfl, trivial⟩), hQ⟩, ht⟩) t_nil d_Mn_isOnWay_13
  · have hQ := hQ.2 c_2
    refine lv_iconst (v := 1) hx hb d_Mn_isOnWay_8 (by decide +kernel) ?_
    refine lv_goto (tgt := 13) hx hb d_Mn_isOnWay_9 (by decide) ?_
    exact W.zret (v := 1) hx hb hr (by decide +kernel) (fun t ht hW => ⟨1, rfl, ⟨(Or.inr ⟨rfl, trivial⟩), hQ⟩, ht⟩) t_nil d_Mn_isOnWay_13
def wpB_WM_placeInTurns_w_14_3 (L : List Nat) (f : TF) (q0 : Nat) (pq_0 : Nat) (x_1 : Int32) (Q : Int32 → Prop) (rec_3 : Int32 → Int32 → Prop) (v2_3 : Int32) (v3_3 : Int32) : Prop := ((40 ≤ v3_3 → Q v2_3) ∧ (¬ (40 ≤ v3_3) → ∀ q_5 : Nat, tr f q0 1 = some q_5 → ((tr f q_5 (v3_3 : Int32).toNatClampNeg = none → rec_3 v2_3 (v3_3 + 1)) ∧ (∀ q_6 : Nat, tr f q_5 (v3_3 : Int32).toNatClampNeg = some q_6 → ∀ x_7 : Int32, ti f q_6 2 = x_7 → ((x_7 = x_1 → ∀ x_9 : Int32, ti f q_6 3 = x_9 → ∀ x_10 : Int32, ti f pq_0 3 = x_10 → ((x_10 ≤ x_9 → rec_3 v2_3 (v3_3 + 1)) ∧ (¬ (x_10 ≤ x_9) → rec_3 (v2_3 + 1) (v3_3 + 1)))) ∧ (¬ (x_7 = x_1) → rec_3 v2_3 (v3_3 + 1)))))))
def wpL_WM_placeInTurns_w_14_3 (L : List Nat) (f : TF) (q0 : Nat) (pq_0 : Nat) (x_1 : Int32) (Q : Int32 → Prop) : Nat → Int32 → Int32 → Prop
  | 0 => fun v2_3 v3_3 => wpB_WM_placeInTurns_w_14_3 L f q0 pq_0 x_1 Q (fun _ _ => True) v2_3 v3_3
  | n + 1 => fun v2_3 v3_3 => wpB_WM_placeInTurns_w_14_3 L f q0 pq_0 x_1 Q (wpL_WM_placeInTurns_w_14_3 L f q0 pq_0 x_1 Q n) v2_3 v3_3
def wpR_WM_placeInTurns_w_14_3 (L : List Nat) (f : TF) (q0 : Nat) (pq_0 : Nat) (x_1 : Int32) (Q : Int32 → Prop) : Nat → Int32 → Int32 → Prop
  | 0 => fun _ _ => True
  | n + 1 => wpL_WM_placeInTurns_w_14_3 L f q0 pq_0 x_1 Q n
theorem wpL_WM_placeInTurns_w_14_3_eq {L : List Nat} {f : TF} {q0 : Nat} {pq_0 : Nat} {x_1 : Int32} {Q : Int32 → Prop} {n : Nat} : wpL_WM_placeInTurns_w_14_3 L f q0 pq_0 x_1 Q n = wpB_WM_placeInTurns_w_14_3 L f q0 pq_0 x_1 Q (wpR_WM_placeInTurns_w_14_3 L f q0 pq_0 x_1 Q n) := by cases n <;> rfl
theorem wpR_WM_placeInTurns_w_14_3_pos {L : List Nat} {f : TF} {q0 : Nat} {pq_0 : Nat} {x_1 : Int32} {Q : Int32 → Prop} {n : Nat} (h : 0 < n) : wpR_WM_placeInTurns_w_14_3 L f q0 pq_0 x_1 Q n = wpL_WM_placeInTurns_w_14_3 L f q0 pq_0 x_1 Q (n - 1) := by
  cases n with
  | zero => omega
  | succ n => rfl
def wp_WM_placeInTurns_w (L : List Nat) (f : TF) (q0 : Nat) (pq_0 : Nat) (Q : Int32 → Prop) : Prop := ∀ x_1 : Int32, ti f pq_0 2 = x_1 → ((x_1 = (-1) → Q (-1)) ∧ (¬ (x_1 = (-1)) → wpL_WM_placeInTurns_w_14_3 L f q0 pq_0 x_1 Q (((40 : Int32).toInt - (0 : Int32).toInt).toNat) (0 : Int32) (0 : Int32)))
set_option maxHeartbeats 4000000 in
set_option maxRecDepth 100000 in
theorem c_WM_placeInTurns_w (l : Launch) (dC : Nat → ClassId) (dI : Nat → Nat → Nat) (ct : Nat → ClassId) (L : List Nat) (f : TF) (hO_0 : Ok L f) (q0 : Nat) (m0 : q0 ∈ L ∧ tk f q0 = 0) (pq_0 : Nat) (pm_0 : pq_0 ∈ L ∧ tk f pq_0 = 20)    (Q : Int32 → Prop) (hQ : wp_WM_placeInTurns_w L f q0 pq_0 Q) : Met l y_WM_placeInTurns (.code y_WM_placeInTurns b_WM_placeInTurns 5 (some .int) :: TB) ({ frames := 0, cells := 0, slots := 0, locals := 0 }) (va_Pc [.ref q0, .ref pq_0] (PR dC dI (TW ct L f) (TT ct))) (vp_Si (fun r => (True) ∧ Q r)) 0 0 (fun _ => False) := by
  refine Met.ofW (cc := b_WM_placeInTurns) (maxL := 5) (ret := (some .int)) (by decide) rfl ?_
  intro p e s m args below meth c s₁ B hml hv
  obtain ⟨rfl, hP, hK, hN⟩ := hv
  have hx := B.exec
  have hb := B.bytes
  have hr := B.returns
  have hts := atoms_spec (ws := (.code y_WM_placeInTurns b_WM_placeInTurns 5 (some .int) :: TB)) B.pre
  have htb := fun w (h : w ∈ TB) => hts w (List.mem_cons_of_mem _ h)
  have hown : s.vm.findClass R_WM = some m.cls := findClass_of_methodNamed B.named
  have hlocks := B.notSynchronized
  have hl := lv_entry ([.ref q0, .ref pq_0]) (n := 5) (Nat.le_of_ble_eq_true rfl)
  rw [lg_entry_eq]
  generalize (lg_sl ([.ref q0, .ref pq_0]) ++ List.replicate (5 - (lg_sl ([.ref q0, .ref pq_0])).length) Slot.unset).toArray = ls at hl ⊢
  have hl : lv_has ls 5 [(0, .ref q0), (1, .ref pq_0)] := hl
  unfold wp_WM_placeInTurns_w at hQ
  refine lv_aload_n hx hb d_WM_placeInTurns_0 rfl (lv_at hl 1 rfl) ?_
  refine tw_geti (D := (dC, dI)) (C := R_Mn) (T := F_Mn) (N := 8) (ci := 2) (kd := 20) (ct := ct) hx hb htb i_Mn hown hK hP hO_0 pm_0 rfl rfl 2 (by decide) (htb (.fieldLink R_WM 145 "WaterMen$Man" "turnStairs" "I") tw_33) (fun _ h9 => h9) rfl d_WM_placeInTurns_1 (fun x_1 e_1 b_1 => ?_)
  have hQ := hQ x_1 e_1
  refine lv_iconst (v := (-1)) hx hb d_WM_placeInTurns_4 (by decide +kernel) ?_
  refine lv_icmp_ne (tgt := 10) hx hb d_WM_placeInTurns_5 (by decide) (fun c_2 => ?_) (fun c_2 => ?_)
  · have hQ := hQ.2 c_2
    refine lv_iconst (v := 0) hx hb d_WM_placeInTurns_10 (by decide +kernel) ?_
    refine lv_istore_n (lv' := [(2, .int 0), (0, .ref q0), (1, .ref pq_0)]) hx hb d_WM_placeInTurns_11 rfl hl (by decide) rfl (fun ls hl => ?_)
    refine lv_iconst (v := 0) hx hb d_WM_placeInTurns_12 (by decide +kernel) ?_
    refine lv_istore_n (lv' := [(3, .int 0), (2, .int 0), (0, .ref q0), (1, .ref pq_0)]) hx hb d_WM_placeInTurns_13 rfl hl (by decide) rfl (fun ls hl => ?_)
    have cut_3 : ∀ (n_3 : Nat) (v2_3 v3_3 : Int32) (ls : Array Slot), ¬ (v3_3 < 0) → ¬ (40 < v3_3) → (40 : Int32).toInt - (v3_3 : Int32).toInt ≤ (n_3 : Int) → wpL_WM_placeInTurns_w_14_3 L f q0 pq_0 x_1 Q n_3 v2_3 v3_3 → lv_has ls 5 [(0, .ref q0), (1, .ref pq_0), (2, .int v2_3), (3, .int v3_3)] → W p l e (headSpec (.code y_WM_placeInTurns b_WM_placeInTurns 5 (some .int) :: TB) ({ frames := 0, cells := 0, slots := 0, locals := 0 })).room s m [.ref q0, .ref pq_0].toArray below meth c s.heap [] 0 0 (MQ below (vp_Si (fun r => (True) ∧ Q r)) [.ref q0, .ref pq_0].toArray s 0 0 (fun _ => False)) (F0 m 14 ls []) := by
      intro n_3
      induction n_3 using Nat.strongRecOn with
      | _ n_3 ih_3 =>
        intro v2_3 v3_3 ls iv0_3 iv1_3 hm_3 hQ hl
        rw [wpL_WM_placeInTurns_w_14_3_eq] at hQ
        obtain ⟨rec_3, hrec_3⟩ : ∃ g, wpR_WM_placeInTurns_w_14_3 L f q0 pq_0 x_1 Q n_3 = g := ⟨_, rfl⟩
        rw [hrec_3] at hQ
        unfold wpB_WM_placeInTurns_w_14_3 at hQ
        refine lv_iload_n hx hb d_WM_placeInTurns_14 rfl (lv_at hl 3 rfl) ?_
        refine lv_bipush (v := 40) hx hb d_WM_placeInTurns_15 (by decide +kernel) ?_
        refine lv_icmp_ge (tgt := 66) hx hb d_WM_placeInTurns_17 (by decide) (fun c_4 => ?_) (fun c_4 => ?_)
        · have hQ := hQ.1 c_4
          refine lv_iload_n hx hb d_WM_placeInTurns_66 rfl (lv_at hl 2 rfl) ?_
          exact W.iret (v := v2_3) hx hb hr (fun t ht hW => ⟨v2_3, rfl, ⟨trivial, hQ⟩, ht⟩) t_nil d_WM_placeInTurns_67
        · have hQ := hQ.2 c_4
          refine lv_aload_n hx hb d_WM_placeInTurns_20 rfl (lv_at hl 0 rfl) ?_
          refine tw_getr (D := (dC, dI)) (C := R_WM) (T := F_WM) (N := 13) (ci := 0) (kd := 0) (ct := ct) hx hb htb i_WM hown hK hP hO_0 m0 rfl rfl 1 (by decide) (htb (.fieldLink R_WM 18 "WaterMen" "men" "[LWaterMen$Man;") tw_24) (fun _ h9 => h9) rfl d_WM_placeInTurns_21 (fun q_5 e_5 m_5 => ?_)
          have hQ := hQ q_5 e_5
          refine lv_iload_n hx hb d_WM_placeInTurns_24 rfl (lv_at hl 3 rfl) ?_
          refine tw_aldq (ct := ct) hx hb hK hP hO_0 m_5 rfl rfl (hb_in iv0_3 c_4 (by decide +kernel)) d_WM_placeInTurns_25 (fun e_6 => ?_) (fun q_6 e_6 m_6 => ?_)
          · have hQ := hQ.1 e_6
            refine lv_astoreN (lv' := [(4, .null), (0, .ref q0), (1, .ref pq_0), (2, .int v2_3), (3, .int v3_3)]) hx hb d_WM_placeInTurns_26 hl (by decide) rfl (fun ls hl => ?_)
            refine lv_aloadN hx hb d_WM_placeInTurns_28 (lv_at hl 0 rfl) ?_
            refine lv_ifnullN (tgt := 60) hx hb d_WM_placeInTurns_30 (by decide) ?_
            refine lv_iinc (v := (v3_3 + 1)) (lv' := [(3, .int (v3_3 + 1)), (4, .null), (0, .ref q0), (1, .ref pq_0), (2, .int v2_3)]) hx hb d_WM_placeInTurns_60 hl (k := 4) rfl rfl (by decide) rfl (fun ls hl => ?_)
            refine lv_goto (tgt := 14) hx hb d_WM_placeInTurns_63 (by decide) ?_
            exact ih_3 (n_3 - 1) (ms_1 ((fun (a_0 : Int32) (k_0 : ¬ (40 ≤ a_0)) => (show 1 ≤ (40 : Int32).toInt - (a_0).toInt ∧ (40 : Int32).toInt - ((a_0) + (1 : Int32)).toInt + 1 ≤ (40 : Int32).toInt - (a_0).toInt from by have z0 : (1 : Int32).toInt = 1 := (by decide +kernel); have z1 : (40 : Int32).toInt = 40 := (by decide +kernel); have r0 := fb_rng (a_0); have e0 := k_0; rw [Int32.le_iff_toInt_le, z1] at e0; obtain ⟨n_0, hn_0, s0⟩ := nd_add (x := (a_0)) (y := (1 : Int32)) (by (try rw [z0]); omega) (by (try rw [z0]); omega); rw [z0] at s0; rw [hn_0]; (try rw [z1]); omega)) v3_3 c_4) hm_3) v2_3 (v3_3 + 1) _ (show ¬ ((v3_3 + 1) < 0) from by have e0 := iv0_3; rw [Int32.lt_iff_toInt_lt] at e0; have e1 := c_4; rw [Int32.le_iff_toInt_le] at e1; have z0 : (0 : Int32).toInt = 0 := (by decide +kernel); have z1 : (1 : Int32).toInt = 1 := (by decide +kernel); have z2 : (40 : Int32).toInt = 40 := (by decide +kernel); have ss := fb_addI (x := v3_3) (y := 1) (by omega) (by omega); rw [Int32.lt_iff_toInt_lt]; omega) (show ¬ (40 < (v3_3 + 1)) from by have e0 := iv0_3; rw [Int32.lt_iff_toInt_lt] at e0; have e1 := c_4; rw [Int32.le_iff_toInt_le] at e1; have z0 : (0 : Int32).toInt = 0 := (by decide +kernel); have z1 : (1 : Int32).toInt = 1 := (by decide +kernel); have z2 : (40 : Int32).toInt = 40 := (by decide +kernel); have ss := fb_addI (x := v3_3) (y := 1) (by omega) (by omega); rw [Int32.lt_iff_toInt_lt]; omega) (by exact ms_2 ((fun (a_0 : Int32) (k_0 : ¬ (40 ≤ a_0)) => (show 1 ≤ (40 : Int32).toInt - (a_0).toInt ∧ (40 : Int32).toInt - ((a_0) + (1 : Int32)).toInt + 1 ≤ (40 : Int32).toInt - (a_0).toInt from by have z0 : (1 : Int32).toInt = 1 := (by decide +kernel); have z1 : (40 : Int32).toInt = 40 := (by decide +kernel); have r0 := fb_rng (a_0); have e0 := k_0; rw [Int32.le_iff_toInt_le, z1] at e0; obtain ⟨n_0, hn_0, s0⟩ := nd_add (x := (a_0)) (y := (1 : Int32)) (by (try rw [z0]); omega) (by (try rw [z0]); omega); rw [z0] at s0; rw [hn_0]; (try rw [z1]); omega)) v3_3 c_4) hm_3) (by rw [← hrec_3, wpR_WM_placeInTurns_w_14_3_pos (ms_3 ((fun (a_0 : Int32) (k_0 : ¬ (40 ≤ a_0)) => (show 1 ≤ (40 : Int32).toInt - (a_0).toInt ∧ (40 : Int32).toInt - ((a_0) + (1 : Int32)).toInt + 1 ≤ (40 : Int32).toInt - (a_0).toInt from by have z0 : (1 : Int32).toInt = 1 := (by decide +kernel); have z1 : (40 : Int32).toInt = 40 := (by decide +kernel); have r0 := fb_rng (a_0); have e0 := k_0; rw [Int32.le_iff_toInt_le, z1] at e0; obtain ⟨n_0, hn_0, s0⟩ := nd_add (x := (a_0)) (y := (1 : Int32)) (by (try rw [z0]); omega) (by (try rw [z0]); omega); rw [z0] at s0; rw [hn_0]; (try rw [z1]); omega)) v3_3 c_4) hm_3)] at hQ; exact hQ) (lv_sub hl [2, 3, 4, 0] rfl)
          · have hQ := hQ.2 q_6 e_6
            refine lv_astore (lv' := [(4, .ref q_6), (0, .ref q0), (1, .ref pq_0), (2, .int v2_3), (3, .int v3_3)]) hx hb d_WM_placeInTurns_26 hl (by decide) rfl (fun ls hl => ?_)
            refine lv_aload hx hb d_WM_placeInTurns_28 (lv_at hl 0 rfl) ?_
            refine lv_ifnull hx hb d_WM_placeInTurns_30 ?_
            refine lv_aload hx hb d_WM_placeInTurns_33 (lv_at hl 0 rfl) ?_
            refine tw_geti (D := (dC, dI)) (C := R_Mn) (T := F_Mn) (N := 8) (ci := 2) (kd := 20) (ct := ct) hx hb htb i_Mn hown hK hP hO_0 m_6 rfl rfl 2 (by decide) (htb (.fieldLink R_WM 145 "WaterMen$Man" "turnStairs" "I") tw_33) (fun _ h9 => h9) rfl d_WM_placeInTurns_35 (fun x_7 e_7 b_7 => ?_)
            have hQ := hQ x_7 e_7
            refine lv_aload_n hx hb d_WM_placeInTurns_38 rfl (lv_at hl 2 rfl) ?_
            refine tw_getI (x := x_1) (D := (dC, dI)) (C := R_Mn) (T := F_Mn) (N := 8) (ci := 2) (kd := 20) (ct := ct) hx hb htb i_Mn hown hK hP pm_0 rfl rfl 2 e_1 (by decide) (htb (.fieldLink R_WM 145 "WaterMen$Man" "turnStairs" "I") tw_33) (fun _ h9 => h9) rfl d_WM_placeInTurns_39 ?_
            refine lv_icmp_ne (tgt := 60) hx hb d_WM_placeInTurns_42 (by decide) (fun c_8 => ?_) (fun c_8 => ?_)
            · have hQ := hQ.2 c_8
              refine lv_iinc (v := (v3_3 + 1)) (lv' := [(3, .int (v3_3 + 1)), (4, .ref q_6), (0, .ref q0), (1, .ref pq_0), (2, .int v2_3)]) hx hb d_WM_placeInTurns_60 hl (k := 4) rfl rfl (by decide) rfl (fun ls hl => ?_)
              refine lv_goto (tgt := 14) hx hb d_WM_placeInTurns_63 (by decide) ?_
              exact ih_3 (n_3 - 1) (ms_1 ((fun (a_0 : Int32) (k_0 : ¬ (40 ≤ a_0)) => (show 1 ≤ (40 : Int32).toInt - (a_0).toInt ∧ (40 : Int32).toInt - ((a_0) + (1 : Int32)).toInt + 1 ≤ (40 : Int32).toInt - (a_0).toInt from by have z0 : (1 : Int32).toInt = 1 := (by decide +kernel); have z1 : (40 : Int32).toInt = 40 := (by decide +kernel); have r0 := fb_rng (a_0); have e0 := k_0; rw [Int32.le_iff_toInt_le, z1] at e0; obtain ⟨n_0, hn_0, s0⟩ := nd_add (x := (a_0)) (y := (1 : Int32)) (by (try rw [z0]); omega) (by (try rw [z0]); omega); rw [z0] at s0; rw [hn_0]; (try rw [z1]); omega)) v3_3 c_4) hm_3) v2_3 (v3_3 + 1) _ (show ¬ ((v3_3 + 1) < 0) from by have e0 := iv0_3; rw [Int32.lt_iff_toInt_lt] at e0; have e1 := c_4; rw [Int32.le_iff_toInt_le] at e1; have z0 : (0 : Int32).toInt = 0 := (by decide +kernel); have z1 : (1 : Int32).toInt = 1 := (by decide +kernel); have z2 : (40 : Int32).toInt = 40 := (by decide +kernel); have ss := fb_addI (x := v3_3) (y := 1) (by omega) (by omega); rw [Int32.lt_iff_toInt_lt]; omega) (show ¬ (40 < (v3_3 + 1)) from by have e0 := iv0_3; rw [Int32.lt_iff_toInt_lt] at e0; have e1 := c_4; rw [Int32.le_iff_toInt_le] at e1; have z0 : (0 : Int32).toInt = 0 := (by decide +kernel); have z1 : (1 : Int32).toInt = 1 := (by decide +kernel); have z2 : (40 : Int32).toInt = 40 := (by decide +kernel); have ss := fb_addI (x := v3_3) (y := 1) (by omega) (by omega); rw [Int32.lt_iff_toInt_lt]; omega) (by exact ms_2 ((fun (a_0 : Int32) (k_0 : ¬ (40 ≤ a_0)) => (show 1 ≤ (40 : Int32).toInt - (a_0).toInt ∧ (40 : Int32).toInt - ((a_0) + (1 : Int32)).toInt + 1 ≤ (40 : Int32).toInt - (a_0).toInt from by have z0 : (1 : Int32).toInt = 1 := (by decide +kernel); have z1 : (40 : Int32).toInt = 40 := (by decide +kernel); have r0 := fb_rng (a_0); have e0 := k_0; rw [Int32.le_iff_toInt_le, z1] at e0; obtain ⟨n_0, hn_0, s0⟩ := nd_add (x := (a_0)) (y := (1 : Int32)) (by (try rw [z0]); omega) (by (try rw [z0]); omega); rw [z0] at s0; rw [hn_0]; (try rw [z1]); omega)) v3_3 c_4) hm_3) (by rw [← hrec_3, wpR_WM_placeInTurns_w_14_3_pos (ms_3 ((fun (a_0 : Int32) (k_0 : ¬ (40 ≤ a_0)) => (show 1 ≤ (40 : Int32).toInt - (a_0).toInt ∧ (40 : Int32).toInt - ((a_0) + (1 : Int32)).toInt + 1 ≤ (40 : Int32).toInt - (a_0).toInt from by have z0 : (1 : Int32).toInt = 1 := (by decide +kernel); have z1 : (40 : Int32).toInt = 40 := (by decide +kernel); have r0 := fb_rng (a_0); have e0 := k_0; rw [Int32.le_iff_toInt_le, z1] at e0; obtain ⟨n_0, hn_0, s0⟩ := nd_add (x := (a_0)) (y := (1 : Int32)) (by (try rw [z0]); omega) (by (try rw [z0]); omega); rw [z0] at s0; rw [hn_0]; (try rw [z1]); omega)) v3_3 c_4) hm_3)] at hQ; exact hQ) (lv_sub hl [2, 3, 4, 0] rfl)
            · have hQ := hQ.1 c_8
              refine lv_aload hx hb d_WM_placeInTurns_45 (lv_at hl 0 rfl) ?_
              refine tw_geti (D := (dC, dI)) (C := R_Mn) (T := F_Mn) (N := 8) (ci := 2) (kd := 20) (ct := ct) hx hb htb i_Mn hown hK hP hO_0 m_6 rfl rfl 3 (by decide) (htb (.fieldLink R_WM 196 "WaterMen$Man" "turnTicket" "I") tw_34) (fun _ h9 => h9) rfl d_WM_placeInTurns_47 (fun x_9 e_9 b_9 => ?_)
              have hQ := hQ x_9 e_9
              refine lv_aload_n hx hb d_WM_placeInTurns_50 rfl (lv_at hl 2 rfl) ?_
              refine tw_geti (D := (dC, dI)) (C := R_Mn) (T := F_Mn) (N := 8) (ci := 2) (kd := 20) (ct := ct) hx hb htb i_Mn hown hK hP hO_0 pm_0 rfl rfl 3 (by decide) (htb (.fieldLink R_WM 196 "WaterMen$Man" "turnTicket" "I") tw_34) (fun _ h9 => h9) rfl d_WM_placeInTurns_51 (fun x_10 e_10 b_10 => ?_)
              have hQ := hQ x_10 e_10
              refine lv_icmp_ge (tgt := 60) hx hb d_WM_placeInTurns_54 (by decide) (fun c_11 => ?_) (fun c_11 => ?_)
              · have hQ := hQ.1 c_11
                refine lv_iinc (v := (v3_3 + 1)) (lv' := [(3, .int (v3_3 + 1)), (4, .ref q_6), (0, .ref q0), (1, .ref pq_0), (2, .int v2_3)]) hx hb d_WM_placeInTurns_60 hl (k := 4) rfl rfl (by decide) rfl (fun ls hl => ?_)
                refine lv_goto (tgt := 14) hx hb d_WM_placeInTurns_63 (by decide) ?_
                exact ih_3 (n_3 - 1) (ms_1 ((fun (a_0 : Int32) (k_0 : ¬ (40 ≤ a_0)) => (show 1 ≤ (40 : Int32).toInt - (a_0).toInt ∧ (40 : Int32).toInt - ((a_0) + (1 : Int32)).toInt + 1 ≤ (40 : Int32).toInt - (a_0).toInt from by have z0 : (1 : Int32).toInt = 1 := (by decide +kernel); have z1 : (40 : Int32).toInt = 40 := (by decide +kernel); have r0 := fb_rng (a_0); have e0 := k_0; rw [Int32.le_iff_toInt_le, z1] at e0; obtain ⟨n_0, hn_0, s0⟩ := nd_add (x := (a_0)) (y := (1 : Int32)) (by (try rw [z0]); omega) (by (try rw [z0]); omega); rw [z0] at s0; rw [hn_0]; (try rw [z1]); omega)) v3_3 c_4) hm_3) v2_3 (v3_3 + 1) _ (show ¬ ((v3_3 + 1) < 0) from by have e0 := iv0_3; rw [Int32.lt_iff_toInt_lt] at e0; have e1 := c_4; rw [Int32.le_iff_toInt_le] at e1; have z0 : (0 : Int32).toInt = 0 := (by decide +kernel); have z1 : (1 : Int32).toInt = 1 := (by decide +kernel); have z2 : (40 : Int32).toInt = 40 := (by decide +kernel); have ss := fb_addI (x := v3_3) (y := 1) (by omega) (by omega); rw [Int32.lt_iff_toInt_lt]; omega) (show ¬ (40 < (v3_3 + 1)) from by have e0 := iv0_3; rw [Int32.lt_iff_toInt_lt] at e0; have e1 := c_4; rw [Int32.le_iff_toInt_le] at e1; have z0 : (0 : Int32).toInt = 0 := (by decide +kernel); have z1 : (1 : Int32).toInt = 1 := (by decide +kernel); have z2 : (40 : Int32).toInt = 40 := (by decide +kernel); have ss := fb_addI (x := v3_3) (y := 1) (by omega) (by omega); rw [Int32.lt_iff_toInt_lt]; omega) (by exact ms_2 ((fun (a_0 : Int32) (k_0 : ¬ (40 ≤ a_0)) => (show 1 ≤ (40 : Int32).toInt - (a_0).toInt ∧ (40 : Int32).toInt - ((a_0) + (1 : Int32)).toInt + 1 ≤ (40 : Int32).toInt - (a_0).toInt from by have z0 : (1 : Int32).toInt = 1 := (by decide +kernel); have z1 : (40 : Int32).toInt = 40 := (by decide +kernel); have r0 := fb_rng (a_0); have e0 := k_0; rw [Int32.le_iff_toInt_le, z1] at e0; obtain ⟨n_0, hn_0, s0⟩ := nd_add (x := (a_0)) (y := (1 : Int32)) (by (try rw [z0]); omega) (by (try rw [z0]); omega); rw [z0] at s0; rw [hn_0]; (try rw [z1]); omega)) v3_3 c_4) hm_3) (by rw [← hrec_3, wpR_WM_placeInTurns_w_14_3_pos (ms_3 ((fun (a_0 : Int32) (k_0 : ¬ (40 ≤ a_0)) => (show 1 ≤ (40 : Int32).toInt - (a_0).toInt ∧ (40 : Int32).toInt - ((a_0) + (1 : Int32)).toInt + 1 ≤ (40 : Int32).toInt - (a_0).toInt from by have z0 : (1 : Int32).toInt = 1 := (by decide +kernel); have z1 : (40 : Int32).toInt = 40 := (by decide +kernel); have r0 := fb_rng (a_0); have e0 := k_0; rw [Int32.le_iff_toInt_le, z1] at e0; obtain ⟨n_0, hn_0, s0⟩ := nd_add (x := (a_0)) (y := (1 : Int32)) (by (try rw [z0]); omega) (by (try rw [z0]); omega); rw [z0] at s0; rw [hn_0]; (try rw [z1]); omega)) v3_3 c_4) hm_3)] at hQ; exact hQ) (lv_sub hl [2, 3, 4, 0] rfl)
              · have hQ := hQ.2 c_11
                refine lv_iinc (v := (v2_3 + 1)) (lv' := [(2, .int (v2_3 + 1)), (4, .ref q_6), (0, .ref q0), (1, .ref pq_0), (3, .int v3_3)]) hx hb d_WM_placeInTurns_57 hl (k := 3) rfl rfl (by decide) rfl (fun ls hl => ?_)
                refine lv_iinc (v := (v3_3 + 1)) (lv' := [(3, .int (v3_3 + 1)), (2, .int (v2_3 + 1)), (4, .ref q_6), (0, .ref q0), (1, .ref pq_0)]) hx hb d_WM_placeInTurns_60 hl (k := 4) rfl rfl (by decide) rfl (fun ls hl => ?_)
                refine lv_goto (tgt := 14) hx hb d_WM_placeInTurns_63 (by decide) ?_
                exact ih_3 (n_3 - 1) (ms_1 ((fun (a_0 : Int32) (k_0 : ¬ (40 ≤ a_0)) => (show 1 ≤ (40 : Int32).toInt - (a_0).toInt ∧ (40 : Int32).toInt - ((a_0) + (1 : Int32)).toInt + 1 ≤ (40 : Int32).toInt - (a_0).toInt from by have z0 : (1 : Int32).toInt = 1 := (by decide +kernel); have z1 : (40 : Int32).toInt = 40 := (by decide +kernel); have r0 := fb_rng (a_0); have e0 := k_0; rw [Int32.le_iff_toInt_le, z1] at e0; obtain ⟨n_0, hn_0, s0⟩ := nd_add (x := (a_0)) (y := (1 : Int32)) (by (try rw [z0]); omega) (by (try rw [z0]); omega); rw [z0] at s0; rw [hn_0]; (try rw [z1]); omega)) v3_3 c_4) hm_3) (v2_3 + 1) (v3_3 + 1) _ (show ¬ ((v3_3 + 1) < 0) from by have e0 := iv0_3; rw [Int32.lt_iff_toInt_lt] at e0; have e1 := c_4; rw [Int32.le_iff_toInt_le] at e1; have z0 : (0 : Int32).toInt = 0 := (by decide +kernel); have z1 : (1 : Int32).toInt = 1 := (by decide +kernel); have z2 : (40 : Int32).toInt = 40 := (by decide +kernel); have ss := fb_addI (x := v3_3) (y := 1) (by omega) (by omega); rw [Int32.lt_iff_toInt_lt]; omega) (show ¬ (40 < (v3_3 + 1)) from by have e0 := iv0_3; rw [Int32.lt_iff_toInt_lt] at e0; have e1 := c_4; rw [Int32.le_iff_toInt_le] at e1; have z0 : (0 : Int32).toInt = 0 := (by decide +kernel); have z1 : (1 : Int32).toInt = 1 := (by decide +kernel); have z2 : (40 : Int32).toInt = 40 := (by decide +kernel); have ss := fb_addI (x := v3_3) (y := 1) (by omega) (by omega); rw [Int32.lt_iff_toInt_lt]; omega) (by exact ms_2 ((fun (a_0 : Int32) (k_0 : ¬ (40 ≤ a_0)) => (show 1 ≤ (40 : Int32).toInt - (a_0).toInt ∧ (40 : Int32).toInt - ((a_0) + (1 : Int32)).toInt + 1 ≤ (40 : Int32).toInt - (a_0).toInt from by have z0 : (1 : Int32).toInt = 1 := (by decide +kernel); have z1 : (40 : Int32).toInt = 40 := (by decide +kernel); have r0 := fb_rng (a_0); have e0 := k_0; rw [Int32.le_iff_toInt_le, z1] at e0; obtain ⟨n_0, hn_0, s0⟩ := nd_add (x := (a_0)) (y := (1 : Int32)) (by (try rw [z0]); omega) (by (try rw [z0]); omega); rw [z0] at s0; rw [hn_0]; (try rw [z1]); omega)) v3_3 c_4) hm_3) (by rw [← hrec_3, wpR_WM_placeInTurns_w_14_3_pos (ms_3 ((fun (a_0 : Int32) (k_0 : ¬ (40 ≤ a_0)) => (show 1 ≤ (40 : Int32).toInt - (a_0).toInt ∧ (40 : Int32).toInt - ((a_0) + (1 : Int32)).toInt + 1 ≤ (40 : Int32).toInt - (a_0).toInt from by have z0 : (1 : Int32).toInt = 1 := (by decide +kernel); have z1 : (40 : Int32).toInt = 40 := (by decide +kernel); have r0 := fb_rng (a_0); have e0 := k_0; rw [Int32.le_iff_toInt_le, z1] at e0; obtain ⟨n_0, hn_0, s0⟩ := nd_add (x := (a_0)) (y := (1 : Int32)) (by (try rw [z0]); omega) (by (try rw [z0]); omega); rw [z0] at s0; rw [hn_0]; (try rw [z1]); omega)) v3_3 c_4) hm_3)] at hQ; exact hQ) (lv_sub hl [3, 4, 1, 0] rfl)
    exact cut_3 ((40 : Int32).toInt - (0 : Int32).toInt).toNat (0 : Int32) (0 : Int32) _ (by decide +kernel) (by decide +kernel) (by exact ms_e _ _) hQ (lv_sub hl [2, 3, 1, 0] rfl)
  · have hQ := hQ.1 c_2
    refine lv_iconst (v := (-1)) hx hb d_WM_placeInTurns_8 (by decide +kernel) ?_
    exact W.iret (v := (-1)) hx hb hr (fun t ht hW => ⟨(-1), rfl, ⟨trivial, hQ⟩, ht⟩) t_nil d_WM_placeInTurns_9
def W_WM_join_w : List (Nat × Nat) := [(0, 11), (20, 2), (20, 3)]
def wp_WM_join_w (L : List Nat) (f : TF) (q0 : Nat) (p_0 : Int32) (p_1 : Int32) (Q : Int32 → List Nat → TF → Prop) : Prop := wp_WM_manAt_w L f q0 p_1 (fun (r_1 : Option Nat) => ((r_1 = none → Q (-1) L f) ∧ (∀ q_1 : Nat, r_1 = some q_1 → ∀ q_2 : Nat, tr f q0 0 = some q_2 → wp_Rv_hasStairs_w L f q_2 p_0 (fun (r_3 : Int32) => ((r_3 = 0 → Q (-1) L f) ∧ (r_3 = 1 → ∀ x_6 : Int32, ti f q_1 0 = x_6 → ((x_6 = 2 → ∀ x_8 : Int32, ti f q0 10 = x_8 → wp_Mn_isOnWay_w L f q_1 x_8 (fun (r_9 : Int32) => ((r_9 = 0 → ∀ x_10 : Int32, ti f q_1 2 = x_10 → ((x_10 = (-1) → ∀ f_1 : TF, f_1 = sI f q_1 2 p_0 → Ok L f_1 → ∀ x_13 : Int32, ti f_1 q0 11 = x_13 → ∀ f_2 : TF, f_2 = sI f_1 q_1 3 x_13 → Ok L f_2 → ∀ f_3 : TF, f_3 = sI f_2 q0 11 (x_13 + 1) → Ok L f_3 → wp_WM_placeInTurns_w L f_3 q0 q_1 (fun (r_16 : Int32) => Q (r_16 + 1) L f_3)) ∧ (¬ (x_10 = (-1)) → Q (-2) L f))) ∧ (r_9 = 1 → Q (-2) L f)))) ∧ (¬ (x_6 = 2) → Q (-2) L f))))))))
set_option maxHeartbeats 4000000 in
set_option maxRecDepth 100000 in
theorem c_WM_join_w (l : Launch) (dC : Nat → ClassId) (dI : Nat → Nat → Nat) (ct : Nat → ClassId) (L : List Nat) (f : TF) (hO_0 : Ok L f) (q0 : Nat) (m0 : q0 ∈ L ∧ tk f q0 = 0) (sz : Nat) (p_0 : Int32) (p_1 : Int32)   (Q : Int32 → List Nat → TF → Prop) (hQ : wp_WM_join_w L f q0 p_0 p_1 Q) : Met l y_WM_join (.code y_WM_join b_WM_join 4 (some .int) :: TB) ({ frames := 1, cells := 0, slots := 0, locals := 24 }) (va_Pc [.ref q0, .int p_0, .int p_1] (PC dC dI (TW ct L f) (TT ct) sz)) (va_Qi (fun r (u : TSt) => Ok u.1 u.2 ∧ Ext W_WM_join_w L f u.1 u.2 ∧ (True) ∧ Q r u.1 u.2) (fun (u : TSt) t => va_P (dC, dI) vwCl (TW ct u.1 u.2) t.heap ∧ va_K (dC, dI) vwCl (TT ct) t ∧ va_D (va_A (TW ct L f) sz) (TW ct u.1 u.2)) (va_A (TW ct L f) sz)) 0 0 (va_A (TW ct L f) sz) := by
  refine Met.ofW (cc := b_WM_join) (maxL := 4) (ret := (some .int)) (by decide) rfl ?_
  intro p e s m args below meth c s₁ B hml hv
  obtain ⟨rfl, hsz, hP, hK, hD0, hN⟩ := hv
  have hx := B.exec
  have hb := B.bytes
  have hr := B.returns
  have hts := atoms_spec (ws := (.code y_WM_join b_WM_join 4 (some .int) :: TB)) B.pre
  have htb := fun w (h : w ∈ TB) => hts w (List.mem_cons_of_mem _ h)
  have hown : s.vm.findClass R_WM = some m.cls := findClass_of_methodNamed B.named
  have hlocks := B.notSynchronized
  have hl := lv_entry ([.ref q0, .int p_0, .int p_1]) (n := 4) (Nat.le_of_ble_eq_true rfl)
  rw [lg_entry_eq]
  generalize (lg_sl ([.ref q0, .int p_0, .int p_1]) ++ List.replicate (4 - (lg_sl ([.ref q0, .int p_0, .int p_1])).length) Slot.unset).toArray = ls at hl ⊢
  have hl : lv_has ls 4 [(0, .ref q0), (1, .int p_0), (2, .int p_1)] := hl
  subst hsz
  have hD := hD0.self (sz := s.heap.size)
  obtain ⟨A, hAe⟩ : ∃ A, va_A (TW ct L f) s.heap.size = A := ⟨_, rfl⟩
  rw [hAe] at hD
  have hA : ∀ q : Nat, s.heap.size ≤ q → A q := fun q h => by rw [← hAe]; exact Or.inr h
  have hS : va_S A s.heap s.heap [] := va_S.rf
  have hA_0 : Ext [] L f L f := Ext.rf
  suffices hGo : ∀ (H : Heap) (locs : List Loc), va_P (dC, dI) vwCl (TW ct L f) H → va_S A s.heap H locs → W p l e (headSpec (.code y_WM_join b_WM_join 4 (some .int) :: TB) ({ frames := 1, cells := 0, slots := 0, locals := 24 })).room s m [.ref q0, .int p_0, .int p_1].toArray below meth c H locs 0 0 (MQ below (va_Qi (fun r (u : TSt) => Ok u.1 u.2 ∧ Ext W_WM_join_w L f u.1 u.2 ∧ (True) ∧ Q r u.1 u.2) (fun (u : TSt) t => va_P (dC, dI) vwCl (TW ct u.1 u.2) t.heap ∧ va_K (dC, dI) vwCl (TT ct) t ∧ va_D (va_A (TW ct L f) s.heap.size) (TW ct u.1 u.2)) (va_A (TW ct L f) s.heap.size)) [.ref q0, .int p_0, .int p_1].toArray s 0 0 (va_A (TW ct L f) s.heap.size)) (F0 m 0 ls []) from hGo _ _ hP hS
  clear hP hS
  intro H locs hP hS
  unfold wp_WM_join_w at hQ
  refine lv_aload_n hx hb d_WM_join_0 rfl (lv_at hl 0 rfl) ?_
  refine lv_iload_n hx hb d_WM_join_1 rfl (lv_at hl 2 rfl) ?_
  refine va_csq (va_Run.run (va_runV (As := [.int p_1]) (rest := []) ⟨hx, hb, hml, hown, htb⟩ (c_WM_manAt_w l dC dI ct L f hO_0 q0 m0 p_1 _ hQ) (cwV 1 htb (gd_V tw_27 tw_28 tw_29 tw_26 tw_25) rfl rfl rfl (by decide +kernel) ⟨Nat.le_of_ble_eq_true rfl, Nat.le_of_ble_eq_true rfl⟩) ⟨pr_blind, tw_recv hK hP m0 rfl rfl, pr_pre hP hK hN⟩ rfl rfl hl.1 rfl (lv_room (Nat.le_of_ble_eq_true rfl)) d_WM_join_2 ⟨Nat.le_of_ble_eq_true rfl, Nat.le_of_ble_eq_true rfl⟩)) (fun r_1 er_1 => ?_)
  obtain ⟨er_1, hQ⟩ := er_1
  rcases er_1 with rfl | ⟨q_1, rfl, m_1⟩
  · have hQ := hQ.1 rfl
    refine hb_tv .null rfl ?_
    refine lv_astore_nN (lv' := [(3, .null), (0, .ref q0), (1, .int p_0), (2, .int p_1)]) hx hb d_WM_join_5 rfl hl (by decide) rfl (fun ls hl => ?_)
    refine lv_aload_nN hx hb d_WM_join_6 rfl (lv_at hl 0 rfl) ?_
    refine lv_ifnullN (tgt := 21) hx hb d_WM_join_7 (by decide) ?_
    refine lv_iconst (v := (-1)) hx hb d_WM_join_21 (by decide +kernel) ?_
    refine W.widen (k := 0) (n := 0) (Nat.le_of_ble_eq_true rfl) (Nat.le_of_ble_eq_true rfl) ?_
    exact W.iret (v := (-1)) hx hb hr (fun t ht hW => ⟨⟨(-1), (L, f), rfl, ⟨hO_0, hA_0.mono (by decide +kernel), trivial, hQ⟩, by rw [ht]; exact hP, va_K.moved hW.alike hK, by rw [hAe]; exact hD⟩, by rw [hAe]; exact hS.F ht⟩) (by rw [hAe]; exact hS.2.2) d_WM_join_22
  · have hQ := hQ.2 q_1 rfl
    refine hb_tv (.ref q_1) rfl ?_
    refine lv_astore_n (lv' := [(3, .ref q_1), (0, .ref q0), (1, .int p_0), (2, .int p_1)]) hx hb d_WM_join_5 rfl hl (by decide) rfl (fun ls hl => ?_)
    refine lv_aload_n hx hb d_WM_join_6 rfl (lv_at hl 0 rfl) ?_
    refine lv_ifnull hx hb d_WM_join_7 ?_
    refine lv_aload_n hx hb d_WM_join_10 rfl (lv_at hl 1 rfl) ?_
    refine tw_getr (D := (dC, dI)) (C := R_WM) (T := F_WM) (N := 13) (ci := 0) (kd := 0) (ct := ct) hx hb htb i_WM hown hK hP hO_0 m0 rfl rfl 0 (by decide) (htb (.fieldLink R_WM 12 "WaterMen" "river" "LWaterMen$River;") tw_135) (fun _ h9 => h9) rfl d_WM_join_11 (fun q_2 e_2 m_2 => ?_)
    have hQ := hQ q_2 e_2
    refine lv_iload_n hx hb d_WM_join_14 rfl (lv_at hl 2 rfl) ?_
    refine vp_callSi (va_Run.run (va_runV (As := [.int p_0]) (rest := []) ⟨hx, hb, hml, hown, htb⟩ (c_Rv_hasStairs_w l dC dI ct L f hO_0 q_2 m_2 p_0 _ hQ) (cwV 1 htb (gd_V tw_398 tw_399 tw_400 tw_140 tw_397) rfl rfl rfl (by decide +kernel) ⟨Nat.le_of_ble_eq_true rfl, Nat.le_of_ble_eq_true rfl⟩) ⟨pr_blind, tw_recv hK hP m_2 rfl rfl, pr_pre hP hK hN⟩ rfl rfl hl.1 rfl (lv_room (Nat.le_of_ble_eq_true rfl)) d_WM_join_15 ⟨Nat.le_of_ble_eq_true rfl, Nat.le_of_ble_eq_true rfl⟩)) (fun r_3 er_3 => ?_)
    obtain ⟨er_3, hQ⟩ := er_3
    rcases er_3 with ⟨rfl, -⟩ | ⟨rfl, po_4, po_5, -⟩
    · have hQ := hQ.1 rfl
      refine lv_if_ne (tgt := 23) hx hb d_WM_join_18 (by decide) (fun h => absurd (by decide +kernel) h) (fun _ => ?_)
      refine lv_iconst (v := (-1)) hx hb d_WM_join_21 (by decide +kernel) ?_
      refine W.widen (k := 0) (n := 0) (Nat.le_of_ble_eq_true rfl) (Nat.le_of_ble_eq_true rfl) ?_
      exact W.iret (v := (-1)) hx hb hr (fun t ht hW => ⟨⟨(-1), (L, f), rfl, ⟨hO_0, hA_0.mono (by decide +kernel), trivial, hQ⟩, by rw [ht]; exact hP, va_K.moved hW.alike hK, by rw [hAe]; exact hD⟩, by rw [hAe]; exact hS.F ht⟩) (by rw [hAe]; exact hS.2.2) d_WM_join_22
    · have hQ := hQ.2 rfl
      refine lv_if_ne (tgt := 23) hx hb d_WM_join_18 (by decide) (fun _ => ?_) (fun h => absurd h (by decide +kernel))
      refine lv_aload_n hx hb d_WM_join_23 rfl (lv_at hl 0 rfl) ?_
      refine tw_geti (D := (dC, dI)) (C := R_Mn) (T := F_Mn) (N := 8) (ci := 2) (kd := 20) (ct := ct) hx hb htb i_Mn hown hK hP hO_0 m_1 rfl rfl 0 (by decide) (htb (.fieldLink R_WM 111 "WaterMen$Man" "state" "I") tw_30) (fun _ h9 => h9) rfl d_WM_join_24 (fun x_6 e_6 b_6 => ?_)
      have hQ := hQ x_6 e_6
      refine lv_iconst (v := 2) hx hb d_WM_join_27 (by decide +kernel) ?_
      refine lv_icmp_ne (tgt := 50) hx hb d_WM_join_28 (by decide) (fun c_7 => ?_) (fun c_7 => ?_)
      · have hQ := hQ.2 c_7
        refine lv_bipush (v := (-2)) hx hb d_WM_join_50 (by decide +kernel) ?_
        refine W.widen (k := 0) (n := 0) (Nat.le_of_ble_eq_true rfl) (Nat.le_of_ble_eq_true rfl) ?_
        exact W.iret (v := (-2)) hx hb hr (fun t ht hW => ⟨⟨(-2), (L, f), rfl, ⟨hO_0, hA_0.mono (by decide +kernel), trivial, hQ⟩, by rw [ht]; exact hP, va_K.moved hW.alike hK, by rw [hAe]; exact hD⟩, by rw [hAe]; exact hS.F ht⟩) (by rw [hAe]; exact hS.2.2) d_WM_join_52
      · have hQ := hQ.1 c_7
        refine lv_aload_n hx hb d_WM_join_31 rfl (lv_at hl 0 rfl) ?_
        refine lv_aload_n hx hb d_WM_join_32 rfl (lv_at hl 1 rfl) ?_
        refine tw_geti (D := (dC, dI)) (C := R_WM) (T := F_WM) (N := 13) (ci := 0) (kd := 0) (ct := ct) hx hb htb i_WM hown hK hP hO_0 m0 rfl rfl 10 (by decide) (htb (.fieldLink R_WM 155 "WaterMen" "now" "I") tw_40) (fun _ h9 => h9) rfl d_WM_join_33 (fun x_8 e_8 b_8 => ?_)
        have hQ := hQ x_8 e_8
        refine vp_callSi (va_Run.run (va_runV (As := [.int x_8]) (rest := []) ⟨hx, hb, hml, hown, htb⟩ (c_Mn_isOnWay_w l dC dI ct L f hO_0 q_1 m_1 x_8 _ hQ) (cwV 1 htb (gd_V tw_44 tw_45 tw_46 tw_43 tw_42) rfl rfl rfl (by decide +kernel) ⟨Nat.le_of_ble_eq_true rfl, Nat.le_of_ble_eq_true rfl⟩) ⟨pr_blind, tw_recv hK hP m_1 rfl rfl, pr_pre hP hK hN⟩ rfl rfl hl.1 rfl (lv_room (Nat.le_of_ble_eq_true rfl)) d_WM_join_36 ⟨Nat.le_of_ble_eq_true rfl, Nat.le_of_ble_eq_true rfl⟩)) (fun r_9 er_9 => ?_)
        obtain ⟨er_9, hQ⟩ := er_9
        rcases er_9 with ⟨rfl, -⟩ | ⟨rfl, -⟩
        · have hQ := hQ.1 rfl
          refine lv_if_ne (tgt := 50) hx hb d_WM_join_39 (by decide) (fun h => absurd (by decide +kernel) h) (fun _ => ?_)
          refine lv_aload_n hx hb d_WM_join_42 rfl (lv_at hl 0 rfl) ?_
          refine tw_geti (D := (dC, dI)) (C := R_Mn) (T := F_Mn) (N := 8) (ci := 2) (kd := 20) (ct := ct) hx hb htb i_Mn hown hK hP hO_0 m_1 rfl rfl 2 (by decide) (htb (.fieldLink R_WM 145 "WaterMen$Man" "turnStairs" "I") tw_33) (fun _ h9 => h9) rfl d_WM_join_43 (fun x_10 e_10 b_10 => ?_)
          have hQ := hQ x_10 e_10
          refine lv_iconst (v := (-1)) hx hb d_WM_join_46 (by decide +kernel) ?_
          refine lv_icmp_eq (tgt := 53) hx hb d_WM_join_47 (by decide) (fun c_11 => ?_) (fun c_11 => ?_)
          · have hQ := hQ.1 c_11
            refine lv_aload_n hx hb d_WM_join_53 rfl (lv_at hl 0 rfl) ?_
            refine lv_iload_n hx hb d_WM_join_54 rfl (lv_at hl 2 rfl) ?_
            refine tw_puti (v := p_0) (D := (dC, dI)) (C := R_Mn) (T := F_Mn) (N := 8) (ci := 2) (kd := 20) (ct := ct) (ty := .int) hx hb htb i_Mn t_Mn t_Mn_ok n_Mn hown hK hP hD hS hO_0 m_1 rfl rfl 2 (by decide) (htb (.fieldLink R_WM 145 "WaterMen$Man" "turnStairs" "I") tw_33) (fun _ h9 => h9) rfl (by decide +kernel) rfl rfl rfl (i32_full _) d_WM_join_55 (fun f_1 H locs hP hD hS hO_1 hE_1 w_12 hF_1 => ?_)
            have hA_1 := hA_0.trans hE_1
            have hQ := hQ f_1 hF_1
            have hQ := hQ hO_1
            refine lv_aload_n hx hb d_WM_join_58 rfl (lv_at hl 0 rfl) ?_
            refine lv_aload_n hx hb d_WM_join_59 rfl (lv_at hl 1 rfl) ?_
            refine tw_geti (D := (dC, dI)) (C := R_WM) (T := F_WM) (N := 13) (ci := 0) (kd := 0) (ct := ct) hx hb htb i_WM hown hK hP hO_1 (hA_1.m m0) rfl rfl 11 (by decide) (htb (.fieldLink R_WM 193 "WaterMen" "joins" "I") tw_532) (fun _ h9 => h9) rfl d_WM_join_60 (fun x_13 e_13 b_13 => ?_)
            have hQ := hQ x_13 e_13
            refine tw_puti (v := x_13) (D := (dC, dI)) (C := R_Mn) (T := F_Mn) (N := 8) (ci := 2) (kd := 20) (ct := ct) (ty := .int) hx hb htb i_Mn t_Mn t_Mn_ok n_Mn hown hK hP hD hS hO_1 (hA_1.m m_1) rfl rfl 3 (by decide) (htb (.fieldLink R_WM 196 "WaterMen$Man" "turnTicket" "I") tw_34) (fun _ h9 => h9) rfl (by decide +kernel) rfl rfl rfl (i32_full _) d_WM_join_63 (fun f_2 H locs hP hD hS hO_2 hE_2 w_14 hF_2 => ?_)
            have hA_2 := hA_1.trans hE_2
            have hQ := hQ f_2 hF_2
            have hQ := hQ hO_2
            refine lv_aload_n hx hb d_WM_join_66 rfl (lv_at hl 1 rfl) ?_
            refine lv_dup hx hb d_WM_join_67 rfl ?_
            refine tw_getI (x := x_13) (D := (dC, dI)) (C := R_WM) (T := F_WM) (N := 13) (ci := 0) (kd := 0) (ct := ct) hx hb htb i_WM hown hK hP (hA_2.m m0) rfl rfl 11 ((hE_2.ei (hA_1.m m0) rfl).trans e_13) (by decide) (htb (.fieldLink R_WM 193 "WaterMen" "joins" "I") tw_532) (fun _ h9 => h9) rfl d_WM_join_68 ?_
            refine lv_iconst (v := 1) hx hb d_WM_join_71 (by decide +kernel) ?_
            refine lv_iadd hx hb d_WM_join_72 ?_
            refine tw_puti (v := (x_13 + 1)) (D := (dC, dI)) (C := R_WM) (T := F_WM) (N := 13) (ci := 0) (kd := 0) (ct := ct) (ty := .int) hx hb htb i_WM t_WM t_WM_ok n_WM hown hK hP hD hS hO_2 (hA_2.m m0) rfl rfl 11 (by decide) (htb (.fieldLink R_WM 193 "WaterMen" "joins" "I") tw_532) (fun _ h9 => h9) rfl (by decide +kernel) rfl rfl rfl (i32_full _) d_WM_join_73 (fun f_3 H locs hP hD hS hO_3 hE_3 w_15 hF_3 => ?_)
            have hA_3 := hA_2.trans hE_3
            have hQ := hQ f_3 hF_3
            have hQ := hQ hO_3
            refine lv_aload_n hx hb d_WM_join_76 rfl (lv_at hl 1 rfl) ?_
            refine lv_aload_n hx hb d_WM_join_77 rfl (lv_at hl 0 rfl) ?_
            refine vp_callSi (va_Run.run (va_runV (As := [.ref q_1]) (rest := []) ⟨hx, hb, hml, hown, htb⟩ (c_WM_placeInTurns_w l dC dI ct L f_3 hO_3 q0 (hA_3.m m0) q_1 (hA_3.m m_1) _ hQ) (cwV 1 htb (gd_V tw_36 tw_37 tw_38 tw_26 tw_35) rfl rfl rfl (by decide +kernel) ⟨Nat.le_of_ble_eq_true rfl, Nat.le_of_ble_eq_true rfl⟩) ⟨pr_blind, tw_recv hK hP (hA_3.m m0) rfl rfl, pr_pre hP hK hN⟩ rfl rfl hl.1 rfl (lv_room (Nat.le_of_ble_eq_true rfl)) d_WM_join_78 ⟨Nat.le_of_ble_eq_true rfl, Nat.le_of_ble_eq_true rfl⟩)) (fun r_16 er_16 => ?_)
            obtain ⟨er_16, hQ⟩ := er_16
            clear er_16
            refine lv_iconst (v := 1) hx hb d_WM_join_81 (by decide +kernel) ?_
            refine lv_iadd hx hb d_WM_join_82 ?_
            refine W.widen (k := 0) (n := 0) (Nat.le_of_ble_eq_true rfl) (Nat.le_of_ble_eq_true rfl) ?_
            exact W.iret (v := (r_16 + 1)) hx hb hr (fun t ht hW => ⟨⟨(r_16 + 1), (L, f_3), rfl, ⟨hO_3, hA_3.mono (by decide +kernel), trivial, hQ⟩, by rw [ht]; exact hP, va_K.moved hW.alike hK, by rw [hAe]; exact hD⟩, by rw [hAe]; exact hS.F ht⟩) (by rw [hAe]; exact hS.2.2) d_WM_join_83
          · have hQ := hQ.2 c_11
            refine lv_bipush (v := (-2)) hx hb d_WM_join_50 (by decide +kernel) ?_
            refine W.widen (k := 0) (n := 0) (Nat.le_of_ble_eq_true rfl) (Nat.le_of_ble_eq_true rfl) ?_
            exact W.iret (v := (-2)) hx hb hr (fun t ht hW => ⟨⟨(-2), (L, f), rfl, ⟨hO_0, hA_0.mono (by decide +kernel), trivial, hQ⟩, by rw [ht]; exact hP, va_K.moved hW.alike hK, by rw [hAe]; exact hD⟩, by rw [hAe]; exact hS.F ht⟩) (by rw [hAe]; exact hS.2.2) d_WM_join_52
        · have hQ := hQ.2 rfl
          refine lv_if_ne (tgt := 50) hx hb d_WM_join_39 (by decide) (fun _ => ?_) (fun h => absurd h (by decide +kernel))
          refine lv_bipush (v := (-2)) hx hb d_WM_join_50 (by decide +kernel) ?_
          refine W.widen (k := 0) (n := 0) (Nat.le_of_ble_eq_true rfl) (Nat.le_of_ble_eq_true rfl) ?_
          exact W.iret (v := (-2)) hx hb hr (fun t ht hW => ⟨⟨(-2), (L, f), rfl, ⟨hO_0, hA_0.mono (by decide +kernel), trivial, hQ⟩, by rw [ht]; exact hP, va_K.moved hW.alike hK, by rw [hAe]; exact hD⟩, by rw [hAe]; exact hS.F ht⟩) (by rw [hAe]; exact hS.2.2) d_WM_join_52
