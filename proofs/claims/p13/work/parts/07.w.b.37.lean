def wp_WM_man_w (L : List Nat) (f : TF) (q0 : Nat) (p_0 : Int32) (p_1 : Int32) (Q : Int32 → Prop) : Prop := wp_WM_manAt_w L f q0 p_0 (fun (r_1 : Option Nat) => ((r_1 = none → Q (-2)) ∧ (∀ q_1 : Nat, r_1 = some q_1 → ((p_1 = 0 → ∀ x_3 : Int32, ti f q_1 0 = x_3 → Q x_3) ∧ (¬ (p_1 = 0) → ((p_1 = 1 → ((tr f q_1 1 = none → Q (-1)) ∧ (∀ q_5 : Nat, tr f q_1 1 = some q_5 → ∀ x_6 : Int32, ti f q_1 0 = x_6 → ((x_6 = 1 → ∀ x_8 : Int32, ti f q_5 0 = x_8 → Q x_8) ∧ (¬ (x_6 = 1) → Q (-1)))))) ∧ (¬ (p_1 = 1) → ((p_1 = 2 → ∀ x_10 : Int32, ti f q_1 2 = x_10 → Q x_10) ∧ (¬ (p_1 = 2) → ((p_1 = 3 → wp_WM_placeInTurns_w L f q0 q_1 (fun (r_12 : Int32) => Q r_12)) ∧ (¬ (p_1 = 3) → ((p_1 = 4 → ∀ x_14 : Int32, ti f q_1 4 = x_14 → Q x_14) ∧ (¬ (p_1 = 4) → ((p_1 = 5 → ∀ x_16 : Int32, ti f q0 10 = x_16 → wp_Mn_isOnWay_w L f q_1 x_16 (fun (r_17 : Int32) => ((r_17 = 0 → Q 0) ∧ (r_17 = 1 → Q 1)))) ∧ (¬ (p_1 = 5) → ((p_1 = 6 → ∀ x_19 : Int32, ti f q_1 6 = x_19 → Q x_19) ∧ (¬ (p_1 = 6) → Q (-2))))))))))))))))))
set_option maxHeartbeats 4000000 in
set_option maxRecDepth 100000 in
theorem c_WM_man_w (l : Launch) (dC : Nat → ClassId) (dI : Nat → Nat → Nat) (ct : Nat → ClassId) (L : List Nat) (f : TF) (hO_0 : Ok L f) (q0 : Nat) (m0 : q0 ∈ L ∧ tk f q0 = 0) (p_0 : Int32) (p_1 : Int32)   (Q : Int32 → Prop) (hQ : wp_WM_man_w L f q0 p_0 p_1 Q) : Met l y_WM_man (.code y_WM_man b_WM_man 4 (some .int) :: TB) ({ frames := 1, cells := 0, slots := 0, locals := 24 }) (va_Pc [.ref q0, .int p_0, .int p_1] (PR dC dI (TW ct L f) (TT ct))) (vp_Si (fun r => (True) ∧ Q r)) 0 0 (fun _ => False) := by
  refine Met.ofW (cc := b_WM_man) (maxL := 4) (ret := (some .int)) (by decide) rfl ?_
  intro p e s m args below meth c s₁ B hml hv
  obtain ⟨rfl, hP, hK, hN⟩ := hv
  have hx := B.exec
  have hb := B.bytes
  have hr := B.returns
  have hts := atoms_spec (ws := (.code y_WM_man b_WM_man 4 (some .int) :: TB)) B.pre
  have htb := fun w (h : w ∈ TB) => hts w (List.mem_cons_of_mem _ h)
  have hown : s.vm.findClass R_WM = some m.cls := findClass_of_methodNamed B.named
  have hlocks := B.notSynchronized
  have hl := lv_entry ([.ref q0, .int p_0, .int p_1]) (n := 4) (Nat.le_of_ble_eq_true rfl)
  rw [lg_entry_eq]
  generalize (lg_sl ([.ref q0, .int p_0, .int p_1]) ++ List.replicate (4 - (lg_sl ([.ref q0, .int p_0, .int p_1])).length) Slot.unset).toArray = ls at hl ⊢
  have hl : lv_has ls 4 [(0, .ref q0), (1, .int p_0), (2, .int p_1)] := hl
  unfold wp_WM_man_w at hQ
  refine lv_aload_n hx hb d_WM_man_0 rfl (lv_at hl 0 rfl) ?_
  refine lv_iload_n hx hb d_WM_man_1 rfl (lv_at hl 1 rfl) ?_
  refine va_csq (va_Run.run (va_runV (As := [.int p_0]) (rest := []) ⟨hx, hb, hml, hown, htb⟩ (c_WM_manAt_w l dC dI ct L f hO_0 q0 m0 p_0 _ hQ) (cwV 1 htb (gd_V tw_399 tw_400 tw_401 tw_25 tw_398) rfl rfl rfl (by decide +kernel) ⟨Nat.le_of_ble_eq_true rfl, Nat.le_of_ble_eq_true rfl⟩) ⟨pr_blind, tw_recv hK hP m0 rfl rfl, pr_pre hP hK hN⟩ rfl rfl hl.1 rfl (lv_room (Nat.le_of_ble_eq_true rfl)) d_WM_man_2 ⟨Nat.le_of_ble_eq_true rfl, Nat.le_of_ble_eq_true rfl⟩)) (fun r_1 er_1 => ?_)
  obtain ⟨er_1, hQ⟩ := er_1
  rcases er_1 with rfl | ⟨q_1, rfl, m_1⟩
  · have hQ := hQ.1 rfl
    refine hb_tv .null rfl ?_
    refine lv_astore_nN (lv' := [(3, .null), (0, .ref q0), (1, .int p_0), (2, .int p_1)]) hx hb d_WM_man_5 rfl hl (by decide) rfl (fun ls hl => ?_)
    refine lv_aload_nN hx hb d_WM_man_6 rfl (lv_at hl 0 rfl) ?_
    refine lv_ifnonnullN hx hb d_WM_man_7 ?_
    refine lv_bipush (v := (-2)) hx hb d_WM_man_10 (by decide +kernel) ?_
    exact W.iret (v := (-2)) hx hb hr (fun t ht hW => ⟨(-2), rfl, ⟨trivial, hQ⟩, ht⟩) t_nil d_WM_man_12
  · have hQ := hQ.2 q_1 rfl
    refine hb_tv (.ref q_1) rfl ?_
    refine lv_astore_n (lv' := [(3, .ref q_1), (0, .ref q0), (1, .int p_0), (2, .int p_1)]) hx hb d_WM_man_5 rfl hl (by decide) rfl (fun ls hl => ?_)
    refine lv_aload_n hx hb d_WM_man_6 rfl (lv_at hl 0 rfl) ?_
    refine lv_ifnonnull (tgt := 13) hx hb d_WM_man_7 (by decide) ?_
    refine lv_iload_n hx hb d_WM_man_13 rfl (lv_at hl 3 rfl) ?_
    by_cases c_2 : p_1 = 0
    · have hQ := hQ.1 c_2
      refine lv_tableIn (off := 42) (tgt := 56) hx hb d_WM_man_14 (by rw [c_2]; decide +kernel) (by rw [c_2]; decide +kernel) (by rw [c_2]; decide +kernel) (by decide) ?_
      refine lv_aload_n hx hb d_WM_man_56 rfl (lv_at hl 0 rfl) ?_
      refine tw_geti (D := (dC, dI)) (C := R_Mn) (T := F_Mn) (N := 8) (ci := 2) (kd := 20) (ct := ct) hx hb htb i_Mn hown hK hP hO_0 m_1 rfl rfl 0 (by decide) (htb (.fieldLink R_WM 111 "WaterMen$Man" "state" "I") tw_402) (fun _ h9 => h9) rfl d_WM_man_57 (fun x_3 e_3 b_3 => ?_)
      have hQ := hQ x_3 e_3
      exact W.iret (v := x_3) hx hb hr (fun t ht hW => ⟨x_3, rfl, ⟨trivial, hQ⟩, ht⟩) t_nil d_WM_man_60
    · have hQ := hQ.2 c_2
      by_cases c_4 : p_1 = 1
      · have hQ := hQ.1 c_4
        refine lv_tableIn (off := 47) (tgt := 61) hx hb d_WM_man_14 (by rw [c_4]; decide +kernel) (by rw [c_4]; decide +kernel) (by rw [c_4]; decide +kernel) (by decide) ?_
        refine lv_aload_n hx hb d_WM_man_61 rfl (lv_at hl 0 rfl) ?_
        refine tw_getq (D := (dC, dI)) (C := R_Mn) (T := F_Mn) (N := 8) (ci := 2) (kd := 20) (ct := ct) hx hb htb i_Mn hown hK hP hO_0 m_1 rfl rfl 1 (by decide) (htb (.fieldLink R_WM 119 "WaterMen$Man" "bond" "LWaterMen$Bond;") tw_418) (fun _ h9 => h9) rfl d_WM_man_62 (fun e_5 => ?_) (fun q_5 e_5 m_5 => ?_)
        · have hQ := hQ.1 e_5
          refine lv_ifnullN (tgt := 86) hx hb d_WM_man_65 (by decide) ?_
          refine lv_iconst (v := (-1)) hx hb d_WM_man_86 (by decide +kernel) ?_
          exact W.iret (v := (-1)) hx hb hr (fun t ht hW => ⟨(-1), rfl, ⟨trivial, hQ⟩, ht⟩) t_nil d_WM_man_87
        · have hQ := hQ.2 q_5 e_5
          refine lv_ifnull hx hb d_WM_man_65 ?_
          refine lv_aload_n hx hb d_WM_man_68 rfl (lv_at hl 0 rfl) ?_
          refine tw_geti (D := (dC, dI)) (C := R_Mn) (T := F_Mn) (N := 8) (ci := 2) (kd := 20) (ct := ct) hx hb htb i_Mn hown hK hP hO_0 m_1 rfl rfl 0 (by decide) (htb (.fieldLink R_WM 111 "WaterMen$Man" "state" "I") tw_402) (fun _ h9 => h9) rfl d_WM_man_69 (fun x_6 e_6 b_6 => ?_)
          have hQ := hQ x_6 e_6
          refine lv_iconst (v := 1) hx hb d_WM_man_72 (by decide +kernel) ?_
          refine lv_icmp_ne (tgt := 86) hx hb d_WM_man_73 (by decide) (fun c_7 => ?_) (fun c_7 => ?_)
          · have hQ := hQ.2 c_7
            refine lv_iconst (v := (-1)) hx hb d_WM_man_86 (by decide +kernel) ?_
            exact W.iret (v := (-1)) hx hb hr (fun t ht hW => ⟨(-1), rfl, ⟨trivial, hQ⟩, ht⟩) t_nil d_WM_man_87
          · have hQ := hQ.1 c_7
            refine lv_aload_n hx hb d_WM_man_76 rfl (lv_at hl 0 rfl) ?_
            refine tw_getR (D := (dC, dI)) (C := R_Mn) (T := F_Mn) (N := 8) (ci := 2) (kd := 20) (ct := ct) hx hb htb i_Mn hown hK hP m_1 rfl rfl 1 e_5 (by decide) (htb (.fieldLink R_WM 119 "WaterMen$Man" "bond" "LWaterMen$Bond;") tw_418) (fun _ h9 => h9) rfl d_WM_man_77 ?_
            refine hb_tv (.ref q_5) rfl ?_
            refine tw_geti (D := (dC, dI)) (C := R_Bd) (T := F_Bd) (N := 5) (ci := 8) (kd := 21) (ct := ct) hx hb htb i_Bd hown hK hP hO_0 m_5 rfl rfl 0 (by decide) (htb (.fieldLink R_WM 142 "WaterMen$Bond" "master" "I") tw_683) (fun _ h9 => h9) rfl d_WM_man_80 (fun x_8 e_8 b_8 => ?_)
            have hQ := hQ x_8 e_8
            refine lv_goto (tgt := 87) hx hb d_WM_man_83 (by decide) ?_
            exact W.iret (v := x_8) hx hb hr (fun t ht hW => ⟨x_8, rfl, ⟨trivial, hQ⟩, ht⟩) t_nil d_WM_man_87
      · have hQ := hQ.2 c_4
        by_cases c_9 : p_1 = 2
        · have hQ := hQ.1 c_9
          refine lv_tableIn (off := 74) (tgt := 88) hx hb d_WM_man_14 (by rw [c_9]; decide +kernel) (by rw [c_9]; decide +kernel) (by rw [c_9]; decide +kernel) (by decide) ?_
          refine lv_aload_n hx hb d_WM_man_88 rfl (lv_at hl 0 rfl) ?_
          refine tw_geti (D := (dC, dI)) (C := R_Mn) (T := F_Mn) (N := 8) (ci := 2) (kd := 20) (ct := ct) hx hb htb i_Mn hown hK hP hO_0 m_1 rfl rfl 2 (by decide) (htb (.fieldLink R_WM 145 "WaterMen$Man" "turnStairs" "I") tw_491) (fun _ h9 => h9) rfl d_WM_man_89 (fun x_10 e_10 b_10 => ?_)
          have hQ := hQ x_10 e_10
          exact W.iret (v := x_10) hx hb hr (fun t ht hW => ⟨x_10, rfl, ⟨trivial, hQ⟩, ht⟩) t_nil d_WM_man_92
        · have hQ := hQ.2 c_9
          by_cases c_11 : p_1 = 3
          · have hQ := hQ.1 c_11
            refine lv_tableIn (off := 79) (tgt := 93) hx hb d_WM_man_14 (by rw [c_11]; decide +kernel) (by rw [c_11]; decide +kernel) (by rw [c_11]; decide +kernel) (by decide) ?_
            refine lv_aload_n hx hb d_WM_man_93 rfl (lv_at hl 1 rfl) ?_
            refine lv_aload_n hx hb d_WM_man_94 rfl (lv_at hl 0 rfl) ?_
            refine vp_callSi (va_Run.run (va_runV (As := [.ref q_1]) (rest := []) ⟨hx, hb, hml, hown, htb⟩ (c_WM_placeInTurns_w l dC dI ct L f hO_0 q0 m0 q_1 m_1 _ hQ) (cwV 1 htb (gd_V tw_495 tw_496 tw_497 tw_25 tw_494) rfl rfl rfl (by decide +kernel) ⟨Nat.le_of_ble_eq_true rfl, Nat.le_of_ble_eq_true rfl⟩) ⟨pr_blind, tw_recv hK hP m0 rfl rfl, pr_pre hP hK hN⟩ rfl rfl hl.1 rfl (lv_room (Nat.le_of_ble_eq_true rfl)) d_WM_man_95 ⟨Nat.le_of_ble_eq_true rfl, Nat.le_of_ble_eq_true rfl⟩)) (fun r_12 er_12 => ?_)
            obtain ⟨er_12, hQ⟩ := er_12
            clear er_12
            exact W.iret (v := r_12) hx hb hr (fun t ht hW => ⟨r_12, rfl, ⟨trivial, hQ⟩, ht⟩) t_nil d_WM_man_98
          · have hQ := hQ.2 c_11
            by_cases c_13 : p_1 = 4
            · have hQ := hQ.1 c_13
              refine lv_tableIn (off := 85) (tgt := 99) hx hb d_WM_man_14 (by rw [c_13]; decide +kernel) (by rw [c_13]; decide +kernel) (by rw [c_13]; decide +kernel) (by decide) ?_
              refine lv_aload_n hx hb d_WM_man_99 rfl (lv_at hl 0 rfl) ?_
              refine tw_geti (D := (dC, dI)) (C := R_Mn) (T := F_Mn) (N := 8) (ci := 2) (kd := 20) (ct := ct) hx hb htb i_Mn hown hK hP hO_0 m_1 rfl rfl 4 (by decide) (htb (.fieldLink R_WM 152 "WaterMen$Man" "coins" "I") tw_136) (fun _ h9 => h9) rfl d_WM_man_100 (fun x_14 e_14 b_14 => ?_)
              have hQ := hQ x_14 e_14
              exact W.iret (v := x_14) hx hb hr (fun t ht hW => ⟨x_14, rfl, ⟨trivial, hQ⟩, ht⟩) t_nil d_WM_man_103
            · have hQ := hQ.2 c_13
              by_cases c_15 : p_1 = 5
              · have hQ := hQ.1 c_15
                refine lv_tableIn (off := 90) (tgt := 104) hx hb d_WM_man_14 (by rw [c_15]; decide +kernel) (by rw [c_15]; decide +kernel) (by rw [c_15]; decide +kernel) (by decide) ?_
                refine lv_aload_n hx hb d_WM_man_104 rfl (lv_at hl 0 rfl) ?_
                refine lv_aload_n hx hb d_WM_man_105 rfl (lv_at hl 1 rfl) ?_
                refine tw_geti (D := (dC, dI)) (C := R_WM) (T := F_WM) (N := 13) (ci := 0) (kd := 0) (ct := ct) hx hb htb i_WM hown hK hP hO_0 m0 rfl rfl 10 (by decide) (htb (.fieldLink R_WM 155 "WaterMen" "now" "I") tw_70) (fun _ h9 => h9) rfl d_WM_man_106 (fun x_16 e_16 b_16 => ?_)
                have hQ := hQ x_16 e_16
                refine vp_callSi (va_Run.run (va_runV (As := [.int x_16]) (rest := []) ⟨hx, hb, hml, hown, htb⟩ (c_Mn_isOnWay_w l dC dI ct L f hO_0 q_1 m_1 x_16 _ hQ) (cwV 1 htb (gd_V tw_488 tw_489 tw_490 tw_487 tw_486) rfl rfl rfl (by decide +kernel) ⟨Nat.le_of_ble_eq_true rfl, Nat.le_of_ble_eq_true rfl⟩) ⟨pr_blind, tw_recv hK hP m_1 rfl rfl, pr_pre hP hK hN⟩ rfl rfl hl.1 rfl (lv_room (Nat.le_of_ble_eq_true rfl)) d_WM_man_109 ⟨Nat.le_of_ble_eq_true rfl, Nat.le_of_ble_eq_true rfl⟩)) (fun r_17 er_17 => ?_)
                obtain ⟨er_17, hQ⟩ := er_17
                rcases er_17 with ⟨rfl, -⟩ | ⟨rfl, -⟩
                · have hQ := hQ.1 rfl
                  refine lv_if_eq (tgt := 119) hx hb d_WM_man_112 (by decide) (fun _ => ?_) (fun h => absurd (by decide +kernel) h)
                  refine lv_iconst (v := 0) hx hb d_WM_man_119 (by decide +kernel) ?_
                  exact W.iret (v := 0) hx hb hr (fun t ht hW => ⟨0, rfl, ⟨trivial, hQ⟩, ht⟩) t_nil d_WM_man_120
                · have hQ := hQ.2 rfl
                  refine lv_if_eq (tgt := 119) hx hb d_WM_man_112 (by decide) (fun h => absurd h (by decide +kernel)) (fun _ => ?_)
                  refine lv_iconst (v := 1) hx hb d_WM_man_115 (by decide +kernel) ?_
                  refine lv_goto (tgt := 120) hx hb d_WM_man_116 (by decide) ?_
                  exact W.iret (v := 1) hx hb hr (fun t ht hW => ⟨1, rfl, ⟨trivial, hQ⟩, ht⟩) t_nil d_WM_man_120
              · have hQ := hQ.2 c_15
                by_cases c_18 : p_1 = 6
                · have hQ := hQ.1 c_18
                  refine lv_tableIn (off := 107) (tgt := 121) hx hb d_WM_man_14 (by rw [c_18]; decide +kernel) (by rw [c_18]; decide +kernel) (by rw [c_18]; decide +kernel) (by decide) ?_
                  refine lv_aload_n hx hb d_WM_man_121 rfl (lv_at hl 0 rfl) ?_
                  refine tw_geti (D := (dC, dI)) (C := R_Mn) (T := F_Mn) (N := 8) (ci := 2) (kd := 20) (ct := ct) hx hb htb i_Mn hown hK hP hO_0 m_1 rfl rfl 6 (by decide) (htb (.fieldLink R_WM 161 "WaterMen$Man" "tripCount" "I") tw_684) (fun _ h9 => h9) rfl d_WM_man_122 (fun x_19 e_19 b_19 => ?_)
                  have hQ := hQ x_19 e_19
                  exact W.iret (v := x_19) hx hb hr (fun t ht hW => ⟨x_19, rfl, ⟨trivial, hQ⟩, ht⟩) t_nil d_WM_man_125
                · have hQ := hQ.2 c_18
                  refine lv_tableOut (tgt := 126) hx hb d_WM_man_14 (by have h0 := lv_neT c_2 (show (0 : Int32).toInt = 0 by decide +kernel); have h1 := lv_neT c_4 (show (1 : Int32).toInt = 1 by decide +kernel); have h2 := lv_neT c_9 (show (2 : Int32).toInt = 2 by decide +kernel); have h3 := lv_neT c_11 (show (3 : Int32).toInt = 3 by decide +kernel); have h4 := lv_neT c_13 (show (4 : Int32).toInt = 4 by decide +kernel); have h5 := lv_neT c_15 (show (5 : Int32).toInt = 5 by decide +kernel); have h6 := lv_neT c_18 (show (6 : Int32).toInt = 6 by decide +kernel); omega) (by decide) ?_
                  refine lv_bipush (v := (-2)) hx hb d_WM_man_126 (by decide +kernel) ?_
                  exact W.iret (v := (-2)) hx hb hr (fun t ht hW => ⟨(-2), rfl, ⟨trivial, hQ⟩, ht⟩) t_nil d_WM_man_128
def wp_Md_man_w (L : List Nat) (f : TF) (q0 : Nat) (p_0 : Int32) (p_1 : Int32) (Q : Int32 → Prop) : Prop := ((p_0 < 0 → Q (-2)) ∧ (¬ (p_0 < 0) → ((39 < p_0 → Q (-2)) ∧ (¬ (39 < p_0) → ((p_1 = 0 → ∀ q_5 : Nat, tr f q0 9 = some q_5 → ∀ x_6 : Int32, ti f q_5 (p_0 : Int32).toNatClampNeg = x_6 → Q x_6) ∧ (¬ (p_1 = 0) → ((p_1 = 1 → ∀ q_8 : Nat, tr f q0 10 = some q_8 → ∀ x_9 : Int32, ti f q_8 (p_0 : Int32).toNatClampNeg = x_9 → Q x_9) ∧ (¬ (p_1 = 1) → ((p_1 = 2 → wp_Md_rowOf_w L f q0 p_0 (fun (r_11 : Int32) => ((r_11 = (-1) → Q (-1)) ∧ (¬ (r_11 = (-1)) → Q r_11)))) ∧ (¬ (p_1 = 2) → ((p_1 = 3 → wp_Md_placeOf_w L f q0 p_0 (fun (r_18 : Int32) => ((r_18 = (-1) → Q (-1)) ∧ (¬ (r_18 = (-1)) → Q r_18)))) ∧ (¬ (p_1 = 3) → ((p_1 = 4 → ∀ q_23 : Nat, tr f q0 15 = some q_23 → ∀ x_24 : Int32, ti f q_23 (p_0 : Int32).toNatClampNeg = x_24 → Q x_24) ∧ (¬ (p_1 = 4) → ((p_1 = 5 → ∀ q_26 : Nat, tr f q0 16 = some q_26 → ∀ x_27 : Int32, ti f q_26 (p_0 : Int32).toNatClampNeg = x_27 → ((x_27 < 0 → Q 0) ∧ (¬ (x_27 < 0) → Q 1))) ∧ (¬ (p_1 = 5) → ((p_1 = 6 → ∀ q_30 : Nat, tr f q0 17 = some q_30 → ∀ x_31 : Int32, ti f q_30 (p_0 : Int32).toNatClampNeg = x_31 → Q x_31) ∧ (¬ (p_1 = 6) → Q (-2)))))))))))))))))))
set_option maxHeartbeats 4000000 in
set_option maxRecDepth 100000 in
theorem c_Md_man_w (l : Launch) (dC : Nat → ClassId) (dI : Nat → Nat → Nat) (ct : Nat → ClassId) (L : List Nat) (f : TF) (hO_0 : Ok L f) (q0 : Nat) (m0 : q0 ∈ L ∧ tk f q0 = 27) (p_0 : Int32) (p_1 : Int32)   (Q : Int32 → Prop) (hQ : wp_Md_man_w L f q0 p_0 p_1 Q) : Met l y_Md_man (.code y_Md_man b_Md_man 3 (some .int) :: TB) ({ frames := 2, cells := 0, slots := 0, locals := 46 }) (va_Pc [.ref q0, .int p_0, .int p_1] (PR dC dI (TW ct L f) (TT ct))) (vp_Si (fun r => (True) ∧ Q r)) 0 0 (fun _ => False) := by
  refine Met.ofW (cc := b_Md_man) (maxL := 3) (ret := (some .int)) (by decide) rfl ?_
  intro p e s m args below meth c s₁ B hml hv
  obtain ⟨rfl, hP, hK, hN⟩ := hv
  have hx := B.exec
  have hb := B.bytes
  have hr := B.returns
  have hts := atoms_spec (ws := (.code y_Md_man b_Md_man 3 (some .int) :: TB)) B.pre
  have htb := fun w (h : w ∈ TB) => hts w (List.mem_cons_of_mem _ h)
  have hown : s.vm.findClass R_Md = some m.cls := findClass_of_methodNamed B.named
  have hlocks := B.notSynchronized
  have hl := lv_entry ([.ref q0, .int p_0, .int p_1]) (n := 3) (Nat.le_of_ble_eq_true rfl)
  rw [lg_entry_eq]
  generalize (lg_sl ([.ref q0, .int p_0, .int p_1]) ++ List.replicate (3 - (lg_sl ([.ref q0, .int p_0, .int p_1])).length) Slot.unset).toArray = ls at hl ⊢
  have hl : lv_has ls 3 [(0, .ref q0), (1, .int p_0), (2, .int p_1)] := hl
  unfold wp_Md_man_w at hQ
  refine lv_iload_n hx hb d_Md_man_0 rfl (lv_at hl 1 rfl) ?_
  refine vp_callSi (va_Run.run (va_runS (As := [.int p_0]) (rest := []) ⟨hx, hb, hml, hown, htb⟩ (c_Md_isMan l p_0) (cwS 1 htb (gd_S tw_404 tw_405 tw_44 tw_403) rfl rfl rfl (by decide +kernel) ⟨Nat.le_of_ble_eq_true rfl, Nat.le_of_ble_eq_true rfl⟩) ⟨fun _ _ _ _ h => h, fun U _ _ => ⟨rfl, trivial⟩⟩ rfl rfl hl.1 rfl (lv_room (Nat.le_of_ble_eq_true rfl)) d_Md_man_1 ⟨Nat.le_of_ble_eq_true rfl, Nat.le_of_ble_eq_true rfl⟩)) (fun r er => ?_)
  subst er
  by_cases c_2 : p_0 < 0
  · have hQ := hQ.1 c_2
    refine hb_ti 0 (by unfold f_Md_isMan; rw [if_pos c_2]; first | done | rfl) ?_
    refine lv_if_ne (tgt := 10) hx hb d_Md_man_4 (by decide) (fun h => absurd (by decide +kernel) h) (fun _ => ?_)
    refine lv_bipush (v := (-2)) hx hb d_Md_man_7 (by decide +kernel) ?_
    exact W.iret (v := (-2)) hx hb hr (fun t ht hW => ⟨(-2), rfl, ⟨trivial, hQ⟩, ht⟩) t_nil d_Md_man_9
  · have hQ := hQ.2 c_2
    by_cases c_3 : 39 < p_0
    · have hQ := hQ.1 c_3
      refine hb_ti 0 (by unfold f_Md_isMan; rw [if_neg c_2, if_pos c_3]; first | done | rfl) ?_
      refine lv_if_ne (tgt := 10) hx hb d_Md_man_4 (by decide) (fun h => absurd (by decide +kernel) h) (fun _ => ?_)
      refine lv_bipush (v := (-2)) hx hb d_Md_man_7 (by decide +kernel) ?_
      exact W.iret (v := (-2)) hx hb hr (fun t ht hW => ⟨(-2), rfl, ⟨trivial, hQ⟩, ht⟩) t_nil d_Md_man_9
    · have hQ := hQ.2 c_3
      refine hb_ti 1 (by unfold f_Md_isMan; rw [if_neg c_2, if_neg c_3]; first | done | rfl) ?_
      refine lv_if_ne (tgt := 10) hx hb d_Md_man_4 (by decide) (fun _ => ?_) (fun h => absurd h (by decide +kernel))
      refine lv_iload_n hx hb d_Md_man_10 rfl (lv_at hl 2 rfl) ?_
      by_cases c_4 : p_1 = 0
      · have hQ := hQ.1 c_4
        refine lv_tableIn (off := 41) (tgt := 52) hx hb d_Md_man_11 (by rw [c_4]; decide +kernel) (by rw [c_4]; decide +kernel) (by rw [c_4]; decide +kernel) (by decide) ?_
        refine lv_aload_n hx hb d_Md_man_52 rfl (lv_at hl 0 rfl) ?_
        refine tw_getr (D := (dC, dI)) (C := R_Md) (T := F_Md) (N := 64) (ci := 7) (kd := 27) (ct := ct) hx hb htb i_Md hown hK hP hO_0 m0 rfl rfl 9 (by decide) (htb (.fieldLink R_Md 58 "WaterMenModel" "state" "[I") tw_406) (fun _ h9 => h9) rfl d_Md_man_53 (fun q_5 e_5 m_5 => ?_)
        have hQ := hQ q_5 e_5
        refine lv_iload_n hx hb d_Md_man_56 rfl (lv_at hl 1 rfl) ?_
        refine tw_aldI (ct := ct) hx hb hK hP hO_0 m_5 rfl (hb_inl c_2 c_3 (by decide +kernel)) d_Md_man_57 (fun x_6 e_6 b_6 => ?_)
        have hQ := hQ x_6 e_6
        exact W.iret (v := x_6) hx hb hr (fun t ht hW => ⟨x_6, rfl, ⟨trivial, hQ⟩, ht⟩) t_nil d_Md_man_58
      · have hQ := hQ.2 c_4
        by_cases c_7 : p_1 = 1
        · have hQ := hQ.1 c_7
          refine lv_tableIn (off := 48) (tgt := 59) hx hb d_Md_man_11 (by rw [c_7]; decide +kernel) (by rw [c_7]; decide +kernel) (by rw [c_7]; decide +kernel) (by decide) ?_
          refine lv_aload_n hx hb d_Md_man_59 rfl (lv_at hl 0 rfl) ?_
          refine tw_getr (D := (dC, dI)) (C := R_Md) (T := F_Md) (N := 64) (ci := 7) (kd := 27) (ct := ct) hx hb htb i_Md hown hK hP hO_0 m0 rfl rfl 10 (by decide) (htb (.fieldLink R_Md 61 "WaterMenModel" "master" "[I") tw_419) (fun _ h9 => h9) rfl d_Md_man_60 (fun q_8 e_8 m_8 => ?_)
          have hQ := hQ q_8 e_8
          refine lv_iload_n hx hb d_Md_man_63 rfl (lv_at hl 1 rfl) ?_
          refine tw_aldI (ct := ct) hx hb hK hP hO_0 m_8 rfl (hb_inl c_2 c_3 (by decide +kernel)) d_Md_man_64 (fun x_9 e_9 b_9 => ?_)
          have hQ := hQ x_9 e_9
          exact W.iret (v := x_9) hx hb hr (fun t ht hW => ⟨x_9, rfl, ⟨trivial, hQ⟩, ht⟩) t_nil d_Md_man_65
        · have hQ := hQ.2 c_7
          by_cases c_10 : p_1 = 2
          · have hQ := hQ.1 c_10
            refine lv_tableIn (off := 55) (tgt := 66) hx hb d_Md_man_11 (by rw [c_10]; decide +kernel) (by rw [c_10]; decide +kernel) (by rw [c_10]; decide +kernel) (by decide) ?_
            refine lv_aload_n hx hb d_Md_man_66 rfl (lv_at hl 0 rfl) ?_
            refine lv_iload_n hx hb d_Md_man_67 rfl (lv_at hl 1 rfl) ?_
            refine vp_callSi (va_Run.run (va_runV (As := [.int p_0]) (rest := []) ⟨hx, hb, hml, hown, htb⟩ (c_Md_rowOf_w l dC dI ct L f hO_0 q0 m0 p_0 _ hQ) (cwV 1 htb (gd_V tw_501 tw_502 tw_503 tw_44 tw_500) rfl rfl rfl (by decide +kernel) ⟨Nat.le_of_ble_eq_true rfl, Nat.le_of_ble_eq_true rfl⟩) ⟨pr_blind, tw_recv hK hP m0 rfl rfl, pr_pre hP hK hN⟩ rfl rfl hl.1 rfl (lv_room (Nat.le_of_ble_eq_true rfl)) d_Md_man_68 ⟨Nat.le_of_ble_eq_true rfl, Nat.le_of_ble_eq_true rfl⟩)) (fun r_11 er_11 => ?_)
            obtain ⟨er_11, hQ⟩ := er_11
            rcases er_11 with ⟨rfl, ra_12, -⟩ | ⟨po_13, po_14, po_15, ra_16, -⟩
            · have hQ := hQ.1 rfl
              exact W.iret (v := (-1)) hx hb hr (fun t ht hW => ⟨(-1), rfl, ⟨trivial, hQ⟩, ht⟩) t_nil d_Md_man_71
            · have hQ := hQ.2 (fun e9 => po_13 (by rw [e9]; decide))
              exact W.iret (v := r_11) hx hb hr (fun t ht hW => ⟨r_11, rfl, ⟨trivial, hQ⟩, ht⟩) t_nil d_Md_man_71
          · have hQ := hQ.2 c_10
            by_cases c_17 : p_1 = 3
            · have hQ := hQ.1 c_17
              refine lv_tableIn (off := 61) (tgt := 72) hx hb d_Md_man_11 (by rw [c_17]; decide +kernel) (by rw [c_17]; decide +kernel) (by rw [c_17]; decide +kernel) (by decide) ?_
              refine lv_aload_n hx hb d_Md_man_72 rfl (lv_at hl 0 rfl) ?_
              refine lv_iload_n hx hb d_Md_man_73 rfl (lv_at hl 1 rfl) ?_
              refine vp_callSi (va_Run.run (va_runV (As := [.int p_0]) (rest := []) ⟨hx, hb, hml, hown, htb⟩ (c_Md_placeOf_w l dC dI ct L f hO_0 q0 m0 p_0 _ hQ) (cwV 1 htb (gd_V tw_505 tw_506 tw_507 tw_44 tw_504) rfl rfl rfl (by decide +kernel) ⟨Nat.le_of_ble_eq_true rfl, Nat.le_of_ble_eq_true rfl⟩) ⟨pr_blind, tw_recv hK hP m0 rfl rfl, pr_pre hP hK hN⟩ rfl rfl hl.1 rfl (lv_room (Nat.le_of_ble_eq_true rfl)) d_Md_man_74 ⟨Nat.le_of_ble_eq_true rfl, Nat.le_of_ble_eq_true rfl⟩)) (fun r_18 er_18 => ?_)
              obtain ⟨er_18, hQ⟩ := er_18
              rcases er_18 with ⟨rfl, ra_19, -⟩ | ⟨po_20, po_21, -⟩
              · have hQ := hQ.1 rfl
                exact W.iret (v := (-1)) hx hb hr (fun t ht hW => ⟨(-1), rfl, ⟨trivial, hQ⟩, ht⟩) t_nil d_Md_man_77
              · have hQ := hQ.2 (fun e9 => po_20 (by rw [e9]; decide))
                exact W.iret (v := r_18) hx hb hr (fun t ht hW => ⟨r_18, rfl, ⟨trivial, hQ⟩, ht⟩) t_nil d_Md_man_77
            · have hQ := hQ.2 c_17
              by_cases c_22 : p_1 = 4
              · have hQ := hQ.1 c_22
                refine lv_tableIn (off := 67) (tgt := 78) hx hb d_Md_man_11 (by rw [c_22]; decide +kernel) (by rw [c_22]; decide +kernel) (by rw [c_22]; decide +kernel) (by decide) ?_
                refine lv_aload_n hx hb d_Md_man_78 rfl (lv_at hl 0 rfl) ?_
                refine tw_getr (D := (dC, dI)) (C := R_Md) (T := F_Md) (N := 64) (ci := 7) (kd := 27) (ct := ct) hx hb htb i_Md hown hK hP hO_0 m0 rfl rfl 15 (by decide) (htb (.fieldLink R_Md 76 "WaterMenModel" "coins" "[I") tw_178) (fun _ h9 => h9) rfl d_Md_man_79 (fun q_23 e_23 m_23 => ?_)
                have hQ := hQ q_23 e_23
                refine lv_iload_n hx hb d_Md_man_82 rfl (lv_at hl 1 rfl) ?_
                refine tw_aldI (ct := ct) hx hb hK hP hO_0 m_23 rfl (hb_inl c_2 c_3 (by decide +kernel)) d_Md_man_83 (fun x_24 e_24 b_24 => ?_)
                have hQ := hQ x_24 e_24
                exact W.iret (v := x_24) hx hb hr (fun t ht hW => ⟨x_24, rfl, ⟨trivial, hQ⟩, ht⟩) t_nil d_Md_man_84
              · have hQ := hQ.2 c_22
                by_cases c_25 : p_1 = 5
                · have hQ := hQ.1 c_25
                  refine lv_tableIn (off := 74) (tgt := 85) hx hb d_Md_man_11 (by rw [c_25]; decide +kernel) (by rw [c_25]; decide +kernel) (by rw [c_25]; decide +kernel) (by decide) ?_
                  refine lv_aload_n hx hb d_Md_man_85 rfl (lv_at hl 0 rfl) ?_
                  refine tw_getr (D := (dC, dI)) (C := R_Md) (T := F_Md) (N := 64) (ci := 7) (kd := 27) (ct := ct) hx hb htb i_Md hown hK hP hO_0 m0 rfl rfl 16 (by decide) (htb (.fieldLink R_Md 79 "WaterMenModel" "wayOf" "[I") tw_159) (fun _ h9 => h9) rfl d_Md_man_86 (fun q_26 e_26 m_26 => ?_)
                  have hQ := hQ q_26 e_26
                  refine lv_iload_n hx hb d_Md_man_89 rfl (lv_at hl 1 rfl) ?_
                  refine tw_aldI (ct := ct) hx hb hK hP hO_0 m_26 rfl (hb_inl c_2 c_3 (by decide +kernel)) d_Md_man_90 (fun x_27 e_27 b_27 => ?_)
                  have hQ := hQ x_27 e_27
                  refine lv_if_lt (tgt := 98) hx hb d_Md_man_91 (by decide) (fun c_28 => ?_) (fun c_28 => ?_)
                  · have hQ := hQ.1 c_28
                    refine lv_iconst (v := 0) hx hb d_Md_man_98 (by decide +kernel) ?_
                    exact W.iret (v := 0) hx hb hr (fun t ht hW => ⟨0, rfl, ⟨trivial, hQ⟩, ht⟩) t_nil d_Md_man_99
                  · have hQ := hQ.2 c_28
                    refine lv_iconst (v := 1) hx hb d_Md_man_94 (by decide +kernel) ?_
                    refine lv_goto (tgt := 99) hx hb d_Md_man_95 (by decide) ?_
                    exact W.iret (v := 1) hx hb hr (fun t ht hW => ⟨1, rfl, ⟨trivial, hQ⟩, ht⟩) t_nil d_Md_man_99
                · have hQ := hQ.2 c_25
                  by_cases c_29 : p_1 = 6
                  · have hQ := hQ.1 c_29
                    refine lv_tableIn (off := 89) (tgt := 100) hx hb d_Md_man_11 (by rw [c_29]; decide +kernel) (by rw [c_29]; decide +kernel) (by rw [c_29]; decide +kernel) (by decide) ?_
                    refine lv_aload_n hx hb d_Md_man_100 rfl (lv_at hl 0 rfl) ?_
                    refine tw_getr (D := (dC, dI)) (C := R_Md) (T := F_Md) (N := 64) (ci := 7) (kd := 27) (ct := ct) hx hb htb i_Md hown hK hP hO_0 m0 rfl rfl 17 (by decide) (htb (.fieldLink R_Md 82 "WaterMenModel" "tripsOf" "[I") tw_608) (fun _ h9 => h9) rfl d_Md_man_101 (fun q_30 e_30 m_30 => ?_)
                    have hQ := hQ q_30 e_30
                    refine lv_iload_n hx hb d_Md_man_104 rfl (lv_at hl 1 rfl) ?_
                    refine tw_aldI (ct := ct) hx hb hK hP hO_0 m_30 rfl (hb_inl c_2 c_3 (by decide +kernel)) d_Md_man_105 (fun x_31 e_31 b_31 => ?_)
                    have hQ := hQ x_31 e_31
                    exact W.iret (v := x_31) hx hb hr (fun t ht hW => ⟨x_31, rfl, ⟨trivial, hQ⟩, ht⟩) t_nil d_Md_man_106
                  · have hQ := hQ.2 c_29
                    refine lv_tableOut (tgt := 107) hx hb d_Md_man_11 (by have h0 := lv_neT c_4 (show (0 : Int32).toInt = 0 by decide +kernel); have h1 := lv_neT c_7 (show (1 : Int32).toInt = 1 by decide +kernel); have h2 := lv_neT c_10 (show (2 : Int32).toInt = 2 by decide +kernel); have h3 := lv_neT c_17 (show (3 : Int32).toInt = 3 by decide +kernel); have h4 := lv_neT c_22 (show (4 : Int32).toInt = 4 by decide +kernel); have h5 := lv_neT c_25 (show (5 : Int32).toInt = 5 by decide +kernel); have h6 := lv_neT c_29 (show (6 : Int32).toInt = 6 by decide +kernel); omega) (by decide) ?_
                    refine lv_bipush (v := (-2)) hx hb d_Md_man_107 (by decide +kernel) ?_
                    exact W.iret (v := (-2)) hx hb hr (fun t ht hW => ⟨(-2), rfl, ⟨trivial, hQ⟩, ht⟩) t_nil d_Md_man_109
