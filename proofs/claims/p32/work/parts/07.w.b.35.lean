def wp_Md_count_w (L : List Nat) (f : TF) (q0 : Nat) (p_0 : Int32) (Q : Int32 → Prop) : Prop := ((p_0 = 0 → ∀ x_2 : Int32, ti f q0 2 = x_2 → Q x_2) ∧ (¬ (p_0 = 0) → ((p_0 = 1 → ∀ x_4 : Int32, ti f q0 21 = x_4 → Q x_4) ∧ (¬ (p_0 = 1) → ((p_0 = 2 → ∀ x_6 : Int32, ti f q0 47 = x_6 → Q x_6) ∧ (¬ (p_0 = 2) → ((p_0 = 3 → ∀ x_8 : Int32, ti f q0 29 = x_8 → Q x_8) ∧ (¬ (p_0 = 3) → ((p_0 = 4 → ∀ x_10 : Int32, ti f q0 1 = x_10 → Q x_10) ∧ (¬ (p_0 = 4) → ((p_0 = 5 → wp_Md_menAs_w L f q0 (2 : Int32) (fun (r_12 : Int32) => Q r_12)) ∧ (¬ (p_0 = 5) → ((p_0 = 6 → wp_Md_menAs_w L f q0 (1 : Int32) (fun (r_14 : Int32) => Q r_14)) ∧ (¬ (p_0 = 6) → ((p_0 = 7 → wp_Md_menAs_w L f q0 (3 : Int32) (fun (r_16 : Int32) => Q r_16)) ∧ (¬ (p_0 = 7) → ((p_0 = 8 → ∀ x_18 : Int32, ti f q0 60 = x_18 → Q x_18) ∧ (¬ (p_0 = 8) → ((p_0 = 9 → ∀ x_20 : Int32, ti f q0 28 = x_20 → Q x_20) ∧ (¬ (p_0 = 9) → Q (-1)))))))))))))))))))))
set_option maxHeartbeats 4000000 in
set_option maxRecDepth 100000 in
theorem c_Md_count_w (l : Launch) (dC : Nat → ClassId) (dI : Nat → Nat → Nat) (ct : Nat → ClassId) (L : List Nat) (f : TF) (hO_0 : Ok L f) (q0 : Nat) (m0 : q0 ∈ L ∧ tk f q0 = 27) (p_0 : Int32)   (Q : Int32 → Prop) (hQ : wp_Md_count_w L f q0 p_0 Q) : Met l y_Md_count (.code y_Md_count b_Md_count 2 (some .int) :: TB) ({ frames := 1, cells := 0, slots := 0, locals := 23 }) (va_Pc [.ref q0, .int p_0] (PR dC dI (TW ct L f) (TT ct))) (vp_Si (fun r => (True) ∧ Q r)) 0 0 (fun _ => False) := by
  refine Met.ofW (cc := b_Md_count) (maxL := 2) (ret := (some .int)) (by decide) rfl ?_
  intro p e s m args below meth c s₁ B hml hv
  obtain ⟨rfl, hP, hK, hN⟩ := hv
  have hx := B.exec
  have hb := B.bytes
  have hr := B.returns
  have hts := atoms_spec (ws := (.code y_Md_count b_Md_count 2 (some .int) :: TB)) B.pre
  have htb := fun w (h : w ∈ TB) => hts w (List.mem_cons_of_mem _ h)
  have hown : s.vm.findClass R_Md = some m.cls := findClass_of_methodNamed B.named
  have hlocks := B.notSynchronized
  have hl := lv_entry ([.ref q0, .int p_0]) (n := 2) (Nat.le_of_ble_eq_true rfl)
  rw [lg_entry_eq]
  generalize (lg_sl ([.ref q0, .int p_0]) ++ List.replicate (2 - (lg_sl ([.ref q0, .int p_0])).length) Slot.unset).toArray = ls at hl ⊢
  have hl : lv_has ls 2 [(0, .ref q0), (1, .int p_0)] := hl
  unfold wp_Md_count_w at hQ
  refine lv_iload_n hx hb d_Md_count_0 rfl (lv_at hl 1 rfl) ?_
  by_cases c_1 : p_0 = 0
  · have hQ := hQ.1 c_1
    refine lv_tableIn (off := 55) (tgt := 56) hx hb d_Md_count_1 (by rw [c_1]; decide +kernel) (by rw [c_1]; decide +kernel) (by rw [c_1]; decide +kernel) (by decide) ?_
    refine lv_aload_n hx hb d_Md_count_56 rfl (lv_at hl 0 rfl) ?_
    refine tw_geti (D := (dC, dI)) (C := R_Md) (T := F_Md) (N := 64) (ci := 7) (kd := 27) (ct := ct) hx hb htb i_Md hown hK hP hO_0 m0 rfl rfl 2 (by decide) (htb (.fieldLink R_Md 14 "WaterMenModel" "stairs" "I") tw_57) (fun _ h9 => h9) rfl d_Md_count_57 (fun x_2 e_2 b_2 => ?_)
    have hQ := hQ x_2 e_2
    exact W.iret (v := x_2) hx hb hr (fun t ht hW => ⟨x_2, rfl, ⟨trivial, hQ⟩, ht⟩) t_nil d_Md_count_60
  · have hQ := hQ.2 c_1
    by_cases c_3 : p_0 = 1
    · have hQ := hQ.1 c_3
      refine lv_tableIn (off := 60) (tgt := 61) hx hb d_Md_count_1 (by rw [c_3]; decide +kernel) (by rw [c_3]; decide +kernel) (by rw [c_3]; decide +kernel) (by decide) ?_
      refine lv_aload_n hx hb d_Md_count_61 rfl (lv_at hl 0 rfl) ?_
      refine tw_geti (D := (dC, dI)) (C := R_Md) (T := F_Md) (N := 64) (ci := 7) (kd := 27) (ct := ct) hx hb htb i_Md hown hK hP hO_0 m0 rfl rfl 21 (by decide) (htb (.fieldLink R_Md 206 "WaterMenModel" "boats" "I") tw_194) (fun _ h9 => h9) rfl d_Md_count_62 (fun x_4 e_4 b_4 => ?_)
      have hQ := hQ x_4 e_4
      exact W.iret (v := x_4) hx hb hr (fun t ht hW => ⟨x_4, rfl, ⟨trivial, hQ⟩, ht⟩) t_nil d_Md_count_65
    · have hQ := hQ.2 c_3
      by_cases c_5 : p_0 = 2
      · have hQ := hQ.1 c_5
        refine lv_tableIn (off := 65) (tgt := 66) hx hb d_Md_count_1 (by rw [c_5]; decide +kernel) (by rw [c_5]; decide +kernel) (by rw [c_5]; decide +kernel) (by decide) ?_
        refine lv_aload_n hx hb d_Md_count_66 rfl (lv_at hl 0 rfl) ?_
        refine tw_geti (D := (dC, dI)) (C := R_Md) (T := F_Md) (N := 64) (ci := 7) (kd := 27) (ct := ct) hx hb htb i_Md hown hK hP hO_0 m0 rfl rfl 47 (by decide) (htb (.fieldLink R_Md 313 "WaterMenModel" "trips" "I") tw_604) (fun _ h9 => h9) rfl d_Md_count_67 (fun x_6 e_6 b_6 => ?_)
        have hQ := hQ x_6 e_6
        exact W.iret (v := x_6) hx hb hr (fun t ht hW => ⟨x_6, rfl, ⟨trivial, hQ⟩, ht⟩) t_nil d_Md_count_70
      · have hQ := hQ.2 c_5
        by_cases c_7 : p_0 = 3
        · have hQ := hQ.1 c_7
          refine lv_tableIn (off := 70) (tgt := 71) hx hb d_Md_count_1 (by rw [c_7]; decide +kernel) (by rw [c_7]; decide +kernel) (by rw [c_7]; decide +kernel) (by decide) ?_
          refine lv_aload_n hx hb d_Md_count_71 rfl (lv_at hl 0 rfl) ?_
          refine tw_geti (D := (dC, dI)) (C := R_Md) (T := F_Md) (N := 64) (ci := 7) (kd := 27) (ct := ct) hx hb htb i_Md hown hK hP hO_0 m0 rfl rfl 29 (by decide) (htb (.fieldLink R_Md 275 "WaterMenModel" "orders" "I") tw_308) (fun _ h9 => h9) rfl d_Md_count_72 (fun x_8 e_8 b_8 => ?_)
          have hQ := hQ x_8 e_8
          exact W.iret (v := x_8) hx hb hr (fun t ht hW => ⟨x_8, rfl, ⟨trivial, hQ⟩, ht⟩) t_nil d_Md_count_75
        · have hQ := hQ.2 c_7
          by_cases c_9 : p_0 = 4
          · have hQ := hQ.1 c_9
            refine lv_tableIn (off := 75) (tgt := 76) hx hb d_Md_count_1 (by rw [c_9]; decide +kernel) (by rw [c_9]; decide +kernel) (by rw [c_9]; decide +kernel) (by decide) ?_
            refine lv_aload_n hx hb d_Md_count_76 rfl (lv_at hl 0 rfl) ?_
            refine tw_geti (D := (dC, dI)) (C := R_Md) (T := F_Md) (N := 64) (ci := 7) (kd := 27) (ct := ct) hx hb htb i_Md hown hK hP hO_0 m0 rfl rfl 1 (by decide) (htb (.fieldLink R_Md 7 "WaterMenModel" "time" "I") tw_122) (fun _ h9 => h9) rfl d_Md_count_77 (fun x_10 e_10 b_10 => ?_)
            have hQ := hQ x_10 e_10
            exact W.iret (v := x_10) hx hb hr (fun t ht hW => ⟨x_10, rfl, ⟨trivial, hQ⟩, ht⟩) t_nil d_Md_count_80
          · have hQ := hQ.2 c_9
            by_cases c_11 : p_0 = 5
            · have hQ := hQ.1 c_11
              refine lv_tableIn (off := 80) (tgt := 81) hx hb d_Md_count_1 (by rw [c_11]; decide +kernel) (by rw [c_11]; decide +kernel) (by rw [c_11]; decide +kernel) (by decide) ?_
              refine lv_aload_n hx hb d_Md_count_81 rfl (lv_at hl 0 rfl) ?_
              refine lv_iconst (v := 2) hx hb d_Md_count_82 (by decide +kernel) ?_
              refine vp_callSi (va_Run.run (va_runV (As := [.int 2]) (rest := []) ⟨hx, hb, hml, hown, htb⟩ (c_Md_menAs_w l dC dI ct L f hO_0 q0 m0 (2 : Int32) _ hQ) (cwV 1 htb (gd_V tw_663 tw_664 tw_665 tw_49 tw_662) rfl rfl rfl (by decide +kernel) ⟨Nat.le_of_ble_eq_true rfl, Nat.le_of_ble_eq_true rfl⟩) ⟨pr_blind, tw_recv hK hP m0 rfl rfl, pr_pre hP hK hN⟩ rfl rfl hl.1 rfl (lv_room (Nat.le_of_ble_eq_true rfl)) d_Md_count_83 ⟨Nat.le_of_ble_eq_true rfl, Nat.le_of_ble_eq_true rfl⟩)) (fun r_12 er_12 => ?_)
              obtain ⟨er_12, hQ⟩ := er_12
              clear er_12
              exact W.iret (v := r_12) hx hb hr (fun t ht hW => ⟨r_12, rfl, ⟨trivial, hQ⟩, ht⟩) t_nil d_Md_count_86
            · have hQ := hQ.2 c_11
              by_cases c_13 : p_0 = 6
              · have hQ := hQ.1 c_13
                refine lv_tableIn (off := 86) (tgt := 87) hx hb d_Md_count_1 (by rw [c_13]; decide +kernel) (by rw [c_13]; decide +kernel) (by rw [c_13]; decide +kernel) (by decide) ?_
                refine lv_aload_n hx hb d_Md_count_87 rfl (lv_at hl 0 rfl) ?_
                refine lv_iconst (v := 1) hx hb d_Md_count_88 (by decide +kernel) ?_
                refine vp_callSi (va_Run.run (va_runV (As := [.int 1]) (rest := []) ⟨hx, hb, hml, hown, htb⟩ (c_Md_menAs_w l dC dI ct L f hO_0 q0 m0 (1 : Int32) _ hQ) (cwV 1 htb (gd_V tw_663 tw_664 tw_665 tw_49 tw_662) rfl rfl rfl (by decide +kernel) ⟨Nat.le_of_ble_eq_true rfl, Nat.le_of_ble_eq_true rfl⟩) ⟨pr_blind, tw_recv hK hP m0 rfl rfl, pr_pre hP hK hN⟩ rfl rfl hl.1 rfl (lv_room (Nat.le_of_ble_eq_true rfl)) d_Md_count_89 ⟨Nat.le_of_ble_eq_true rfl, Nat.le_of_ble_eq_true rfl⟩)) (fun r_14 er_14 => ?_)
                obtain ⟨er_14, hQ⟩ := er_14
                clear er_14
                exact W.iret (v := r_14) hx hb hr (fun t ht hW => ⟨r_14, rfl, ⟨trivial, hQ⟩, ht⟩) t_nil d_Md_count_92
              · have hQ := hQ.2 c_13
                by_cases c_15 : p_0 = 7
                · have hQ := hQ.1 c_15
                  refine lv_tableIn (off := 92) (tgt := 93) hx hb d_Md_count_1 (by rw [c_15]; decide +kernel) (by rw [c_15]; decide +kernel) (by rw [c_15]; decide +kernel) (by decide) ?_
                  refine lv_aload_n hx hb d_Md_count_93 rfl (lv_at hl 0 rfl) ?_
                  refine lv_iconst (v := 3) hx hb d_Md_count_94 (by decide +kernel) ?_
                  refine vp_callSi (va_Run.run (va_runV (As := [.int 3]) (rest := []) ⟨hx, hb, hml, hown, htb⟩ (c_Md_menAs_w l dC dI ct L f hO_0 q0 m0 (3 : Int32) _ hQ) (cwV 1 htb (gd_V tw_663 tw_664 tw_665 tw_49 tw_662) rfl rfl rfl (by decide +kernel) ⟨Nat.le_of_ble_eq_true rfl, Nat.le_of_ble_eq_true rfl⟩) ⟨pr_blind, tw_recv hK hP m0 rfl rfl, pr_pre hP hK hN⟩ rfl rfl hl.1 rfl (lv_room (Nat.le_of_ble_eq_true rfl)) d_Md_count_95 ⟨Nat.le_of_ble_eq_true rfl, Nat.le_of_ble_eq_true rfl⟩)) (fun r_16 er_16 => ?_)
                  obtain ⟨er_16, hQ⟩ := er_16
                  clear er_16
                  exact W.iret (v := r_16) hx hb hr (fun t ht hW => ⟨r_16, rfl, ⟨trivial, hQ⟩, ht⟩) t_nil d_Md_count_98
                · have hQ := hQ.2 c_15
                  by_cases c_17 : p_0 = 8
                  · have hQ := hQ.1 c_17
                    refine lv_tableIn (off := 98) (tgt := 99) hx hb d_Md_count_1 (by rw [c_17]; decide +kernel) (by rw [c_17]; decide +kernel) (by rw [c_17]; decide +kernel) (by decide) ?_
                    refine lv_aload_n hx hb d_Md_count_99 rfl (lv_at hl 0 rfl) ?_
                    refine tw_geti (D := (dC, dI)) (C := R_Md) (T := F_Md) (N := 64) (ci := 7) (kd := 27) (ct := ct) hx hb htb i_Md hown hK hP hO_0 m0 rfl rfl 60 (by decide) (htb (.fieldLink R_Md 323 "WaterMenModel" "pensioners" "I") tw_202) (fun _ h9 => h9) rfl d_Md_count_100 (fun x_18 e_18 b_18 => ?_)
                    have hQ := hQ x_18 e_18
                    exact W.iret (v := x_18) hx hb hr (fun t ht hW => ⟨x_18, rfl, ⟨trivial, hQ⟩, ht⟩) t_nil d_Md_count_103
                  · have hQ := hQ.2 c_17
                    by_cases c_19 : p_0 = 9
                    · have hQ := hQ.1 c_19
                      refine lv_tableIn (off := 103) (tgt := 104) hx hb d_Md_count_1 (by rw [c_19]; decide +kernel) (by rw [c_19]; decide +kernel) (by rw [c_19]; decide +kernel) (by decide) ?_
                      refine lv_aload_n hx hb d_Md_count_104 rfl (lv_at hl 0 rfl) ?_
                      refine tw_geti (D := (dC, dI)) (C := R_Md) (T := F_Md) (N := 64) (ci := 7) (kd := 27) (ct := ct) hx hb htb i_Md hown hK hP hO_0 m0 rfl rfl 28 (by decide) (htb (.fieldLink R_Md 212 "WaterMenModel" "taped" "I") tw_141) (fun _ h9 => h9) rfl d_Md_count_105 (fun x_20 e_20 b_20 => ?_)
                      have hQ := hQ x_20 e_20
                      exact W.iret (v := x_20) hx hb hr (fun t ht hW => ⟨x_20, rfl, ⟨trivial, hQ⟩, ht⟩) t_nil d_Md_count_108
                    · have hQ := hQ.2 c_19
                      refine lv_tableOut (tgt := 109) hx hb d_Md_count_1 (by have h0 := lv_neT c_1 (show (0 : Int32).toInt = 0 by decide +kernel); have h1 := lv_neT c_3 (show (1 : Int32).toInt = 1 by decide +kernel); have h2 := lv_neT c_5 (show (2 : Int32).toInt = 2 by decide +kernel); have h3 := lv_neT c_7 (show (3 : Int32).toInt = 3 by decide +kernel); have h4 := lv_neT c_9 (show (4 : Int32).toInt = 4 by decide +kernel); have h5 := lv_neT c_11 (show (5 : Int32).toInt = 5 by decide +kernel); have h6 := lv_neT c_13 (show (6 : Int32).toInt = 6 by decide +kernel); have h7 := lv_neT c_15 (show (7 : Int32).toInt = 7 by decide +kernel); have h8 := lv_neT c_17 (show (8 : Int32).toInt = 8 by decide +kernel); have h9 := lv_neT c_19 (show (9 : Int32).toInt = 9 by decide +kernel); omega) (by decide) ?_
                      refine lv_iconst (v := (-1)) hx hb d_Md_count_109 (by decide +kernel) ?_
                      exact W.iret (v := (-1)) hx hb hr (fun t ht hW => ⟨(-1), rfl, ⟨trivial, hQ⟩, ht⟩) t_nil d_Md_count_110
def wp_WM_pensioner_w (L : List Nat) (f : TF) (q0 : Nat) (p_0 : Int32) (p_1 : Int32) (Q : Int32 → Prop) : Prop := ∀ q_1 : Nat, tr f q0 6 = some q_1 → wp_Bx_pensionerAt_w L f q_1 p_0 (fun (r_2 : Option Nat) => ((r_2 = none → Q (-1)) ∧ (∀ q_2 : Nat, r_2 = some q_2 → ((p_1 = 0 → ∀ x_4 : Int32, ti f q_2 0 = x_4 → Q x_4) ∧ (¬ (p_1 = 0) → ((p_1 = 1 → ∀ x_6 : Int32, ti f q_2 1 = x_6 → Q x_6) ∧ (¬ (p_1 = 1) → ((p_1 = 2 → ∀ x_8 : Int32, ti f q_2 2 = x_8 → Q x_8) ∧ (¬ (p_1 = 2) → Q (-1))))))))))
set_option maxHeartbeats 4000000 in
set_option maxRecDepth 100000 in
theorem c_WM_pensioner_w (l : Launch) (dC : Nat → ClassId) (dI : Nat → Nat → Nat) (ct : Nat → ClassId) (L : List Nat) (f : TF) (hO_0 : Ok L f) (q0 : Nat) (m0 : q0 ∈ L ∧ tk f q0 = 0) (p_0 : Int32) (p_1 : Int32)   (Q : Int32 → Prop) (hQ : wp_WM_pensioner_w L f q0 p_0 p_1 Q) : Met l y_WM_pensioner (.code y_WM_pensioner b_WM_pensioner 4 (some .int) :: TB) ({ frames := 1, cells := 0, slots := 0, locals := 21 }) (va_Pc [.ref q0, .int p_0, .int p_1] (PR dC dI (TW ct L f) (TT ct))) (vp_Si (fun r => (True) ∧ Q r)) 0 0 (fun _ => False) := by
  refine Met.ofW (cc := b_WM_pensioner) (maxL := 4) (ret := (some .int)) (by decide) rfl ?_
  intro p e s m args below meth c s₁ B hml hv
  obtain ⟨rfl, hP, hK, hN⟩ := hv
  have hx := B.exec
  have hb := B.bytes
  have hr := B.returns
  have hts := atoms_spec (ws := (.code y_WM_pensioner b_WM_pensioner 4 (some .int) :: TB)) B.pre
  have htb := fun w (h : w ∈ TB) => hts w (List.mem_cons_of_mem _ h)
  have hown : s.vm.findClass R_WM = some m.cls := findClass_of_methodNamed B.named
  have hlocks := B.notSynchronized
  have hl := lv_entry ([.ref q0, .int p_0, .int p_1]) (n := 4) (Nat.le_of_ble_eq_true rfl)
  rw [lg_entry_eq]
  generalize (lg_sl ([.ref q0, .int p_0, .int p_1]) ++ List.replicate (4 - (lg_sl ([.ref q0, .int p_0, .int p_1])).length) Slot.unset).toArray = ls at hl ⊢
  have hl : lv_has ls 4 [(0, .ref q0), (1, .int p_0), (2, .int p_1)] := hl
  unfold wp_WM_pensioner_w at hQ
  refine lv_aload_n hx hb d_WM_pensioner_0 rfl (lv_at hl 0 rfl) ?_
  refine tw_getr (D := (dC, dI)) (C := R_WM) (T := F_WM) (N := 13) (ci := 0) (kd := 0) (ct := ct) hx hb htb i_WM hown hK hP hO_0 m0 rfl rfl 6 (by decide) (htb (.fieldLink R_WM 50 "WaterMen" "box" "LWaterMen$Box;") tw_165) (fun _ h9 => h9) rfl d_WM_pensioner_1 (fun q_1 e_1 m_1 => ?_)
  have hQ := hQ q_1 e_1
  refine lv_iload_n hx hb d_WM_pensioner_4 rfl (lv_at hl 1 rfl) ?_
  refine va_csq (va_Run.run (va_runV (As := [.int p_0]) (rest := []) ⟨hx, hb, hml, hown, htb⟩ (c_Bx_pensionerAt_w l dC dI ct L f hO_0 q_1 m_1 p_0 _ hQ) (cwV 1 htb (gd_V tw_666 tw_183 tw_184 tw_170 tw_181) rfl rfl rfl (by decide +kernel) ⟨Nat.le_of_ble_eq_true rfl, Nat.le_of_ble_eq_true rfl⟩) ⟨pr_blind, tw_recv hK hP m_1 rfl rfl, pr_pre hP hK hN⟩ rfl rfl hl.1 rfl (lv_room (Nat.le_of_ble_eq_true rfl)) d_WM_pensioner_5 ⟨Nat.le_of_ble_eq_true rfl, Nat.le_of_ble_eq_true rfl⟩)) (fun r_2 er_2 => ?_)
  obtain ⟨er_2, hQ⟩ := er_2
  rcases er_2 with rfl | ⟨q_2, rfl, m_2⟩
  · have hQ := hQ.1 rfl
    refine hb_tv .null rfl ?_
    refine lv_astore_nN (lv' := [(3, .null), (0, .ref q0), (1, .int p_0), (2, .int p_1)]) hx hb d_WM_pensioner_8 rfl hl (by decide) rfl (fun ls hl => ?_)
    refine lv_aload_nN hx hb d_WM_pensioner_9 rfl (lv_at hl 0 rfl) ?_
    refine lv_ifnonnullN hx hb d_WM_pensioner_10 ?_
    refine lv_iconst (v := (-1)) hx hb d_WM_pensioner_13 (by decide +kernel) ?_
    exact W.iret (v := (-1)) hx hb hr (fun t ht hW => ⟨(-1), rfl, ⟨trivial, hQ⟩, ht⟩) t_nil d_WM_pensioner_14
  · have hQ := hQ.2 q_2 rfl
    refine hb_tv (.ref q_2) rfl ?_
    refine lv_astore_n (lv' := [(3, .ref q_2), (0, .ref q0), (1, .int p_0), (2, .int p_1)]) hx hb d_WM_pensioner_8 rfl hl (by decide) rfl (fun ls hl => ?_)
    refine lv_aload_n hx hb d_WM_pensioner_9 rfl (lv_at hl 0 rfl) ?_
    refine lv_ifnonnull (tgt := 15) hx hb d_WM_pensioner_10 (by decide) ?_
    refine lv_iload_n hx hb d_WM_pensioner_15 rfl (lv_at hl 3 rfl) ?_
    by_cases c_3 : p_1 = 0
    · have hQ := hQ.1 c_3
      refine lv_tableIn (off := 28) (tgt := 44) hx hb d_WM_pensioner_16 (by rw [c_3]; decide +kernel) (by rw [c_3]; decide +kernel) (by rw [c_3]; decide +kernel) (by decide) ?_
      refine lv_aload_n hx hb d_WM_pensioner_44 rfl (lv_at hl 0 rfl) ?_
      refine tw_geti (D := (dC, dI)) (C := R_Pn) (T := F_Pn) (N := 3) (ci := 6) (kd := 26) (ct := ct) hx hb htb i_Pn hown hK hP hO_0 m_2 rfl rfl 0 (by decide) (htb (.fieldLink R_WM 329 "WaterMen$Pensioner" "pension" "I") tw_667) (fun _ h9 => h9) rfl d_WM_pensioner_45 (fun x_4 e_4 b_4 => ?_)
      have hQ := hQ x_4 e_4
      exact W.iret (v := x_4) hx hb hr (fun t ht hW => ⟨x_4, rfl, ⟨trivial, hQ⟩, ht⟩) t_nil d_WM_pensioner_48
    · have hQ := hQ.2 c_3
      by_cases c_5 : p_1 = 1
      · have hQ := hQ.1 c_5
        refine lv_tableIn (off := 33) (tgt := 49) hx hb d_WM_pensioner_16 (by rw [c_5]; decide +kernel) (by rw [c_5]; decide +kernel) (by rw [c_5]; decide +kernel) (by decide) ?_
        refine lv_aload_n hx hb d_WM_pensioner_49 rfl (lv_at hl 0 rfl) ?_
        refine tw_geti (D := (dC, dI)) (C := R_Pn) (T := F_Pn) (N := 3) (ci := 6) (kd := 26) (ct := ct) hx hb htb i_Pn hown hK hP hO_0 m_2 rfl rfl 1 (by decide) (htb (.fieldLink R_WM 334 "WaterMen$Pensioner" "end" "I") tw_668) (fun _ h9 => h9) rfl d_WM_pensioner_50 (fun x_6 e_6 b_6 => ?_)
        have hQ := hQ x_6 e_6
        exact W.iret (v := x_6) hx hb hr (fun t ht hW => ⟨x_6, rfl, ⟨trivial, hQ⟩, ht⟩) t_nil d_WM_pensioner_53
      · have hQ := hQ.2 c_5
        by_cases c_7 : p_1 = 2
        · have hQ := hQ.1 c_7
          refine lv_tableIn (off := 38) (tgt := 54) hx hb d_WM_pensioner_16 (by rw [c_7]; decide +kernel) (by rw [c_7]; decide +kernel) (by rw [c_7]; decide +kernel) (by decide) ?_
          refine lv_aload_n hx hb d_WM_pensioner_54 rfl (lv_at hl 0 rfl) ?_
          refine tw_geti (D := (dC, dI)) (C := R_Pn) (T := F_Pn) (N := 3) (ci := 6) (kd := 26) (ct := ct) hx hb htb i_Pn hown hK hP hO_0 m_2 rfl rfl 2 (by decide) (htb (.fieldLink R_WM 337 "WaterMen$Pensioner" "got" "I") tw_669) (fun _ h9 => h9) rfl d_WM_pensioner_55 (fun x_8 e_8 b_8 => ?_)
          have hQ := hQ x_8 e_8
          exact W.iret (v := x_8) hx hb hr (fun t ht hW => ⟨x_8, rfl, ⟨trivial, hQ⟩, ht⟩) t_nil d_WM_pensioner_58
        · have hQ := hQ.2 c_7
          refine lv_tableOut (tgt := 59) hx hb d_WM_pensioner_16 (by have h0 := lv_neT c_3 (show (0 : Int32).toInt = 0 by decide +kernel); have h1 := lv_neT c_5 (show (1 : Int32).toInt = 1 by decide +kernel); have h2 := lv_neT c_7 (show (2 : Int32).toInt = 2 by decide +kernel); omega) (by decide) ?_
          refine lv_iconst (v := (-1)) hx hb d_WM_pensioner_59 (by decide +kernel) ?_
          exact W.iret (v := (-1)) hx hb hr (fun t ht hW => ⟨(-1), rfl, ⟨trivial, hQ⟩, ht⟩) t_nil d_WM_pensioner_60
def wp_Md_pensioner_w (L : List Nat) (f : TF) (q0 : Nat) (p_0 : Int32) (p_1 : Int32) (Q : Int32 → Prop) : Prop := ∀ x_1 : Int32, ti f q0 60 = x_1 → ((p_0 < 0 → Q (-1)) ∧ (¬ (p_0 < 0) → (((x_1 - 1) < p_0 → Q (-1)) ∧ (¬ ((x_1 - 1) < p_0) → ((p_1 = 0 → ∀ q_6 : Nat, tr f q0 61 = some q_6 → ∀ x_7 : Int32, ti f q_6 (p_0 : Int32).toNatClampNeg = x_7 → Q x_7) ∧ (¬ (p_1 = 0) → ((p_1 = 1 → ∀ q_9 : Nat, tr f q0 62 = some q_9 → ∀ x_10 : Int32, ti f q_9 (p_0 : Int32).toNatClampNeg = x_10 → Q x_10) ∧ (¬ (p_1 = 1) → ((p_1 = 2 → ∀ q_12 : Nat, tr f q0 63 = some q_12 → ∀ x_13 : Int32, ti f q_12 (p_0 : Int32).toNatClampNeg = x_13 → Q x_13) ∧ (¬ (p_1 = 2) → Q (-1)))))))))))
set_option maxHeartbeats 4000000 in
set_option maxRecDepth 100000 in
theorem c_Md_pensioner_w (l : Launch) (dC : Nat → ClassId) (dI : Nat → Nat → Nat) (ct : Nat → ClassId) (L : List Nat) (f : TF) (hO_0 : Ok L f) (q0 : Nat) (m0 : q0 ∈ L ∧ tk f q0 = 27) (p_0 : Int32) (p_1 : Int32)   (Q : Int32 → Prop) (hQ : wp_Md_pensioner_w L f q0 p_0 p_1 Q) : Met l y_Md_pensioner (.code y_Md_pensioner b_Md_pensioner 3 (some .int) :: TB) ({ frames := 1, cells := 0, slots := 0, locals := 22 }) (va_Pc [.ref q0, .int p_0, .int p_1] (PR dC dI (TW ct L f) (TT ct))) (vp_Si (fun r => (True) ∧ Q r)) 0 0 (fun _ => False) := by
  refine Met.ofW (cc := b_Md_pensioner) (maxL := 3) (ret := (some .int)) (by decide) rfl ?_
  intro p e s m args below meth c s₁ B hml hv
  obtain ⟨rfl, hP, hK, hN⟩ := hv
  have hx := B.exec
  have hb := B.bytes
  have hr := B.returns
  have hts := atoms_spec (ws := (.code y_Md_pensioner b_Md_pensioner 3 (some .int) :: TB)) B.pre
  have htb := fun w (h : w ∈ TB) => hts w (List.mem_cons_of_mem _ h)
  have hown : s.vm.findClass R_Md = some m.cls := findClass_of_methodNamed B.named
  have hlocks := B.notSynchronized
  have hl := lv_entry ([.ref q0, .int p_0, .int p_1]) (n := 3) (Nat.le_of_ble_eq_true rfl)
  rw [lg_entry_eq]
  generalize (lg_sl ([.ref q0, .int p_0, .int p_1]) ++ List.replicate (3 - (lg_sl ([.ref q0, .int p_0, .int p_1])).length) Slot.unset).toArray = ls at hl ⊢
  have hl : lv_has ls 3 [(0, .ref q0), (1, .int p_0), (2, .int p_1)] := hl
  unfold wp_Md_pensioner_w at hQ
  refine lv_iload_n hx hb d_Md_pensioner_0 rfl (lv_at hl 1 rfl) ?_
  refine lv_iconst (v := 0) hx hb d_Md_pensioner_1 (by decide +kernel) ?_
  refine lv_aload_n hx hb d_Md_pensioner_2 rfl (lv_at hl 0 rfl) ?_
  refine tw_geti (D := (dC, dI)) (C := R_Md) (T := F_Md) (N := 64) (ci := 7) (kd := 27) (ct := ct) hx hb htb i_Md hown hK hP hO_0 m0 rfl rfl 60 (by decide) (htb (.fieldLink R_Md 323 "WaterMenModel" "pensioners" "I") tw_202) (fun _ h9 => h9) rfl d_Md_pensioner_3 (fun x_1 e_1 b_1 => ?_)
  have hQ := hQ x_1 e_1
  refine lv_iconst (v := 1) hx hb d_Md_pensioner_6 (by decide +kernel) ?_
  refine lv_isub hx hb d_Md_pensioner_7 ?_
  refine vp_callSi (va_Run.run (va_runS (As := [.int p_0, .int 0, .int (x_1 - 1)]) (rest := []) ⟨hx, hb, hml, hown, htb⟩ (c_Md_in l p_0 0 (x_1 - 1)) (cwS 3 htb (gd_S tw_50 tw_51 tw_49 tw_48) rfl rfl rfl (by decide +kernel) ⟨Nat.le_of_ble_eq_true rfl, Nat.le_of_ble_eq_true rfl⟩) ⟨fun _ _ _ _ h => h, fun U _ _ => ⟨rfl, trivial⟩⟩ rfl rfl hl.1 rfl (lv_room (Nat.le_of_ble_eq_true rfl)) d_Md_pensioner_8 ⟨Nat.le_of_ble_eq_true rfl, Nat.le_of_ble_eq_true rfl⟩)) (fun r er => ?_)
  subst er
  by_cases c_3 : p_0 < 0
  · have hQ := hQ.1 c_3
    refine hb_ti 0 (by unfold f_Md_in; rw [if_pos c_3]; first | done | rfl) ?_
    refine lv_if_ne (tgt := 16) hx hb d_Md_pensioner_11 (by decide) (fun h => absurd (by decide +kernel) h) (fun _ => ?_)
    refine lv_iconst (v := (-1)) hx hb d_Md_pensioner_14 (by decide +kernel) ?_
    exact W.iret (v := (-1)) hx hb hr (fun t ht hW => ⟨(-1), rfl, ⟨trivial, hQ⟩, ht⟩) t_nil d_Md_pensioner_15
  · have hQ := hQ.2 c_3
    by_cases c_4 : (x_1 - 1) < p_0
    · have hQ := hQ.1 c_4
      refine hb_ti 0 (by unfold f_Md_in; rw [if_neg c_3, if_pos c_4]; first | done | rfl) ?_
      refine lv_if_ne (tgt := 16) hx hb d_Md_pensioner_11 (by decide) (fun h => absurd (by decide +kernel) h) (fun _ => ?_)
      refine lv_iconst (v := (-1)) hx hb d_Md_pensioner_14 (by decide +kernel) ?_
      exact W.iret (v := (-1)) hx hb hr (fun t ht hW => ⟨(-1), rfl, ⟨trivial, hQ⟩, ht⟩) t_nil d_Md_pensioner_15
    · have hQ := hQ.2 c_4
      refine hb_ti 1 (by unfold f_Md_in; rw [if_neg c_3, if_neg c_4]; first | done | rfl) ?_
      refine lv_if_ne (tgt := 16) hx hb d_Md_pensioner_11 (by decide) (fun _ => ?_) (fun h => absurd h (by decide +kernel))
      refine lv_iload_n hx hb d_Md_pensioner_16 rfl (lv_at hl 2 rfl) ?_
      by_cases c_5 : p_1 = 0
      · have hQ := hQ.1 c_5
        refine lv_tableIn (off := 27) (tgt := 44) hx hb d_Md_pensioner_17 (by rw [c_5]; decide +kernel) (by rw [c_5]; decide +kernel) (by rw [c_5]; decide +kernel) (by decide) ?_
        refine lv_aload_n hx hb d_Md_pensioner_44 rfl (lv_at hl 0 rfl) ?_
        refine tw_getr (D := (dC, dI)) (C := R_Md) (T := F_Md) (N := 64) (ci := 7) (kd := 27) (ct := ct) hx hb htb i_Md hown hK hP hO_0 m0 rfl rfl 61 (by decide) (htb (.fieldLink R_Md 177 "WaterMenModel" "pensionOf" "[I") tw_205) (fun _ h9 => h9) rfl d_Md_pensioner_45 (fun q_6 e_6 m_6 => ?_)
        have hQ := hQ q_6 e_6
        refine lv_iload_n hx hb d_Md_pensioner_48 rfl (lv_at hl 1 rfl) ?_
        refine tw_aldI (ct := ct) hx hb hK hP hO_0 m_6 rfl ((fun (a_0 : Int32) (a_1 : Int32) (k_0 : ¬ (a_0 < 0)) (k_1 : ¬ (a_1 < 0)) (k_2 : ¬ (30 < a_1)) (k_3 : ¬ ((a_1 - 1) < a_0)) => (show vp_in (a_0) 30 from by have z0 : (0 : Int32).toInt = 0 := (by decide +kernel); have z1 : (1 : Int32).toInt = 1 := (by decide +kernel); have z2 : (30 : Int32).toInt = 30 := (by decide +kernel); have r0 := fb_rng (a_0); have r1 := fb_rng (a_1); have e0 := k_0; rw [Int32.lt_iff_toInt_lt, z0] at e0; have e1 := k_1; rw [Int32.lt_iff_toInt_lt, z0] at e1; have e2 := k_2; rw [Int32.lt_iff_toInt_lt, z2] at e2; obtain ⟨n_0, hn_0, s0⟩ := nd_sub (x := (a_1)) (y := (1 : Int32)) (by (try rw [z1]); omega) (by (try rw [z1]); omega); rw [z1] at s0; have e3 := k_3; rw [hn_0, Int32.lt_iff_toInt_lt] at e3; rw [vp_in_iff]; omega)) p_0 x_1 c_3 b_1.1 b_1.2 c_4) d_Md_pensioner_49 (fun x_7 e_7 b_7 => ?_)
        have hQ := hQ x_7 e_7
        exact W.iret (v := x_7) hx hb hr (fun t ht hW => ⟨x_7, rfl, ⟨trivial, hQ⟩, ht⟩) t_nil d_Md_pensioner_50
      · have hQ := hQ.2 c_5
        by_cases c_8 : p_1 = 1
        · have hQ := hQ.1 c_8
          refine lv_tableIn (off := 34) (tgt := 51) hx hb d_Md_pensioner_17 (by rw [c_8]; decide +kernel) (by rw [c_8]; decide +kernel) (by rw [c_8]; decide +kernel) (by decide) ?_
          refine lv_aload_n hx hb d_Md_pensioner_51 rfl (lv_at hl 0 rfl) ?_
          refine tw_getr (D := (dC, dI)) (C := R_Md) (T := F_Md) (N := 64) (ci := 7) (kd := 27) (ct := ct) hx hb htb i_Md hown hK hP hO_0 m0 rfl rfl 62 (by decide) (htb (.fieldLink R_Md 180 "WaterMenModel" "pensionEnd" "[I") tw_203) (fun _ h9 => h9) rfl d_Md_pensioner_52 (fun q_9 e_9 m_9 => ?_)
          have hQ := hQ q_9 e_9
          refine lv_iload_n hx hb d_Md_pensioner_55 rfl (lv_at hl 1 rfl) ?_
          refine tw_aldI (ct := ct) hx hb hK hP hO_0 m_9 rfl ((fun (a_0 : Int32) (a_1 : Int32) (k_0 : ¬ (a_0 < 0)) (k_1 : ¬ (a_1 < 0)) (k_2 : ¬ (30 < a_1)) (k_3 : ¬ ((a_1 - 1) < a_0)) => (show vp_in (a_0) 30 from by have z0 : (0 : Int32).toInt = 0 := (by decide +kernel); have z1 : (1 : Int32).toInt = 1 := (by decide +kernel); have z2 : (30 : Int32).toInt = 30 := (by decide +kernel); have r0 := fb_rng (a_0); have r1 := fb_rng (a_1); have e0 := k_0; rw [Int32.lt_iff_toInt_lt, z0] at e0; have e1 := k_1; rw [Int32.lt_iff_toInt_lt, z0] at e1; have e2 := k_2; rw [Int32.lt_iff_toInt_lt, z2] at e2; obtain ⟨n_0, hn_0, s0⟩ := nd_sub (x := (a_1)) (y := (1 : Int32)) (by (try rw [z1]); omega) (by (try rw [z1]); omega); rw [z1] at s0; have e3 := k_3; rw [hn_0, Int32.lt_iff_toInt_lt] at e3; rw [vp_in_iff]; omega)) p_0 x_1 c_3 b_1.1 b_1.2 c_4) d_Md_pensioner_56 (fun x_10 e_10 b_10 => ?_)
          have hQ := hQ x_10 e_10
          exact W.iret (v := x_10) hx hb hr (fun t ht hW => ⟨x_10, rfl, ⟨trivial, hQ⟩, ht⟩) t_nil d_Md_pensioner_57
        · have hQ := hQ.2 c_8
          by_cases c_11 : p_1 = 2
          · have hQ := hQ.1 c_11
            refine lv_tableIn (off := 41) (tgt := 58) hx hb d_Md_pensioner_17 (by rw [c_11]; decide +kernel) (by rw [c_11]; decide +kernel) (by rw [c_11]; decide +kernel) (by decide) ?_
            refine lv_aload_n hx hb d_Md_pensioner_58 rfl (lv_at hl 0 rfl) ?_
            refine tw_getr (D := (dC, dI)) (C := R_Md) (T := F_Md) (N := 64) (ci := 7) (kd := 27) (ct := ct) hx hb htb i_Md hown hK hP hO_0 m0 rfl rfl 63 (by decide) (htb (.fieldLink R_Md 183 "WaterMenModel" "gotten" "[I") tw_206) (fun _ h9 => h9) rfl d_Md_pensioner_59 (fun q_12 e_12 m_12 => ?_)
            have hQ := hQ q_12 e_12
            refine lv_iload_n hx hb d_Md_pensioner_62 rfl (lv_at hl 1 rfl) ?_
            refine tw_aldI (ct := ct) hx hb hK hP hO_0 m_12 rfl ((fun (a_0 : Int32) (a_1 : Int32) (k_0 : ¬ (a_0 < 0)) (k_1 : ¬ (a_1 < 0)) (k_2 : ¬ (30 < a_1)) (k_3 : ¬ ((a_1 - 1) < a_0)) => (show vp_in (a_0) 30 from by have z0 : (0 : Int32).toInt = 0 := (by decide +kernel); have z1 : (1 : Int32).toInt = 1 := (by decide +kernel); have z2 : (30 : Int32).toInt = 30 := (by decide +kernel); have r0 := fb_rng (a_0); have r1 := fb_rng (a_1); have e0 := k_0; rw [Int32.lt_iff_toInt_lt, z0] at e0; have e1 := k_1; rw [Int32.lt_iff_toInt_lt, z0] at e1; have e2 := k_2; rw [Int32.lt_iff_toInt_lt, z2] at e2; obtain ⟨n_0, hn_0, s0⟩ := nd_sub (x := (a_1)) (y := (1 : Int32)) (by (try rw [z1]); omega) (by (try rw [z1]); omega); rw [z1] at s0; have e3 := k_3; rw [hn_0, Int32.lt_iff_toInt_lt] at e3; rw [vp_in_iff]; omega)) p_0 x_1 c_3 b_1.1 b_1.2 c_4) d_Md_pensioner_63 (fun x_13 e_13 b_13 => ?_)
            have hQ := hQ x_13 e_13
            exact W.iret (v := x_13) hx hb hr (fun t ht hW => ⟨x_13, rfl, ⟨trivial, hQ⟩, ht⟩) t_nil d_Md_pensioner_64
          · have hQ := hQ.2 c_11
            refine lv_tableOut (tgt := 65) hx hb d_Md_pensioner_17 (by have h0 := lv_neT c_5 (show (0 : Int32).toInt = 0 by decide +kernel); have h1 := lv_neT c_8 (show (1 : Int32).toInt = 1 by decide +kernel); have h2 := lv_neT c_11 (show (2 : Int32).toInt = 2 by decide +kernel); omega) (by decide) ?_
            refine lv_iconst (v := (-1)) hx hb d_Md_pensioner_65 (by decide +kernel) ?_
            exact W.iret (v := (-1)) hx hb hr (fun t ht hW => ⟨(-1), rfl, ⟨trivial, hQ⟩, ht⟩) t_nil d_Md_pensioner_66
def wpB_WM_coinsOfMen_w_4_1 (L : List Nat) (f : TF) (q0 : Nat) (Q : Int32 → Prop) (rec_1 : Int32 → Int32 → Prop) (v1_1 : Int32) (v2_1 : Int32) : Prop := ((40 ≤ v2_1 → Q v1_1) ∧ (¬ (40 ≤ v2_1) → ∀ q_3 : Nat, tr f q0 1 = some q_3 → ((tr f q_3 (v2_1 : Int32).toNatClampNeg = none → rec_1 (v1_1 + 0) (v2_1 + 1)) ∧ (∀ q_4 : Nat, tr f q_3 (v2_1 : Int32).toNatClampNeg = some q_4 → ∀ x_5 : Int32, ti f q_4 4 = x_5 → rec_1 (v1_1 + x_5) (v2_1 + 1)))))
def wpL_WM_coinsOfMen_w_4_1 (L : List Nat) (f : TF) (q0 : Nat) (Q : Int32 → Prop) : Nat → Int32 → Int32 → Prop
  | 0 => fun v1_1 v2_1 => wpB_WM_coinsOfMen_w_4_1 L f q0 Q (fun _ _ => True) v1_1 v2_1
  | n + 1 => fun v1_1 v2_1 => wpB_WM_coinsOfMen_w_4_1 L f q0 Q (wpL_WM_coinsOfMen_w_4_1 L f q0 Q n) v1_1 v2_1
def wpR_WM_coinsOfMen_w_4_1 (L : List Nat) (f : TF) (q0 : Nat) (Q : Int32 → Prop) : Nat → Int32 → Int32 → Prop
  | 0 => fun _ _ => True
  | n + 1 => wpL_WM_coinsOfMen_w_4_1 L f q0 Q n
theorem wpL_WM_coinsOfMen_w_4_1_eq {L : List Nat} {f : TF} {q0 : Nat} {Q : Int32 → Prop} {n : Nat} : wpL_WM_coinsOfMen_w_4_1 L f q0 Q n = wpB_WM_coinsOfMen_w_4_1 L f q0 Q (wpR_WM_coinsOfMen_w_4_1 L f q0 Q n) := by cases n <;> rfl
theorem wpR_WM_coinsOfMen_w_4_1_pos {L : List Nat} {f : TF} {q0 : Nat} {Q : Int32 → Prop} {n : Nat} (h : 0 < n) : wpR_WM_coinsOfMen_w_4_1 L f q0 Q n = wpL_WM_coinsOfMen_w_4_1 L f q0 Q (n - 1) := by
  cases n with
  | zero => omega
  | succ n => rfl
def wp_WM_coinsOfMen_w (L : List Nat) (f : TF) (q0 : Nat) (Q : Int32 → Prop) : Prop := wpL_WM_coinsOfMen_w_4_1 L f q0 Q (((40 : Int32).toInt - (0 : Int32).toInt).toNat) (0 : Int32) (0 : Int32)
set_option maxHeartbeats 4000000 in
set_option maxRecDepth 100000 in
theorem c_WM_coinsOfMen_w (l : Launch) (dC : Nat → ClassId) (dI : Nat → Nat → Nat) (ct : Nat → ClassId) (L : List Nat) (f : TF) (hO_0 : Ok L f) (q0 : Nat) (m0 : q0 ∈ L ∧ tk f q0 = 0)    (Q : Int32 → Prop) (hQ : wp_WM_coinsOfMen_w L f q0 Q) : Met l y_WM_coinsOfMen (.code y_WM_coinsOfMen b_WM_coinsOfMen 4 (some .int) :: TB) ({ frames := 0, cells := 0, slots := 0, locals := 0 }) (va_Pc [.ref q0] (PR dC dI (TW ct L f) (TT ct))) (vp_Si (fun r => (True) ∧ Q r)) 0 0 (fun _ => False) := by
  refine Met.ofW (cc := b_WM_coinsOfMen) (maxL := 4) (ret := (some .int)) (by decide) rfl ?_
  intro p e s m args below meth c s₁ B hml hv
  obtain ⟨rfl, hP, hK, hN⟩ := hv
  have hx := B.exec
  have hb := B.bytes
  have hr := B.returns
  have hts := atoms_spec (ws := (.code y_WM_coinsOfMen b_WM_coinsOfMen 4 (some .int) :: TB)) B.pre
  have htb := fun w (h : w ∈ TB) => hts w (List.mem_cons_of_mem _ h)
  have hown : s.vm.findClass R_WM = some m.cls := findClass_of_methodNamed B.named
  have hlocks := B.notSynchronized
  have hl := lv_entry ([.ref q0]) (n := 4) (Nat.le_of_ble_eq_true rfl)
  rw [lg_entry_eq]
  generalize (lg_sl ([.ref q0]) ++ List.replicate (4 - (lg_sl ([.ref q0])).length) Slot.unset).toArray = ls at hl ⊢
  have hl : lv_has ls 4 [(0, .ref q0)] := hl
  unfold wp_WM_coinsOfMen_w at hQ
  refine lv_iconst (v := 0) hx hb d_WM_coinsOfMen_0 (by decide +kernel) ?_
  refine lv_istore_n (lv' := [(1, .int 0), (0, .ref q0)]) hx hb d_WM_coinsOfMen_1 rfl hl (by decide) rfl (fun ls hl => ?_)
  refine lv_iconst (v := 0) hx hb d_WM_coinsOfMen_2 (by decide +kernel) ?_
  refine lv_istore_n (lv' := [(2, .int 0), (1, .int 0), (0, .ref q0)]) hx hb d_WM_coinsOfMen_3 rfl hl (by decide) rfl (fun ls hl => ?_)
  have cut_1 : ∀ (n_1 : Nat) (v1_1 v2_1 : Int32) (ls : Array Slot), ¬ (v2_1 < 0) → ¬ (40 < v2_1) → (40 : Int32).toInt - (v2_1 : Int32).toInt ≤ (n_1 : Int) → wpL_WM_coinsOfMen_w_4_1 L f q0 Q n_1 v1_1 v2_1 → lv_has ls 4 [(0, .ref q0), (1, .int v1_1), (2, .int v2_1)] → W p l e (headSpec (.code y_WM_coinsOfMen b_WM_coinsOfMen 4 (some .int) :: TB) ({ frames := 0, cells := 0, slots := 0, locals := 0 })).room s m [.ref q0].toArray below meth c s.heap [] 0 0 (MQ below (vp_Si (fun r => (True) ∧ Q r)) [.ref q0].toArray s 0 0 (fun _ => False)) (F0 m 4 ls []) := by
    intro n_1
    induction n_1 using Nat.strongRecOn with
    | _ n_1 ih_1 =>
      intro v1_1 v2_1 ls iv0_1 iv1_1 hm_1 hQ hl
      rw [wpL_WM_coinsOfMen_w_4_1_eq] at hQ
      obtain ⟨rec_1, hrec_1⟩ : ∃ g, wpR_WM_coinsOfMen_w_4_1 L f q0 Q n_1 = g := ⟨_, rfl⟩
      rw [hrec_1] at hQ
      unfold wpB_WM_coinsOfMen_w_4_1 at hQ
      refine lv_iload_n hx hb d_WM_coinsOfMen_4 rfl (lv_at hl 2 rfl) ?_
      refine lv_bipush (v := 40) hx hb d_WM_coinsOfMen_5 (by decide +kernel) ?_
      refine lv_icmp_ge (tgt := 38) hx hb d_WM_coinsOfMen_7 (by decide) (fun c_2 => ?_) (fun c_2 => ?_)
      · have hQ := hQ.1 c_2
        refine lv_iload_n hx hb d_WM_coinsOfMen_38 rfl (lv_at hl 1 rfl) ?_
        exact W.iret (v := v1_1) hx hb hr (fun t ht hW => ⟨v1_1, rfl, ⟨trivial, hQ⟩, ht⟩) t_nil d_WM_coinsOfMen_39
      · have hQ := hQ.2 c_2
        refine lv_aload_n hx hb d_WM_coinsOfMen_10 rfl (lv_at hl 0 rfl) ?_
        refine tw_getr (D := (dC, dI)) (C := R_WM) (T := F_WM) (N := 13) (ci := 0) (kd := 0) (ct := ct) hx hb htb i_WM hown hK hP hO_0 m0 rfl rfl 1 (by decide) (htb (.fieldLink R_WM 18 "WaterMen" "men" "[LWaterMen$Man;") tw_24) (fun _ h9 => h9) rfl d_WM_coinsOfMen_11 (fun q_3 e_3 m_3 => ?_)
        have hQ := hQ q_3 e_3
        refine lv_iload_n hx hb d_WM_coinsOfMen_14 rfl (lv_at hl 2 rfl) ?_
        refine tw_aldq (ct := ct) hx hb hK hP hO_0 m_3 rfl rfl (hb_in iv0_1 c_2 (by decide +kernel)) d_WM_coinsOfMen_15 (fun e_4 => ?_) (fun q_4 e_4 m_4 => ?_)
        · have hQ := hQ.1 e_4
          refine lv_astore_nN (lv' := [(3, .null), (0, .ref q0), (1, .int v1_1), (2, .int v2_1)]) hx hb d_WM_coinsOfMen_16 rfl hl (by decide) rfl (fun ls hl => ?_)
          refine lv_iload_n hx hb d_WM_coinsOfMen_17 rfl (lv_at hl 2 rfl) ?_
          refine lv_aload_nN hx hb d_WM_coinsOfMen_18 rfl (lv_at hl 0 rfl) ?_
          refine lv_ifnonnullN hx hb d_WM_coinsOfMen_19 ?_
          refine lv_iconst (v := 0) hx hb d_WM_coinsOfMen_22 (by decide +kernel) ?_
          refine lv_goto (tgt := 30) hx hb d_WM_coinsOfMen_23 (by decide) ?_
          refine lv_iadd hx hb d_WM_coinsOfMen_30 ?_
          refine lv_istore_n (lv' := [(1, .int (v1_1 + 0)), (3, .null), (0, .ref q0), (2, .int v2_1)]) hx hb d_WM_coinsOfMen_31 rfl hl (by decide) rfl (fun ls hl => ?_)
          refine lv_iinc (v := (v2_1 + 1)) (lv' := [(2, .int (v2_1 + 1)), (1, .int (v1_1 + 0)), (3, .null), (0, .ref q0)]) hx hb d_WM_coinsOfMen_32 hl (k := 3) rfl rfl (by decide) rfl (fun ls hl => ?_)
          refine lv_goto (tgt := 4) hx hb d_WM_coinsOfMen_35 (by decide) ?_
          exact ih_1 (n_1 - 1) (ms_1 ((fun (a_0 : Int32) (k_0 : ¬ (40 ≤ a_0)) => (show 1 ≤ (40 : Int32).toInt - (a_0).toInt ∧ (40 : Int32).toInt - ((a_0) + (1 : Int32)).toInt + 1 ≤ (40 : Int32).toInt - (a_0).toInt from by have z0 : (1 : Int32).toInt = 1 := (by decide +kernel); have z1 : (40 : Int32).toInt = 40 := (by decide +kernel); have r0 := fb_rng (a_0); have e0 := k_0; rw [Int32.le_iff_toInt_le, z1] at e0; obtain ⟨n_0, hn_0, s0⟩ := nd_add (x := (a_0)) (y := (1 : Int32)) (by (try rw [z0]); omega) (by (try rw [z0]); omega); rw [z0] at s0; rw [hn_0]; (try rw [z1]); omega)) v2_1 c_2) hm_1) (v1_1 + 0) (v2_1 + 1) _ (show ¬ ((v2_1 + 1) < 0) from by have e0 := iv0_1; rw [Int32.lt_iff_toInt_lt] at e0; have e1 := c_2; rw [Int32.le_iff_toInt_le] at e1; have z0 : (0 : Int32).toInt = 0 := (by decide +kernel); have z1 : (1 : Int32).toInt = 1 := (by decide +kernel); have z2 : (40 : Int32).toInt = 40 := (by decide +kernel); have ss := fb_addI (x := v2_1) (y := 1) (by omega) (by omega); rw [Int32.lt_iff_toInt_lt]; omega) (show ¬ (40 < (v2_1 + 1)) from by have e0 := iv0_1; rw [Int32.lt_iff_toInt_lt] at e0; have e1 := c_2; rw [Int32.le_iff_toInt_le] at e1; have z0 : (0 : Int32).toInt = 0 := (by decide +kernel); have z1 : (1 : Int32).toInt = 1 := (by decide +kernel); have z2 : (40 : Int32).toInt = 40 := (by decide +kernel); have ss := fb_addI (x := v2_1) (y := 1) (by omega) (by omega); rw [Int32.lt_iff_toInt_lt]; omega) (by exact ms_2 ((fun (a_0 : Int32) (k_0 : ¬ (40 ≤ a_0)) => (show 1 ≤ (40 : Int32).toInt - (a_0).toInt ∧ (40 : Int32).toInt - ((a_0) + (1 : Int32)).toInt + 1 ≤ (40 : Int32).toInt - (a_0).toInt from by have z0 : (1 : Int32).toInt = 1 := (by decide +kernel); have z1 : (40 : Int32).toInt = 40 := (by decide +kernel); have r0 := fb_rng (a_0); have e0 := k_0; rw [Int32.le_iff_toInt_le, z1] at e0; obtain ⟨n_0, hn_0, s0⟩ := nd_add (x := (a_0)) (y := (1 : Int32)) (by (try rw [z0]); omega) (by (try rw [z0]); omega); rw [z0] at s0; rw [hn_0]; (try rw [z1]); omega)) v2_1 c_2) hm_1) (by rw [← hrec_1, wpR_WM_coinsOfMen_w_4_1_pos (ms_3 ((fun (a_0 : Int32) (k_0 : ¬ (40 ≤ a_0)) => (show 1 ≤ (40 : Int32).toInt - (a_0).toInt ∧ (40 : Int32).toInt - ((a_0) + (1 : Int32)).toInt + 1 ≤ (40 : Int32).toInt - (a_0).toInt from by have z0 : (1 : Int32).toInt = 1 := (by decide +kernel); have z1 : (40 : Int32).toInt = 40 := (by decide +kernel); have r0 := fb_rng (a_0); have e0 := k_0; rw [Int32.le_iff_toInt_le, z1] at e0; obtain ⟨n_0, hn_0, s0⟩ := nd_add (x := (a_0)) (y := (1 : Int32)) (by (try rw [z0]); omega) (by (try rw [z0]); omega); rw [z0] at s0; rw [hn_0]; (try rw [z1]); omega)) v2_1 c_2) hm_1)] at hQ; exact hQ) (lv_sub hl [3, 1, 0] rfl)
        · have hQ := hQ.2 q_4 e_4
          refine lv_astore_n (lv' := [(3, .ref q_4), (0, .ref q0), (1, .int v1_1), (2, .int v2_1)]) hx hb d_WM_coinsOfMen_16 rfl hl (by decide) rfl (fun ls hl => ?_)
          refine lv_iload_n hx hb d_WM_coinsOfMen_17 rfl (lv_at hl 2 rfl) ?_
          refine lv_aload_n hx hb d_WM_coinsOfMen_18 rfl (lv_at hl 0 rfl) ?_
          refine lv_ifnonnull (tgt := 26) hx hb d_WM_coinsOfMen_19 (by decide) ?_
          refine lv_aload_n hx hb d_WM_coinsOfMen_26 rfl (lv_at hl 0 rfl) ?_
          refine tw_geti (D := (dC, dI)) (C := R_Mn) (T := F_Mn) (N := 8) (ci := 2) (kd := 20) (ct := ct) hx hb htb i_Mn hown hK hP hO_0 m_4 rfl rfl 4 (by decide) (htb (.fieldLink R_WM 152 "WaterMen$Man" "coins" "I") tw_39) (fun _ h9 => h9) rfl d_WM_coinsOfMen_27 (fun x_5 e_5 b_5 => ?_)
          have hQ := hQ x_5 e_5
          refine lv_iadd hx hb d_WM_coinsOfMen_30 ?_
          refine lv_istore_n (lv' := [(1, .int (v1_1 + x_5)), (3, .ref q_4), (0, .ref q0), (2, .int v2_1)]) hx hb d_WM_coinsOfMen_31 rfl hl (by decide) rfl (fun ls hl => ?_)
          refine lv_iinc (v := (v2_1 + 1)) (lv' := [(2, .int (v2_1 + 1)), (1, .int (v1_1 + x_5)), (3, .ref q_4), (0, .ref q0)]) hx hb d_WM_coinsOfMen_32 hl (k := 3) rfl rfl (by decide) rfl (fun ls hl => ?_)
          refine lv_goto (tgt := 4) hx hb d_WM_coinsOfMen_35 (by decide) ?_
          exact ih_1 (n_1 - 1) (ms_1 ((fun (a_0 : Int32) (k_0 : ¬ (40 ≤ a_0)) => (show 1 ≤ (40 : Int32).toInt - (a_0).toInt ∧ (40 : Int32).toInt - ((a_0) + (1 : Int32)).toInt + 1 ≤ (40 : Int32).toInt - (a_0).toInt from by have z0 : (1 : Int32).toInt = 1 := (by decide +kernel); have z1 : (40 : Int32).toInt = 40 := (by decide +kernel); have r0 := fb_rng (a_0); have e0 := k_0; rw [Int32.le_iff_toInt_le, z1] at e0; obtain ⟨n_0, hn_0, s0⟩ := nd_add (x := (a_0)) (y := (1 : Int32)) (by (try rw [z0]); omega) (by (try rw [z0]); omega); rw [z0] at s0; rw [hn_0]; (try rw [z1]); omega)) v2_1 c_2) hm_1) (v1_1 + x_5) (v2_1 + 1) _ (show ¬ ((v2_1 + 1) < 0) from by have e0 := iv0_1; rw [Int32.lt_iff_toInt_lt] at e0; have e1 := c_2; rw [Int32.le_iff_toInt_le] at e1; have z0 : (0 : Int32).toInt = 0 := (by decide +kernel); have z1 : (1 : Int32).toInt = 1 := (by decide +kernel); have z2 : (40 : Int32).toInt = 40 := (by decide +kernel); have ss := fb_addI (x := v2_1) (y := 1) (by omega) (by omega); rw [Int32.lt_iff_toInt_lt]; omega) (show ¬ (40 < (v2_1 + 1)) from by have e0 := iv0_1; rw [Int32.lt_iff_toInt_lt] at e0; have e1 := c_2; rw [Int32.le_iff_toInt_le] at e1; have z0 : (0 : Int32).toInt = 0 := (by decide +kernel); have z1 : (1 : Int32).toInt = 1 := (by decide +kernel); have z2 : (40 : Int32).toInt = 40 := (by decide +kernel); have ss := fb_addI (x := v2_1) (y := 1) (by omega) (by omega); rw [Int32.lt_iff_toInt_lt]; omega) (by exact ms_2 ((fun (a_0 : Int32) (k_0 : ¬ (40 ≤ a_0)) => (show 1 ≤ (40 : Int32).toInt - (a_0).toInt ∧ (40 : Int32).toInt - ((a_0) + (1 : Int32)).toInt + 1 ≤ (40 : Int32).toInt - (a_0).toInt from by have z0 : (1 : Int32).toInt = 1 := (by decide +kernel); have z1 : (40 : Int32).toInt = 40 := (by decide +kernel); have r0 := fb_rng (a_0); have e0 := k_0; rw [Int32.le_iff_toInt_le, z1] at e0; obtain ⟨n_0, hn_0, s0⟩ := nd_add (x := (a_0)) (y := (1 : Int32)) (by (try rw [z0]); omega) (by (try rw [z0]); omega); rw [z0] at s0; rw [hn_0]; (try rw [z1]); omega)) v2_1 c_2) hm_1) (by rw [← hrec_1, wpR_WM_coinsOfMen_w_4_1_pos (ms_3 ((fun (a_0 : Int32) (k_0 : ¬ (40 ≤ a_0)) => (show 1 ≤ (40 : Int32).toInt - (a_0).toInt ∧ (40 : Int32).toInt - ((a_0) + (1 : Int32)).toInt + 1 ≤ (40 : Int32).toInt - (a_0).toInt from by have z0 : (1 : Int32).toInt = 1 := (by decide +kernel); have z1 : (40 : Int32).toInt = 40 := (by decide +kernel); have r0 := fb_rng (a_0); have e0 := k_0; rw [Int32.le_iff_toInt_le, z1] at e0; obtain ⟨n_0, hn_0, s0⟩ := nd_add (x := (a_0)) (y := (1 : Int32)) (by (try rw [z0]); omega) (by (try rw [z0]); omega); rw [z0] at s0; rw [hn_0]; (try rw [z1]); omega)) v2_1 c_2) hm_1)] at hQ; exact hQ) (lv_sub hl [3, 1, 0] rfl)
  exact cut_1 ((40 : Int32).toInt - (0 : Int32).toInt).toNat (0 : Int32) (0 : Int32) _ (by decide +kernel) (by decide +kernel) (by exact ms_e _ _) hQ (lv_sub hl [2, 1, 0] rfl)
def wp_WM_coins_w (L : List Nat) (f : TF) (q0 : Nat) (p_0 : Int32) (Q : Int32 → Prop) : Prop := ((p_0 = 0 → ∀ q_2 : Nat, tr f q0 6 = some q_2 → ∀ x_3 : Int32, ti f q_2 0 = x_3 → Q x_3) ∧ (¬ (p_0 = 0) → ((p_0 = 1 → ∀ q_5 : Nat, tr f q0 6 = some q_5 → ∀ x_6 : Int32, ti f q_5 1 = x_6 → Q x_6) ∧ (¬ (p_0 = 1) → ((p_0 = 2 → wp_WM_coinsOfMen_w L f q0 (fun (r_8 : Int32) => Q r_8)) ∧ (¬ (p_0 = 2) → ((p_0 = 3 → ∀ q_10 : Nat, tr f q0 6 = some q_10 → ∀ x_11 : Int32, ti f q_10 2 = x_11 → Q x_11) ∧ (¬ (p_0 = 3) → ((p_0 = 4 → ∀ q_13 : Nat, tr f q0 6 = some q_13 → ∀ x_14 : Int32, ti f q_13 3 = x_14 → Q x_14) ∧ (¬ (p_0 = 4) → Q (-1)))))))))))
set_option maxHeartbeats 4000000 in
set_option maxRecDepth 100000 in
theorem c_WM_coins_w (l : Launch) (dC : Nat → ClassId) (dI : Nat → Nat → Nat) (ct : Nat → ClassId) (L : List Nat) (f : TF) (hO_0 : Ok L f) (q0 : Nat) (m0 : q0 ∈ L ∧ tk f q0 = 0) (p_0 : Int32)   (Q : Int32 → Prop) (hQ : wp_WM_coins_w L f q0 p_0 Q) : Met l y_WM_coins (.code y_WM_coins b_WM_coins 2 (some .int) :: TB) ({ frames := 1, cells := 0, slots := 0, locals := 23 }) (va_Pc [.ref q0, .int p_0] (PR dC dI (TW ct L f) (TT ct))) (vp_Si (fun r => (True) ∧ Q r)) 0 0 (fun _ => False) := by
  refine Met.ofW (cc := b_WM_coins) (maxL := 2) (ret := (some .int)) (by decide) rfl ?_
  intro p e s m args below meth c s₁ B hml hv
  obtain ⟨rfl, hP, hK, hN⟩ := hv
  have hx := B.exec
  have hb := B.bytes
  have hr := B.returns
  have hts := atoms_spec (ws := (.code y_WM_coins b_WM_coins 2 (some .int) :: TB)) B.pre
  have htb := fun w (h : w ∈ TB) => hts w (List.mem_cons_of_mem _ h)
  have hown : s.vm.findClass R_WM = some m.cls := findClass_of_methodNamed B.named
  have hlocks := B.notSynchronized
  have hl := lv_entry ([.ref q0, .int p_0]) (n := 2) (Nat.le_of_ble_eq_true rfl)
  rw [lg_entry_eq]
  generalize (lg_sl ([.ref q0, .int p_0]) ++ List.replicate (2 - (lg_sl ([.ref q0, .int p_0])).length) Slot.unset).toArray = ls at hl ⊢
  have hl : lv_has ls 2 [(0, .ref q0), (1, .int p_0)] := hl
  unfold wp_WM_coins_w at hQ
  refine lv_iload_n hx hb d_WM_coins_0 rfl (lv_at hl 1 rfl) ?_
  by_cases c_1 : p_0 = 0
  · have hQ := hQ.1 c_1
    refine lv_tableIn (off := 35) (tgt := 36) hx hb d_WM_coins_1 (by rw [c_1]; decide +kernel) (by rw [c_1]; decide +kernel) (by rw [c_1]; decide +kernel) (by decide) ?_
    refine lv_aload_n hx hb d_WM_coins_36 rfl (lv_at hl 0 rfl) ?_
    refine tw_getr (D := (dC, dI)) (C := R_WM) (T := F_WM) (N := 13) (ci := 0) (kd := 0) (ct := ct) hx hb htb i_WM hown hK hP hO_0 m0 rfl rfl 6 (by decide) (htb (.fieldLink R_WM 50 "WaterMen" "box" "LWaterMen$Box;") tw_165) (fun _ h9 => h9) rfl d_WM_coins_37 (fun q_2 e_2 m_2 => ?_)
    have hQ := hQ q_2 e_2
    refine tw_geti (D := (dC, dI)) (C := R_Bx) (T := F_Bx) (N := 7) (ci := 5) (kd := 12) (ct := ct) hx hb htb i_Bx hown hK hP hO_0 m_2 rfl rfl 0 (by decide) (htb (.fieldLink R_WM 343 "WaterMen$Box" "coins" "I") tw_670) (fun _ h9 => h9) rfl d_WM_coins_40 (fun x_3 e_3 b_3 => ?_)
    have hQ := hQ x_3 e_3
    exact W.iret (v := x_3) hx hb hr (fun t ht hW => ⟨x_3, rfl, ⟨trivial, hQ⟩, ht⟩) t_nil d_WM_coins_43
  · have hQ := hQ.2 c_1
    by_cases c_4 : p_0 = 1
    · have hQ := hQ.1 c_4
      refine lv_tableIn (off := 43) (tgt := 44) hx hb d_WM_coins_1 (by rw [c_4]; decide +kernel) (by rw [c_4]; decide +kernel) (by rw [c_4]; decide +kernel) (by decide) ?_
      refine lv_aload_n hx hb d_WM_coins_44 rfl (lv_at hl 0 rfl) ?_
      refine tw_getr (D := (dC, dI)) (C := R_WM) (T := F_WM) (N := 13) (ci := 0) (kd := 0) (ct := ct) hx hb htb i_WM hown hK hP hO_0 m0 rfl rfl 6 (by decide) (htb (.fieldLink R_WM 50 "WaterMen" "box" "LWaterMen$Box;") tw_165) (fun _ h9 => h9) rfl d_WM_coins_45 (fun q_5 e_5 m_5 => ?_)
      have hQ := hQ q_5 e_5
      refine tw_geti (D := (dC, dI)) (C := R_Bx) (T := F_Bx) (N := 7) (ci := 5) (kd := 12) (ct := ct) hx hb htb i_Bx hown hK hP hO_0 m_5 rfl rfl 1 (by decide) (htb (.fieldLink R_WM 344 "WaterMen$Box" "pot" "I") tw_166) (fun _ h9 => h9) rfl d_WM_coins_48 (fun x_6 e_6 b_6 => ?_)
      have hQ := hQ x_6 e_6
      exact W.iret (v := x_6) hx hb hr (fun t ht hW => ⟨x_6, rfl, ⟨trivial, hQ⟩, ht⟩) t_nil d_WM_coins_51
    · have hQ := hQ.2 c_4
      by_cases c_7 : p_0 = 2
      · have hQ := hQ.1 c_7
        refine lv_tableIn (off := 51) (tgt := 52) hx hb d_WM_coins_1 (by rw [c_7]; decide +kernel) (by rw [c_7]; decide +kernel) (by rw [c_7]; decide +kernel) (by decide) ?_
        refine lv_aload_n hx hb d_WM_coins_52 rfl (lv_at hl 0 rfl) ?_
        refine vp_callSi (va_Run.run (va_runV (As := []) (rest := []) ⟨hx, hb, hml, hown, htb⟩ (c_WM_coinsOfMen_w l dC dI ct L f hO_0 q0 m0 _ hQ) (cwV 0 htb (gd_V tw_672 tw_673 tw_674 tw_26 tw_671) rfl rfl rfl (by decide +kernel) ⟨Nat.le_of_ble_eq_true rfl, Nat.le_of_ble_eq_true rfl⟩) ⟨pr_blind, tw_recv hK hP m0 rfl rfl, pr_pre hP hK hN⟩ rfl rfl hl.1 rfl (lv_room (Nat.le_of_ble_eq_true rfl)) d_WM_coins_53 ⟨Nat.le_of_ble_eq_true rfl, Nat.le_of_ble_eq_true rfl⟩)) (fun r_8 er_8 => ?_)
        obtain ⟨er_8, hQ⟩ := er_8
        clear er_8
        exact W.iret (v := r_8) hx hb hr (fun t ht hW => ⟨r_8, rfl, ⟨trivial, hQ⟩, ht⟩) t_nil d_WM_coins_56
      · have hQ := hQ.2 c_7
        by_cases c_9 : p_0 = 3
        · have hQ := hQ.1 c_9
          refine lv_tableIn (off := 56) (tgt := 57) hx hb d_WM_coins_1 (by rw [c_9]; decide +kernel) (by rw [c_9]; decide +kernel) (by rw [c_9]; decide +kernel) (by decide) ?_
          refine lv_aload_n hx hb d_WM_coins_57 rfl (lv_at hl 0 rfl) ?_
          refine tw_getr (D := (dC, dI)) (C := R_WM) (T := F_WM) (N := 13) (ci := 0) (kd := 0) (ct := ct) hx hb htb i_WM hown hK hP hO_0 m0 rfl rfl 6 (by decide) (htb (.fieldLink R_WM 50 "WaterMen" "box" "LWaterMen$Box;") tw_165) (fun _ h9 => h9) rfl d_WM_coins_58 (fun q_10 e_10 m_10 => ?_)
          have hQ := hQ q_10 e_10
          refine tw_geti (D := (dC, dI)) (C := R_Bx) (T := F_Bx) (N := 7) (ci := 5) (kd := 12) (ct := ct) hx hb htb i_Bx hown hK hP hO_0 m_10 rfl rfl 2 (by decide) (htb (.fieldLink R_WM 350 "WaterMen$Box" "allPaid" "I") tw_599) (fun _ h9 => h9) rfl d_WM_coins_61 (fun x_11 e_11 b_11 => ?_)
          have hQ := hQ x_11 e_11
          exact W.iret (v := x_11) hx hb hr (fun t ht hW => ⟨x_11, rfl, ⟨trivial, hQ⟩, ht⟩) t_nil d_WM_coins_64
        · have hQ := hQ.2 c_9
          by_cases c_12 : p_0 = 4
          · have hQ := hQ.1 c_12
            refine lv_tableIn (off := 64) (tgt := 65) hx hb d_WM_coins_1 (by rw [c_12]; decide +kernel) (by rw [c_12]; decide +kernel) (by rw [c_12]; decide +kernel) (by decide) ?_
            refine lv_aload_n hx hb d_WM_coins_65 rfl (lv_at hl 0 rfl) ?_
            refine tw_getr (D := (dC, dI)) (C := R_WM) (T := F_WM) (N := 13) (ci := 0) (kd := 0) (ct := ct) hx hb htb i_WM hown hK hP hO_0 m0 rfl rfl 6 (by decide) (htb (.fieldLink R_WM 50 "WaterMen" "box" "LWaterMen$Box;") tw_165) (fun _ h9 => h9) rfl d_WM_coins_66 (fun q_13 e_13 m_13 => ?_)
            have hQ := hQ q_13 e_13
            refine tw_geti (D := (dC, dI)) (C := R_Bx) (T := F_Bx) (N := 7) (ci := 5) (kd := 12) (ct := ct) hx hb htb i_Bx hown hK hP hO_0 m_13 rfl rfl 3 (by decide) (htb (.fieldLink R_WM 353 "WaterMen$Box" "allPensions" "I") tw_675) (fun _ h9 => h9) rfl d_WM_coins_69 (fun x_14 e_14 b_14 => ?_)
            have hQ := hQ x_14 e_14
            exact W.iret (v := x_14) hx hb hr (fun t ht hW => ⟨x_14, rfl, ⟨trivial, hQ⟩, ht⟩) t_nil d_WM_coins_72
          · have hQ := hQ.2 c_12
            refine lv_tableOut (tgt := 73) hx hb d_WM_coins_1 (by have h0 := lv_neT c_1 (show (0 : Int32).toInt = 0 by decide +kernel); have h1 := lv_neT c_4 (show (1 : Int32).toInt = 1 by decide +kernel); have h2 := lv_neT c_7 (show (2 : Int32).toInt = 2 by decide +kernel); have h3 := lv_neT c_9 (show (3 : Int32).toInt = 3 by decide +kernel); have h4 := lv_neT c_12 (show (4 : Int32).toInt = 4 by decide +kernel); omega) (by decide) ?_
            refine lv_iconst (v := (-1)) hx hb d_WM_coins_73 (by decide +kernel) ?_
            exact W.iret (v := (-1)) hx hb hr (fun t ht hW => ⟨(-1), rfl, ⟨trivial, hQ⟩, ht⟩) t_nil d_WM_coins_74
def wpB_Md_coins_w_51_8 (L : List Nat) (f : TF) (q0 : Nat) (p_0 : Int32) (Q : Int32 → Prop) (rec_8 : Int32 → Int64 → Prop) (v4_8 : Int32) (v2_8 : Int64) : Prop := ((40 ≤ v4_8 → ∀ y_10 : Int32, y_10 = (v2_8 : Int64).toInt32 → Q y_10) ∧ (¬ (40 ≤ v4_8) → ∀ q_11 : Nat, tr f q0 15 = some q_11 → ∀ x_12 : Int32, ti f q_11 (v4_8 : Int32).toNatClampNeg = x_12 → ∀ y_13 : Int64, y_13 = (v2_8 : Int64) + ((x_12 : Int32).toInt64 : Int64) → rec_8 (v4_8 + 1) y_13))
def wpL_Md_coins_w_51_8 (L : List Nat) (f : TF) (q0 : Nat) (p_0 : Int32) (Q : Int32 → Prop) : Nat → Int32 → Int64 → Prop
  | 0 => fun v4_8 v2_8 => wpB_Md_coins_w_51_8 L f q0 p_0 Q (fun _ _ => True) v4_8 v2_8
  | n + 1 => fun v4_8 v2_8 => wpB_Md_coins_w_51_8 L f q0 p_0 Q (wpL_Md_coins_w_51_8 L f q0 p_0 Q n) v4_8 v2_8
def wpR_Md_coins_w_51_8 (L : List Nat) (f : TF) (q0 : Nat) (p_0 : Int32) (Q : Int32 → Prop) : Nat → Int32 → Int64 → Prop
  | 0 => fun _ _ => True
  | n + 1 => wpL_Md_coins_w_51_8 L f q0 p_0 Q n
theorem wpL_Md_coins_w_51_8_eq {L : List Nat} {f : TF} {q0 : Nat} {p_0 : Int32} {Q : Int32 → Prop} {n : Nat} : wpL_Md_coins_w_51_8 L f q0 p_0 Q n = wpB_Md_coins_w_51_8 L f q0 p_0 Q (wpR_Md_coins_w_51_8 L f q0 p_0 Q n) := by cases n <;> rfl
theorem wpR_Md_coins_w_51_8_pos {L : List Nat} {f : TF} {q0 : Nat} {p_0 : Int32} {Q : Int32 → Prop} {n : Nat} (h : 0 < n) : wpR_Md_coins_w_51_8 L f q0 p_0 Q n = wpL_Md_coins_w_51_8 L f q0 p_0 Q (n - 1) := by
  cases n with
  | zero => omega
  | succ n => rfl
def wpB_Md_coins_w_81_15 (L : List Nat) (f : TF) (q0 : Nat) (p_0 : Int32) (Q : Int32 → Prop) (rec_15 : Int32 → Int64 → Prop) (v4_15 : Int32) (v2_15 : Int64) : Prop := ∀ x_16 : Int32, ti f q0 47 = x_16 → ((x_16 ≤ v4_15 → ∀ y_18 : Int32, y_18 = (v2_15 : Int64).toInt32 → Q y_18) ∧ (¬ (x_16 ≤ v4_15) → ∀ q_19 : Nat, tr f q0 54 = some q_19 → ∀ x_20 : Int32, ti f q_19 (v4_15 : Int32).toNatClampNeg = x_20 → ∀ y_21 : Int64, y_21 = (v2_15 : Int64) + ((x_20 : Int32).toInt64 : Int64) → rec_15 (v4_15 + 1) y_21))
def wpL_Md_coins_w_81_15 (L : List Nat) (f : TF) (q0 : Nat) (p_0 : Int32) (Q : Int32 → Prop) : Nat → Int32 → Int64 → Prop
  | 0 => fun v4_15 v2_15 => wpB_Md_coins_w_81_15 L f q0 p_0 Q (fun _ _ => True) v4_15 v2_15
  | n + 1 => fun v4_15 v2_15 => wpB_Md_coins_w_81_15 L f q0 p_0 Q (wpL_Md_coins_w_81_15 L f q0 p_0 Q n) v4_15 v2_15
def wpR_Md_coins_w_81_15 (L : List Nat) (f : TF) (q0 : Nat) (p_0 : Int32) (Q : Int32 → Prop) : Nat → Int32 → Int64 → Prop
  | 0 => fun _ _ => True
  | n + 1 => wpL_Md_coins_w_81_15 L f q0 p_0 Q n
theorem wpL_Md_coins_w_81_15_eq {L : List Nat} {f : TF} {q0 : Nat} {p_0 : Int32} {Q : Int32 → Prop} {n : Nat} : wpL_Md_coins_w_81_15 L f q0 p_0 Q n = wpB_Md_coins_w_81_15 L f q0 p_0 Q (wpR_Md_coins_w_81_15 L f q0 p_0 Q n) := by cases n <;> rfl
theorem wpR_Md_coins_w_81_15_pos {L : List Nat} {f : TF} {q0 : Nat} {p_0 : Int32} {Q : Int32 → Prop} {n : Nat} (h : 0 < n) : wpR_Md_coins_w_81_15 L f q0 p_0 Q n = wpL_Md_coins_w_81_15 L f q0 p_0 Q (n - 1) := by
  cases n with
  | zero => omega
  | succ n => rfl
def wp_Md_coins_w (L : List Nat) (f : TF) (q0 : Nat) (p_0 : Int32) (Q : Int32 → Prop) : Prop := ((p_0 = 0 → ∀ x_2 : Int64, tl f q0 56 = x_2 → ∀ y_3 : Int32, y_3 = (x_2 : Int64).toInt32 → Q y_3) ∧ (¬ (p_0 = 0) → ((p_0 = 1 → ∀ x_5 : Int64, tl f q0 57 = x_5 → ∀ y_6 : Int32, y_6 = (x_5 : Int64).toInt32 → Q y_6) ∧ (¬ (p_0 = 1) → ((p_0 = 2 → wpL_Md_coins_w_51_8 L f q0 p_0 Q (((40 : Int32).toInt - (0 : Int32).toInt).toNat) (0 : Int32) 0) ∧ (¬ (p_0 = 2) → ((p_0 = 3 → wpL_Md_coins_w_81_15 L f q0 p_0 Q (((600 : Int32).toInt - (0 : Int32).toInt).toNat) (0 : Int32) 0) ∧ (¬ (p_0 = 3) → ((p_0 = 4 → ∀ x_23 : Int64, tl f q0 58 = x_23 → ∀ y_24 : Int32, y_24 = (x_23 : Int64).toInt32 → Q y_24) ∧ (¬ (p_0 = 4) → Q (-1)))))))))))
set_option maxHeartbeats 4000000 in
set_option maxRecDepth 100000 in
theorem c_Md_coins_w (l : Launch) (dC : Nat → ClassId) (dI : Nat → Nat → Nat) (ct : Nat → ClassId) (L : List Nat) (f : TF) (hO_0 : Ok L f) (q0 : Nat) (m0 : q0 ∈ L ∧ tk f q0 = 27) (p_0 : Int32)   (Q : Int32 → Prop) (hQ : wp_Md_coins_w L f q0 p_0 Q) : Met l y_Md_coins (.code y_Md_coins b_Md_coins 5 (some .int) :: TB) ({ frames := 0, cells := 0, slots := 0, locals := 0 }) (va_Pc [.ref q0, .int p_0] (PR dC dI (TW ct L f) (TT ct))) (vp_Si (fun r => (True) ∧ Q r)) 0 0 (fun _ => False) := by
  refine Met.ofW (cc := b_Md_coins) (maxL := 5) (ret := (some .int)) (by decide) rfl ?_
  intro p e s m args below meth c s₁ B hml hv
  obtain ⟨rfl, hP, hK, hN⟩ := hv
  have hx := B.exec
  have hb := B.bytes
  have hr := B.returns
  have hts := atoms_spec (ws := (.code y_Md_coins b_Md_coins 5 (some .int) :: TB)) B.pre
  have htb := fun w (h : w ∈ TB) => hts w (List.mem_cons_of_mem _ h)
  have hown : s.vm.findClass R_Md = some m.cls := findClass_of_methodNamed B.named
  have hlocks := B.notSynchronized
  have hl := lv_entry ([.ref q0, .int p_0]) (n := 5) (Nat.le_of_ble_eq_true rfl)
  rw [lg_entry_eq]
  generalize (lg_sl ([.ref q0, .int p_0]) ++ List.replicate (5 - (lg_sl ([.ref q0, .int p_0])).length) Slot.unset).toArray = ls at hl ⊢
  have hl : lv_has ls 5 [(0, .ref q0), (1, .int p_0)] := hl
  unfold wp_Md_coins_w at hQ
  refine lv_lconst (v := 0) hx hb d_Md_coins_0 (by decide +kernel) ?_
  refine lv_lstore_n (lv' := [(2, .long 0), (0, .ref q0), (1, .int p_0)]) hx hb d_Md_coins_1 rfl hl (by decide) rfl (fun ls hl => ?_)
  refine lv_iload_n hx hb d_Md_coins_2 rfl (lv_at hl 2 rfl) ?_
  by_cases c_1 : p_0 = 0
  · have hQ := hQ.1 c_1
    refine lv_tableIn (off := 33) (tgt := 36) hx hb d_Md_coins_3 (by rw [c_1]; decide +kernel) (by rw [c_1]; decide +kernel) (by rw [c_1]; decide +kernel) (by decide) ?_
    refine lv_aload_n hx hb d_Md_coins_36 rfl (lv_at hl 1 rfl) ?_
    refine tw_getl (D := (dC, dI)) (C := R_Md) (T := F_Md) (N := 64) (ci := 7) (kd := 27) (ct := ct) hx hb htb i_Md hown hK hP m0 rfl rfl 56 (by decide) (htb (.fieldLink R_Md 316 "WaterMenModel" "box" "J") tw_204) (fun _ h9 => h9) rfl d_Md_coins_37 (fun x_2 e_2 => ?_)
    have hQ := hQ x_2 e_2
    refine lv_l2i hx hb d_Md_coins_40 rfl ?_
    refine hb_eqi (fun y_3 hy_3 => ?_)
    have hQ := hQ y_3 hy_3
    exact W.iret (v := y_3) hx hb hr (fun t ht hW => ⟨y_3, rfl, ⟨trivial, hQ⟩, ht⟩) t_nil d_Md_coins_41
  · have hQ := hQ.2 c_1
    by_cases c_4 : p_0 = 1
    · have hQ := hQ.1 c_4
      refine lv_tableIn (off := 39) (tgt := 42) hx hb d_Md_coins_3 (by rw [c_4]; decide +kernel) (by rw [c_4]; decide +kernel) (by rw [c_4]; decide +kernel) (by decide) ?_
      refine lv_aload_n hx hb d_Md_coins_42 rfl (lv_at hl 1 rfl) ?_
      refine tw_getl (D := (dC, dI)) (C := R_Md) (T := F_Md) (N := 64) (ci := 7) (kd := 27) (ct := ct) hx hb htb i_Md hown hK hP m0 rfl rfl 57 (by decide) (htb (.fieldLink R_Md 320 "WaterMenModel" "pot" "J") tw_212) (fun _ h9 => h9) rfl d_Md_coins_43 (fun x_5 e_5 => ?_)
      have hQ := hQ x_5 e_5
      refine lv_l2i hx hb d_Md_coins_46 rfl ?_
      refine hb_eqi (fun y_6 hy_6 => ?_)
      have hQ := hQ y_6 hy_6
      exact W.iret (v := y_6) hx hb hr (fun t ht hW => ⟨y_6, rfl, ⟨trivial, hQ⟩, ht⟩) t_nil d_Md_coins_47
    · have hQ := hQ.2 c_4
      by_cases c_7 : p_0 = 2
      · have hQ := hQ.1 c_7
        refine lv_tableIn (off := 45) (tgt := 48) hx hb d_Md_coins_3 (by rw [c_7]; decide +kernel) (by rw [c_7]; decide +kernel) (by rw [c_7]; decide +kernel) (by decide) ?_
        refine lv_iconst (v := 0) hx hb d_Md_coins_48 (by decide +kernel) ?_
        refine lv_istore (lv' := [(4, .int 0), (2, .long 0), (0, .ref q0), (1, .int p_0)]) hx hb d_Md_coins_49 hl (by decide) rfl (fun ls hl => ?_)
        have cut_8 : ∀ (n_8 : Nat) (v4_8 : Int32) (v2_8 : Int64) (ls : Array Slot), ¬ (v4_8 < 0) → ¬ (40 < v4_8) → (40 : Int32).toInt - (v4_8 : Int32).toInt ≤ (n_8 : Int) → wpL_Md_coins_w_51_8 L f q0 p_0 Q n_8 v4_8 v2_8 → lv_has ls 5 [(0, .ref q0), (2, .long v2_8), (4, .int v4_8)] → W p l e (headSpec (.code y_Md_coins b_Md_coins 5 (some .int) :: TB) ({ frames := 0, cells := 0, slots := 0, locals := 0 })).room s m [.ref q0, .int p_0].toArray below meth c s.heap [] 0 0 (MQ below (vp_Si (fun r => (True) ∧ Q r)) [.ref q0, .int p_0].toArray s 0 0 (fun _ => False)) (F0 m 51 ls []) := by
          intro n_8
          induction n_8 using Nat.strongRecOn with
          | _ n_8 ih_8 =>
            intro v4_8 v2_8 ls iv0_8 iv1_8 hm_8 hQ hl
            rw [wpL_Md_coins_w_51_8_eq] at hQ
            obtain ⟨rec_8, hrec_8⟩ : ∃ g, wpR_Md_coins_w_51_8 L f q0 p_0 Q n_8 = g := ⟨_, rfl⟩
            rw [hrec_8] at hQ
            unfold wpB_Md_coins_w_51_8 at hQ
            refine lv_iload hx hb d_Md_coins_51 (lv_at hl 2 rfl) ?_
            refine lv_bipush (v := 40) hx hb d_Md_coins_53 (by decide +kernel) ?_
            refine lv_icmp_ge (tgt := 75) hx hb d_Md_coins_55 (by decide) (fun c_9 => ?_) (fun c_9 => ?_)
            · have hQ := hQ.1 c_9
              refine lv_lload_n hx hb d_Md_coins_75 rfl (lv_at hl 1 rfl) ?_
              refine lv_l2i hx hb d_Md_coins_76 rfl ?_
              refine hb_eqi (fun y_10 hy_10 => ?_)
              have hQ := hQ y_10 hy_10
              exact W.iret (v := y_10) hx hb hr (fun t ht hW => ⟨y_10, rfl, ⟨trivial, hQ⟩, ht⟩) t_nil d_Md_coins_77
            · have hQ := hQ.2 c_9
              refine lv_lload_n hx hb d_Md_coins_58 rfl (lv_at hl 1 rfl) ?_
              refine lv_aload_n hx hb d_Md_coins_59 rfl (lv_at hl 0 rfl) ?_
              refine tw_getr (D := (dC, dI)) (C := R_Md) (T := F_Md) (N := 64) (ci := 7) (kd := 27) (ct := ct) hx hb htb i_Md hown hK hP hO_0 m0 rfl rfl 15 (by decide) (htb (.fieldLink R_Md 76 "WaterMenModel" "coins" "[I") tw_68) (fun _ h9 => h9) rfl d_Md_coins_60 (fun q_11 e_11 m_11 => ?_)
              have hQ := hQ q_11 e_11
              refine lv_iload hx hb d_Md_coins_63 (lv_at hl 2 rfl) ?_
              refine tw_aldI (ct := ct) hx hb hK hP hO_0 m_11 rfl (hb_in iv0_8 c_9 (by decide +kernel)) d_Md_coins_65 (fun x_12 e_12 b_12 => ?_)
              have hQ := hQ x_12 e_12
              refine lv_i2l hx hb d_Md_coins_66 rfl ?_
              refine lv_ladd hx hb d_Md_coins_67 ?_
              refine hb_eql (fun y_13 hy_13 => ?_)
              have hQ := hQ y_13 hy_13
              refine lv_lstore_n (lv' := [(2, .long y_13), (0, .ref q0), (4, .int v4_8)]) hx hb d_Md_coins_68 rfl hl (by decide) rfl (fun ls hl => ?_)
              refine lv_iinc (v := (v4_8 + 1)) (lv' := [(4, .int (v4_8 + 1)), (2, .long y_13), (0, .ref q0)]) hx hb d_Md_coins_69 hl (k := 2) rfl rfl (by decide) rfl (fun ls hl => ?_)
              refine lv_goto (tgt := 51) hx hb d_Md_coins_72 (by decide) ?_
              exact ih_8 (n_8 - 1) (ms_1 ((fun (a_0 : Int32) (k_0 : ¬ (40 ≤ a_0)) => (show 1 ≤ (40 : Int32).toInt - (a_0).toInt ∧ (40 : Int32).toInt - ((a_0) + (1 : Int32)).toInt + 1 ≤ (40 : Int32).toInt - (a_0).toInt from by have z0 : (1 : Int32).toInt = 1 := (by decide +kernel); have z1 : (40 : Int32).toInt = 40 := (by decide +kernel); have r0 := fb_rng (a_0); have e0 := k_0; rw [Int32.le_iff_toInt_le, z1] at e0; obtain ⟨n_0, hn_0, s0⟩ := nd_add (x := (a_0)) (y := (1 : Int32)) (by (try rw [z0]); omega) (by (try rw [z0]); omega); rw [z0] at s0; rw [hn_0]; (try rw [z1]); omega)) v4_8 c_9) hm_8) (v4_8 + 1) y_13 _ (show ¬ ((v4_8 + 1) < 0) from by have e0 := iv0_8; rw [Int32.lt_iff_toInt_lt] at e0; have e1 := c_9; rw [Int32.le_iff_toInt_le] at e1; have z0 : (0 : Int32).toInt = 0 := (by decide +kernel); have z1 : (1 : Int32).toInt = 1 := (by decide +kernel); have z2 : (40 : Int32).toInt = 40 := (by decide +kernel); have ss := fb_addI (x := v4_8) (y := 1) (by omega) (by omega); rw [Int32.lt_iff_toInt_lt]; omega) (show ¬ (40 < (v4_8 + 1)) from by have e0 := iv0_8; rw [Int32.lt_iff_toInt_lt] at e0; have e1 := c_9; rw [Int32.le_iff_toInt_le] at e1; have z0 : (0 : Int32).toInt = 0 := (by decide +kernel); have z1 : (1 : Int32).toInt = 1 := (by decide +kernel); have z2 : (40 : Int32).toInt = 40 := (by decide +kernel); have ss := fb_addI (x := v4_8) (y := 1) (by omega) (by omega); rw [Int32.lt_iff_toInt_lt]; omega) (by exact ms_2 ((fun (a_0 : Int32) (k_0 : ¬ (40 ≤ a_0)) => (show 1 ≤ (40 : Int32).toInt - (a_0).toInt ∧ (40 : Int32).toInt - ((a_0) + (1 : Int32)).toInt + 1 ≤ (40 : Int32).toInt - (a_0).toInt from by have z0 : (1 : Int32).toInt = 1 := (by decide +kernel); have z1 : (40 : Int32).toInt = 40 := (by decide +kernel); have r0 := fb_rng (a_0); have e0 := k_0; rw [Int32.le_iff_toInt_le, z1] at e0; obtain ⟨n_0, hn_0, s0⟩ := nd_add (x := (a_0)) (y := (1 : Int32)) (by (try rw [z0]); omega) (by (try rw [z0]); omega); rw [z0] at s0; rw [hn_0]; (try rw [z1]); omega)) v4_8 c_9) hm_8) (by rw [← hrec_8, wpR_Md_coins_w_51_8_pos (ms_3 ((fun (a_0 : Int32) (k_0 : ¬ (40 ≤ a_0)) => (show 1 ≤ (40 : Int32).toInt - (a_0).toInt ∧ (40 : Int32).toInt - ((a_0) + (1 : Int32)).toInt + 1 ≤ (40 : Int32).toInt - (a_0).toInt from by have z0 : (1 : Int32).toInt = 1 := (by decide +kernel); have z1 : (40 : Int32).toInt = 40 := (by decide +kernel); have r0 := fb_rng (a_0); have e0 := k_0; rw [Int32.le_iff_toInt_le, z1] at e0; obtain ⟨n_0, hn_0, s0⟩ := nd_add (x := (a_0)) (y := (1 : Int32)) (by (try rw [z0]); omega) (by (try rw [z0]); omega); rw [z0] at s0; rw [hn_0]; (try rw [z1]); omega)) v4_8 c_9) hm_8)] at hQ; exact hQ) (lv_sub hl [2, 1, 0] rfl)
        exact cut_8 ((40 : Int32).toInt - (0 : Int32).toInt).toNat (0 : Int32) 0 _ (by decide +kernel) (by decide +kernel) (by exact ms_e _ _) hQ (lv_sub hl [2, 1, 0] rfl)
      · have hQ := hQ.2 c_7
        by_cases c_14 : p_0 = 3
        · have hQ := hQ.1 c_14
          refine lv_tableIn (off := 75) (tgt := 78) hx hb d_Md_coins_3 (by rw [c_14]; decide +kernel) (by rw [c_14]; decide +kernel) (by rw [c_14]; decide +kernel) (by decide) ?_
          refine lv_iconst (v := 0) hx hb d_Md_coins_78 (by decide +kernel) ?_
          refine lv_istore (lv' := [(4, .int 0), (2, .long 0), (0, .ref q0), (1, .int p_0)]) hx hb d_Md_coins_79 hl (by decide) rfl (fun ls hl => ?_)
          have cut_15 : ∀ (n_15 : Nat) (v4_15 : Int32) (v2_15 : Int64) (ls : Array Slot), ¬ (v4_15 < 0) → ¬ (600 < v4_15) → (600 : Int32).toInt - (v4_15 : Int32).toInt ≤ (n_15 : Int) → wpL_Md_coins_w_81_15 L f q0 p_0 Q n_15 v4_15 v2_15 → lv_has ls 5 [(0, .ref q0), (2, .long v2_15), (4, .int v4_15)] → W p l e (headSpec (.code y_Md_coins b_Md_coins 5 (some .int) :: TB) ({ frames := 0, cells := 0, slots := 0, locals := 0 })).room s m [.ref q0, .int p_0].toArray below meth c s.heap [] 0 0 (MQ below (vp_Si (fun r => (True) ∧ Q r)) [.ref q0, .int p_0].toArray s 0 0 (fun _ => False)) (F0 m 81 ls []) := by
            intro n_15
            induction n_15 using Nat.strongRecOn with
            | _ n_15 ih_15 =>
              intro v4_15 v2_15 ls iv0_15 iv1_15 hm_15 hQ hl
              rw [wpL_Md_coins_w_81_15_eq] at hQ
              obtain ⟨rec_15, hrec_15⟩ : ∃ g, wpR_Md_coins_w_81_15 L f q0 p_0 Q n_15 = g := ⟨_, rfl⟩
              rw [hrec_15] at hQ
              unfold wpB_Md_coins_w_81_15 at hQ
              refine lv_iload hx hb d_Md_coins_81 (lv_at hl 2 rfl) ?_
              refine lv_aload_n hx hb d_Md_coins_83 rfl (lv_at hl 0 rfl) ?_
              refine tw_geti (D := (dC, dI)) (C := R_Md) (T := F_Md) (N := 64) (ci := 7) (kd := 27) (ct := ct) hx hb htb i_Md hown hK hP hO_0 m0 rfl rfl 47 (by decide) (htb (.fieldLink R_Md 313 "WaterMenModel" "trips" "I") tw_604) (fun _ h9 => h9) rfl d_Md_coins_84 (fun x_16 e_16 b_16 => ?_)
              have hQ := hQ x_16 e_16
              refine lv_icmp_ge (tgt := 107) hx hb d_Md_coins_87 (by decide) (fun c_17 => ?_) (fun c_17 => ?_)
              · have hQ := hQ.1 c_17
                refine lv_lload_n hx hb d_Md_coins_107 rfl (lv_at hl 1 rfl) ?_
                refine lv_l2i hx hb d_Md_coins_108 rfl ?_
                refine hb_eqi (fun y_18 hy_18 => ?_)
                have hQ := hQ y_18 hy_18
                exact W.iret (v := y_18) hx hb hr (fun t ht hW => ⟨y_18, rfl, ⟨trivial, hQ⟩, ht⟩) t_nil d_Md_coins_109
              · have hQ := hQ.2 c_17
                refine lv_lload_n hx hb d_Md_coins_90 rfl (lv_at hl 1 rfl) ?_
                refine lv_aload_n hx hb d_Md_coins_91 rfl (lv_at hl 0 rfl) ?_
                refine tw_getr (D := (dC, dI)) (C := R_Md) (T := F_Md) (N := 64) (ci := 7) (kd := 27) (ct := ct) hx hb htb i_Md hown hK hP hO_0 m0 rfl rfl 54 (by decide) (htb (.fieldLink R_Md 167 "WaterMenModel" "tripPaid" "[I") tw_609) (fun _ h9 => h9) rfl d_Md_coins_92 (fun q_19 e_19 m_19 => ?_)
                have hQ := hQ q_19 e_19
                refine lv_iload hx hb d_Md_coins_95 (lv_at hl 2 rfl) ?_
                refine tw_aldI (ct := ct) hx hb hK hP hO_0 m_19 rfl ((fun (a_0 : Int32) (a_1 : Int32) (k_0 : ¬ (a_0 < 0)) (k_1 : ¬ (a_1 ≤ a_0)) (k_2 : ¬ (600 < a_1)) => (show vp_in (a_0) 600 from by have z0 : (0 : Int32).toInt = 0 := (by decide +kernel); have z1 : (600 : Int32).toInt = 600 := (by decide +kernel); have r0 := fb_rng (a_0); have r1 := fb_rng (a_1); have e0 := k_0; rw [Int32.lt_iff_toInt_lt, z0] at e0; have e1 := k_1; rw [Int32.le_iff_toInt_le] at e1; have e2 := k_2; rw [Int32.lt_iff_toInt_lt, z1] at e2; rw [vp_in_iff]; omega)) v4_15 x_16 iv0_15 c_17 b_16.2) d_Md_coins_97 (fun x_20 e_20 b_20 => ?_)
                have hQ := hQ x_20 e_20
                refine lv_i2l hx hb d_Md_coins_98 rfl ?_
                refine lv_ladd hx hb d_Md_coins_99 ?_
                refine hb_eql (fun y_21 hy_21 => ?_)
                have hQ := hQ y_21 hy_21
                refine lv_lstore_n (lv' := [(2, .long y_21), (0, .ref q0), (4, .int v4_15)]) hx hb d_Md_coins_100 rfl hl (by decide) rfl (fun ls hl => ?_)
                refine lv_iinc (v := (v4_15 + 1)) (lv' := [(4, .int (v4_15 + 1)), (2, .long y_21), (0, .ref q0)]) hx hb d_Md_coins_101 hl (k := 2) rfl rfl (by decide) rfl (fun ls hl => ?_)
                refine lv_goto (tgt := 81) hx hb d_Md_coins_104 (by decide) ?_
                exact ih_15 (n_15 - 1) (ms_1 ((fun (a_0 : Int32) (a_1 : Int32) (k_0 : ¬ (a_1 ≤ a_0)) (k_1 : ¬ (600 < a_1)) => (show 1 ≤ (600 : Int32).toInt - (a_0).toInt ∧ (600 : Int32).toInt - ((a_0) + (1 : Int32)).toInt + 1 ≤ (600 : Int32).toInt - (a_0).toInt from by have z0 : (1 : Int32).toInt = 1 := (by decide +kernel); have z1 : (600 : Int32).toInt = 600 := (by decide +kernel); have r0 := fb_rng (a_0); have r1 := fb_rng (a_1); have e0 := k_0; rw [Int32.le_iff_toInt_le] at e0; have e1 := k_1; rw [Int32.lt_iff_toInt_lt, z1] at e1; obtain ⟨n_0, hn_0, s0⟩ := nd_add (x := (a_0)) (y := (1 : Int32)) (by (try rw [z0]); omega) (by (try rw [z0]); omega); rw [z0] at s0; rw [hn_0]; (try rw [z1]); omega)) v4_15 x_16 c_17 b_16.2) hm_15) (v4_15 + 1) y_21 _ (show ¬ ((v4_15 + 1) < 0) from by have e0 := iv0_15; rw [Int32.lt_iff_toInt_lt] at e0; have e1 := iv1_15; rw [Int32.lt_iff_toInt_lt] at e1; have z0 : (0 : Int32).toInt = 0 := (by decide +kernel); have z1 : (1 : Int32).toInt = 1 := (by decide +kernel); have z2 : (600 : Int32).toInt = 600 := (by decide +kernel); have ss := fb_addI (x := v4_15) (y := 1) (by omega) (by omega); rw [Int32.lt_iff_toInt_lt]; omega) (show ¬ (600 < (v4_15 + 1)) from ((fun (a_0 : Int32) (a_1 : Int32) (k_0 : ¬ (a_1 ≤ a_0)) (k_1 : ¬ (600 < a_1)) => (show ¬ (600 < (a_0 + 1)) from by have z0 : (1 : Int32).toInt = 1 := (by decide +kernel); have z1 : (600 : Int32).toInt = 600 := (by decide +kernel); have r0 := fb_rng (a_0); have r1 := fb_rng (a_1); have e0 := k_0; rw [Int32.le_iff_toInt_le] at e0; have e1 := k_1; rw [Int32.lt_iff_toInt_lt, z1] at e1; obtain ⟨n_0, hn_0, s0⟩ := nd_add (x := (a_0)) (y := (1 : Int32)) (by (try rw [z0]); omega) (by (try rw [z0]); omega); rw [z0] at s0; rw [hn_0, Int32.lt_iff_toInt_lt, z1]; omega)) v4_15 x_16 c_17 b_16.2)) (by exact ms_2 ((fun (a_0 : Int32) (a_1 : Int32) (k_0 : ¬ (a_1 ≤ a_0)) (k_1 : ¬ (600 < a_1)) => (show 1 ≤ (600 : Int32).toInt - (a_0).toInt ∧ (600 : Int32).toInt - ((a_0) + (1 : Int32)).toInt + 1 ≤ (600 : Int32).toInt - (a_0).toInt from by have z0 : (1 : Int32).toInt = 1 := (by decide +kernel); have z1 : (600 : Int32).toInt = 600 := (by decide +kernel); have r0 := fb_rng (a_0); have r1 := fb_rng (a_1); have e0 := k_0; rw [Int32.le_iff_toInt_le] at e0; have e1 := k_1; rw [Int32.lt_iff_toInt_lt, z1] at e1; obtain ⟨n_0, hn_0, s0⟩ := nd_add (x := (a_0)) (y := (1 : Int32)) (by (try rw [z0]); omega) (by (try rw [z0]); omega); rw [z0] at s0; rw [hn_0]; (try rw [z1]); omega)) v4_15 x_16 c_17 b_16.2) hm_15) (by rw [← hrec_15, wpR_Md_coins_w_81_15_pos (ms_3 ((fun (a_0 : Int32) (a_1 : Int32) (k_0 : ¬ (a_1 ≤ a_0)) (k_1 : ¬ (600 < a_1)) => (show 1 ≤ (600 : Int32).toInt - (a_0).toInt ∧ (600 : Int32).toInt - ((a_0) + (1 : Int32)).toInt + 1 ≤ (600 : Int32).toInt - (a_0).toInt from by have z0 : (1 : Int32).toInt = 1 := (by decide +kernel); have z1 : (600 : Int32).toInt = 600 := (by decide +kernel); have r0 := fb_rng (a_0); have r1 := fb_rng (a_1); have e0 := k_0; rw [Int32.le_iff_toInt_le] at e0; have e1 := k_1; rw [Int32.lt_iff_toInt_lt, z1] at e1; obtain ⟨n_0, hn_0, s0⟩ := nd_add (x := (a_0)) (y := (1 : Int32)) (by (try rw [z0]); omega) (by (try rw [z0]); omega); rw [z0] at s0; rw [hn_0]; (try rw [z1]); omega)) v4_15 x_16 c_17 b_16.2) hm_15)] at hQ; exact hQ) (lv_sub hl [2, 1, 0] rfl)
          exact cut_15 ((600 : Int32).toInt - (0 : Int32).toInt).toNat (0 : Int32) 0 _ (by decide +kernel) (by decide +kernel) (by exact ms_e _ _) hQ (lv_sub hl [2, 1, 0] rfl)
        · have hQ := hQ.2 c_14
          by_cases c_22 : p_0 = 4
          · have hQ := hQ.1 c_22
            refine lv_tableIn (off := 107) (tgt := 110) hx hb d_Md_coins_3 (by rw [c_22]; decide +kernel) (by rw [c_22]; decide +kernel) (by rw [c_22]; decide +kernel) (by decide) ?_
            refine lv_aload_n hx hb d_Md_coins_110 rfl (lv_at hl 1 rfl) ?_
            refine tw_getl (D := (dC, dI)) (C := R_Md) (T := F_Md) (N := 64) (ci := 7) (kd := 27) (ct := ct) hx hb htb i_Md hown hK hP m0 rfl rfl 58 (by decide) (htb (.fieldLink R_Md 326 "WaterMenModel" "paidOut" "J") tw_207) (fun _ h9 => h9) rfl d_Md_coins_111 (fun x_23 e_23 => ?_)
            have hQ := hQ x_23 e_23
            refine lv_l2i hx hb d_Md_coins_114 rfl ?_
            refine hb_eqi (fun y_24 hy_24 => ?_)
            have hQ := hQ y_24 hy_24
            exact W.iret (v := y_24) hx hb hr (fun t ht hW => ⟨y_24, rfl, ⟨trivial, hQ⟩, ht⟩) t_nil d_Md_coins_115
          · have hQ := hQ.2 c_22
            refine lv_tableOut (tgt := 116) hx hb d_Md_coins_3 (by have h0 := lv_neT c_1 (show (0 : Int32).toInt = 0 by decide +kernel); have h1 := lv_neT c_4 (show (1 : Int32).toInt = 1 by decide +kernel); have h2 := lv_neT c_7 (show (2 : Int32).toInt = 2 by decide +kernel); have h3 := lv_neT c_14 (show (3 : Int32).toInt = 3 by decide +kernel); have h4 := lv_neT c_22 (show (4 : Int32).toInt = 4 by decide +kernel); omega) (by decide) ?_
            refine lv_iconst (v := (-1)) hx hb d_Md_coins_116 (by decide +kernel) ?_
            exact W.iret (v := (-1)) hx hb hr (fun t ht hW => ⟨(-1), rfl, ⟨trivial, hQ⟩, ht⟩) t_nil d_Md_coins_117
