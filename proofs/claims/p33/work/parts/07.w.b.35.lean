def wp_Md_count_w (L : List Nat) (f : TF) (q0 : Nat) (p_0 : Int32) (Q : Int32 → Prop) : Prop := ((p_0 = 0 → ∀ x_2 : Int32, ti f q0 2 = x_2 → Q x_2) ∧ (¬ (p_0 = 0) → ((p_0 = 1 → ∀ x_4 : Int32, ti f q0 21 = x_4 → Q x_4) ∧ (¬ (p_0 = 1) → ((p_0 = 2 → ∀ x_6 : Int32, ti f q0 47 = x_6 → Q x_6) ∧ (¬ (p_0 = 2) → ((p_0 = 3 → ∀ x_8 : Int32, ti f q0 29 = x_8 → Q x_8) ∧ (¬ (p_0 = 3) → ((p_0 = 4 → ∀ x_10 : Int32, ti f q0 1 = x_10 → Q x_10) ∧ (¬ (p_0 = 4) → ((p_0 = 5 → wp_Md_menAs_w L f q0 (2 : Int32) (fun (r_12 : Int32) => Q r_12)) ∧ (¬ (p_0 = 5) → ((p_0 = 6 → wp_Md_menAs_w L f q0 (1 : Int32) (fun (r_14 : Int32) => Q r_14)) ∧ (¬ (p_0 = 6) → ((p_0 = 7 → wp_Md_menAs_w L f q0 (3 : Int32) (fun (r_16 : Int32) => Q r_16)) ∧ (¬ (p_0 = 7) → ((p_0 = 8 → ∀ x_18 : Int32, ti f q0 60 = x_18 → Q x_18) ∧ (¬ (p_0 = 8) → ((p_0 = 9 → ∀ x_20 : Int32, ti f q0 28 = x_20 → Q x_20) ∧ (¬ (p_0 = 9) → Q (-1)))))))))))))))))))))
set_option maxHeartbeats 4000000 in
set_option maxRecDepth 100000 in
theorem c_Md_count_w (l : Launch) (dC : Nat → ClassId) (dI : Nat → Nat → Nat) (ct : Nat → ClassId) (L : List Nat) (f : TF) (hO_0 : Ok L f) (q0 : Nat) (m0 : q0 ∈ L ∧ tk f q0 = 27) (p_0 : Int32)   (Q : Int32 → Prop) (hQ : wp_Md_count_w L f q0 p_0 Q) : Met l y_Md_count (.code y_Md_count b_Md_count 2 (some .int) :: TB) ({ frames := 1, cells := 0, slots := 0, locals := 23 }) (va_Pc [.ref q0, .int p_0] (PR dC dI (TW ct L f) (TT ct))) (vp_Si (fun r => (True) ∧ Q r)) 0 0 (fun _ => False) := by
  refine Met.ofW (cc := b_Md_count) (maxL := 2) (ret := (some .int)) (by decide) rfl ?_
  intro p e s m args below meth c s₁ B hml hv
  obtain ⟨rfl, hP, hK, hN⟩ := hv
  have hx := B.exec
  have hb := B.bytes
  have hr := B.returns
  have hts := atoms_spec (ws := (.code y_Md_count b_Md_count 2 (some .int) :: TB)) B.pre
  have htb := fun w (h : w ∈ TB) => hts w (List.mem_cons_of_mem _ h)
  have hown : s.vm.findClass R_Md = some m.cls := findClass_of_methodNamed B.named
  have hlocks := B.notSynchronized
  have hl := lv_entry ([.ref q0, .int p_0]) (n := 2) (Nat.le_of_ble_eq_true rfl)
  rw [lg_entry_eq]
  generalize (lg_sl ([.ref q0, .int p_0]) ++ List.replicate (2 - (lg_sl ([.ref q0, .int p_0])).length) Slot.unset).toArray = ls at hl ⊢
  have hl : lv_has ls 2 [(0, .ref q0), (1, .int p_0)] := hl
  unfold wp_Md_count_w at hQ
  refine lv_iload_n hx hb d_Md_count_0 rfl (lv_at hl 1 rfl) ?_
  by_cases c_1 : p_0 = 0
  · have hQ := hQ.1 c_1
    refine lv_tableIn (off := 55) (tgt := 56) hx hb d_Md_count_1 (by rw [c_1]; decide +kernel) (by rw [c_1]; decide +kernel) (by rw [c_1]; decide +kernel) (by decide) ?_
    refine lv_aload_n hx hb d_Md_count_56 rfl (lv_at hl 0 rfl) ?_
    refine tw_geti (D := (dC, dI)) (C := R_Md) (T := F_Md) (N := 64) (ci := 7) (kd := 27) (ct := ct) hx hb htb i_Md hown hK hP hO_0 m0 rfl rfl 2 (by decide) (htb (.fieldLink R_Md 14 "WaterMenModel" "stairs" "I") tw_97) (fun _ h9 => h9) rfl d_Md_count_57 (fun x_2 e_2 b_2 => ?_)
    have hQ := hQ x_2 e_2
    exact W.iret (v := x_2) hx hb hr (fun t ht hW => ⟨x_2, rfl, ⟨trivial, hQ⟩, ht⟩) t_nil d_Md_count_60
  · have hQ := hQ.2 c_1
    by_cases c_3 : p_0 = 1
    · have hQ := hQ.1 c_3
      refine lv_tableIn (off := 60) (tgt := 61) hx hb d_Md_count_1 (by rw [c_3]; decide +kernel) (by rw [c_3]; decide +kernel) (by rw [c_3]; decide +kernel) (by decide) ?_
      refine lv_aload_n hx hb d_Md_count_61 rfl (lv_at hl 0 rfl) ?_
      refine tw_geti (D := (dC, dI)) (C := R_Md) (T := F_Md) (N := 64) (ci := 7) (kd := 27) (ct := ct) hx hb htb i_Md hown hK hP hO_0 m0 rfl rfl 21 (by decide) (htb (.fieldLink R_Md 206 "WaterMenModel" "boats" "I") tw_227) (fun _ h9 => h9) rfl d_Md_count_62 (fun x_4 e_4 b_4 => ?_)
      have hQ := hQ x_4 e_4
      exact W.iret (v := x_4) hx hb hr (fun t ht hW => ⟨x_4, rfl, ⟨trivial, hQ⟩, ht⟩) t_nil d_Md_count_65
    · have hQ := hQ.2 c_3
      by_cases c_5 : p_0 = 2
      · have hQ := hQ.1 c_5
        refine lv_tableIn (off := 65) (tgt := 66) hx hb d_Md_count_1 (by rw [c_5]; decide +kernel) (by rw [c_5]; decide +kernel) (by rw [c_5]; decide +kernel) (by decide) ?_
        refine lv_aload_n hx hb d_Md_count_66 rfl (lv_at hl 0 rfl) ?_
        refine tw_geti (D := (dC, dI)) (C := R_Md) (T := F_Md) (N := 64) (ci := 7) (kd := 27) (ct := ct) hx hb htb i_Md hown hK hP hO_0 m0 rfl rfl 47 (by decide) (htb (.fieldLink R_Md 313 "WaterMenModel" "trips" "I") tw_123) (fun _ h9 => h9) rfl d_Md_count_67 (fun x_6 e_6 b_6 => ?_)
        have hQ := hQ x_6 e_6
        exact W.iret (v := x_6) hx hb hr (fun t ht hW => ⟨x_6, rfl, ⟨trivial, hQ⟩, ht⟩) t_nil d_Md_count_70
      · have hQ := hQ.2 c_5
        by_cases c_7 : p_0 = 3
        · have hQ := hQ.1 c_7
          refine lv_tableIn (off := 70) (tgt := 71) hx hb d_Md_count_1 (by rw [c_7]; decide +kernel) (by rw [c_7]; decide +kernel) (by rw [c_7]; decide +kernel) (by decide) ?_
          refine lv_aload_n hx hb d_Md_count_71 rfl (lv_at hl 0 rfl) ?_
          refine tw_geti (D := (dC, dI)) (C := R_Md) (T := F_Md) (N := 64) (ci := 7) (kd := 27) (ct := ct) hx hb htb i_Md hown hK hP hO_0 m0 rfl rfl 29 (by decide) (htb (.fieldLink R_Md 275 "WaterMenModel" "orders" "I") tw_333) (fun _ h9 => h9) rfl d_Md_count_72 (fun x_8 e_8 b_8 => ?_)
          have hQ := hQ x_8 e_8
          exact W.iret (v := x_8) hx hb hr (fun t ht hW => ⟨x_8, rfl, ⟨trivial, hQ⟩, ht⟩) t_nil d_Md_count_75
        · have hQ := hQ.2 c_7
          by_cases c_9 : p_0 = 4
          · have hQ := hQ.1 c_9
            refine lv_tableIn (off := 75) (tgt := 76) hx hb d_Md_count_1 (by rw [c_9]; decide +kernel) (by rw [c_9]; decide +kernel) (by rw [c_9]; decide +kernel) (by decide) ?_
            refine lv_aload_n hx hb d_Md_count_76 rfl (lv_at hl 0 rfl) ?_
            refine tw_geti (D := (dC, dI)) (C := R_Md) (T := F_Md) (N := 64) (ci := 7) (kd := 27) (ct := ct) hx hb htb i_Md hown hK hP hO_0 m0 rfl rfl 1 (by decide) (htb (.fieldLink R_Md 7 "WaterMenModel" "time" "I") tw_111) (fun _ h9 => h9) rfl d_Md_count_77 (fun x_10 e_10 b_10 => ?_)
            have hQ := hQ x_10 e_10
            exact W.iret (v := x_10) hx hb hr (fun t ht hW => ⟨x_10, rfl, ⟨trivial, hQ⟩, ht⟩) t_nil d_Md_count_80
          · have hQ := hQ.2 c_9
            by_cases c_11 : p_0 = 5
            · have hQ := hQ.1 c_11
              refine lv_tableIn (off := 80) (tgt := 81) hx hb d_Md_count_1 (by rw [c_11]; decide +kernel) (by rw [c_11]; decide +kernel) (by rw [c_11]; decide +kernel) (by decide) ?_
              refine lv_aload_n hx hb d_Md_count_81 rfl (lv_at hl 0 rfl) ?_
              refine lv_iconst (v := 2) hx hb d_Md_count_82 (by decide +kernel) ?_
              refine vp_callSi (va_Run.run (va_runV (As := [.int 2]) (rest := []) ⟨hx, hb, hml, hown, htb⟩ (c_Md_menAs_w l dC dI ct L f hO_0 q0 m0 (2 : Int32) _ hQ) (cwV 1 htb (gd_V tw_682 tw_683 tw_684 tw_89 tw_681) rfl rfl rfl (by decide +kernel) ⟨Nat.le_of_ble_eq_true rfl, Nat.le_of_ble_eq_true rfl⟩) ⟨pr_blind, tw_recv hK hP m0 rfl rfl, pr_pre hP hK hN⟩ rfl rfl hl.1 rfl (lv_room (Nat.le_of_ble_eq_true rfl)) d_Md_count_83 ⟨Nat.le_of_ble_eq_true rfl, Nat.le_of_ble_eq_true rfl⟩)) (fun r_12 er_12 => ?_)
              obtain ⟨er_12, hQ⟩ := er_12
              clear er_12
              exact W.iret (v := r_12) hx hb hr (fun t ht hW => ⟨r_12, rfl, ⟨trivial, hQ⟩, ht⟩) t_nil d_Md_count_86
            · have hQ := hQ.2 c_11
              by_cases c_13 : p_0 = 6
              · have hQ := hQ.1 c_13
                refine lv_tableIn (off := 86) (tgt := 87) hx hb d_Md_count_1 (by rw [c_13]; decide +kernel) (by rw [c_13]; decide +kernel) (by rw [c_13]; decide +kernel) (by decide) ?_
                refine lv_aload_n hx hb d_Md_count_87 rfl (lv_at hl 0 rfl) ?_
                refine lv_iconst (v := 1) hx hb d_Md_count_88 (by decide +kernel) ?_
                refine vp_callSi (va_Run.run (va_runV (As := [.int 1]) (rest := []) ⟨hx, hb, hml, hown, htb⟩ (c_Md_menAs_w l dC dI ct L f hO_0 q0 m0 (1 : Int32) _ hQ) (cwV 1 htb (gd_V tw_682 tw_683 tw_684 tw_89 tw_681) rfl rfl rfl (by decide +kernel) ⟨Nat.le_of_ble_eq_true rfl, Nat.le_of_ble_eq_true rfl⟩) ⟨pr_blind, tw_recv hK hP m0 rfl rfl, pr_pre hP hK hN⟩ rfl rfl hl.1 rfl (lv_room (Nat.le_of_ble_eq_true rfl)) d_Md_count_89 ⟨Nat.le_of_ble_eq_true rfl, Nat.le_of_ble_eq_true rfl⟩)) (fun r_14 er_14 => ?_)
                obtain ⟨er_14, hQ⟩ := er_14
                clear er_14
                exact W.iret (v := r_14) hx hb hr (fun t ht hW => ⟨r_14, rfl, ⟨trivial, hQ⟩, ht⟩) t_nil d_Md_count_92
              · have hQ := hQ.2 c_13
                by_cases c_15 : p_0 = 7
                · have hQ := hQ.1 c_15
                  refine lv_tableIn (off := 92) (tgt := 93) hx hb d_Md_count_1 (by rw [c_15]; decide +kernel) (by rw [c_15]; decide +kernel) (by rw [c_15]; decide +kernel) (by decide) ?_
                  refine lv_aload_n hx hb d_Md_count_93 rfl (lv_at hl 0 rfl) ?_
                  refine lv_iconst (v := 3) hx hb d_Md_count_94 (by decide +kernel) ?_
                  refine vp_callSi (va_Run.run (va_runV (As := [.int 3]) (rest := []) ⟨hx, hb, hml, hown, htb⟩ (c_Md_menAs_w l dC dI ct L f hO_0 q0 m0 (3 : Int32) _ hQ) (cwV 1 htb (gd_V tw_682 tw_683 tw_684 tw_89 tw_681) rfl rfl rfl (by decide +kernel) ⟨Nat.le_of_ble_eq_true rfl, Nat.le_of_ble_eq_true rfl⟩) ⟨pr_blind, tw_recv hK hP m0 rfl rfl, pr_pre hP hK hN⟩ rfl rfl hl.1 rfl (lv_room (Nat.le_of_ble_eq_true rfl)) d_Md_count_95 ⟨Nat.le_of_ble_eq_true rfl, Nat.le_of_ble_eq_true rfl⟩)) (fun r_16 er_16 => ?_)
                  obtain ⟨er_16, hQ⟩ := er_16
                  clear er_16
                  exact W.iret (v := r_16) hx hb hr (fun t ht hW => ⟨r_16, rfl, ⟨trivial, hQ⟩, ht⟩) t_nil d_Md_count_98
                · have hQ := hQ.2 c_15
                  by_cases c_17 : p_0 = 8
                  · have hQ := hQ.1 c_17
                    refine lv_tableIn (off := 98) (tgt := 99) hx hb d_Md_count_1 (by rw [c_17]; decide +kernel) (by rw [c_17]; decide +kernel) (by rw [c_17]; decide +kernel) (by decide) ?_
                    refine lv_aload_n hx hb d_Md_count_99 rfl (lv_at hl 0 rfl) ?_
                    refine tw_geti (D := (dC, dI)) (C := R_Md) (T := F_Md) (N := 64) (ci := 7) (kd := 27) (ct := ct) hx hb htb i_Md hown hK hP hO_0 m0 rfl rfl 60 (by decide) (htb (.fieldLink R_Md 323 "WaterMenModel" "pensioners" "I") tw_117) (fun _ h9 => h9) rfl d_Md_count_100 (fun x_18 e_18 b_18 => ?_)
                    have hQ := hQ x_18 e_18
                    exact W.iret (v := x_18) hx hb hr (fun t ht hW => ⟨x_18, rfl, ⟨trivial, hQ⟩, ht⟩) t_nil d_Md_count_103
                  · have hQ := hQ.2 c_17
                    by_cases c_19 : p_0 = 9
                    · have hQ := hQ.1 c_19
                      refine lv_tableIn (off := 103) (tgt := 104) hx hb d_Md_count_1 (by rw [c_19]; decide +kernel) (by rw [c_19]; decide +kernel) (by rw [c_19]; decide +kernel) (by decide) ?_
                      refine lv_aload_n hx hb d_Md_count_104 rfl (lv_at hl 0 rfl) ?_
                      refine tw_geti (D := (dC, dI)) (C := R_Md) (T := F_Md) (N := 64) (ci := 7) (kd := 27) (ct := ct) hx hb htb i_Md hown hK hP hO_0 m0 rfl rfl 28 (by decide) (htb (.fieldLink R_Md 212 "WaterMenModel" "taped" "I") tw_187) (fun _ h9 => h9) rfl d_Md_count_105 (fun x_20 e_20 b_20 => ?_)
                      have hQ := hQ x_20 e_20
                      exact W.iret (v := x_20) hx hb hr (fun t ht hW => ⟨x_20, rfl, ⟨trivial, hQ⟩, ht⟩) t_nil d_Md_count_108
                    · have hQ := hQ.2 c_19
                      refine lv_tableOut (tgt := 109) hx hb d_Md_count_1 (by have h0 := lv_neT c_1 (show (0 : Int32).toInt = 0 by decide +kernel); have h1 := lv_neT c_3 (show (1 : Int32).toInt = 1 by decide +kernel); have h2 := lv_neT c_5 (show (2 : Int32).toInt = 2 by decide +kernel); have h3 := lv_neT c_7 (show (3 : Int32).toInt = 3 by decide +kernel); have h4 := lv_neT c_9 (show (4 : Int32).toInt = 4 by decide +kernel); have h5 := lv_neT c_11 (show (5 : Int32).toInt = 5 by decide +kernel); have h6 := lv_neT c_13 (show (6 : Int32).toInt = 6 by decide +kernel); have h7 := lv_neT c_15 (show (7 : Int32).toInt = 7 by decide +kernel); have h8 := lv_neT c_17 (show (8 : Int32).toInt = 8 by decide +kernel); have h9 := lv_neT c_19 (show (9 : Int32).toInt = 9 by decide +kernel); omega) (by decide) ?_
                      refine lv_iconst (v := (-1)) hx hb d_Md_count_109 (by decide +kernel) ?_
                      exact W.iret (v := (-1)) hx hb hr (fun t ht hW => ⟨(-1), rfl, ⟨trivial, hQ⟩, ht⟩) t_nil d_Md_count_110
