set_option maxHeartbeats 4000000 in
set_option maxRecDepth 100000 in
theorem c_Md_pensioner_t (l : Launch) (dC : Nat → ClassId) (dI : Nat → Nat → Nat) (ct : Nat → ClassId) (L : List Nat) (f : TF) (hO_0 : Ok L f) (q0 : Nat) (m0 : q0 ∈ L ∧ tk f q0 = 27) (p_0 : Int32) (p_1 : Int32)   : Met l y_Md_pensioner (.code y_Md_pensioner b_Md_pensioner 3 (some .int) :: TB) ({ frames := 1, cells := 0, slots := 0, locals := 22 }) (va_Pc [.ref q0, .int p_0, .int p_1] (PR dC dI (TW ct L f) (TT ct))) (vp_Si (fun r => True)) 0 0 (fun _ => False) := by
  refine Met.ofW (cc := b_Md_pensioner) (maxL := 3) (ret := (some .int)) (by decide) rfl ?_
  intro p e s m args below meth c s₁ B hml hv
  obtain ⟨rfl, hP, hK, hN⟩ := hv
  have hx := B.exec
  have hb := B.bytes
  have hr := B.returns
  have hts := atoms_spec (ws := (.code y_Md_pensioner b_Md_pensioner 3 (some .int) :: TB)) B.pre
  have htb := fun w (h : w ∈ TB) => hts w (List.mem_cons_of_mem _ h)
  have hown : s.vm.findClass R_Md = some m.cls := findClass_of_methodNamed B.named
  have hlocks := B.notSynchronized
  have hl := lv_entry ([.ref q0, .int p_0, .int p_1]) (n := 3) (Nat.le_of_ble_eq_true rfl)
  rw [lg_entry_eq]
  generalize (lg_sl ([.ref q0, .int p_0, .int p_1]) ++ List.replicate (3 - (lg_sl ([.ref q0, .int p_0, .int p_1])).length) Slot.unset).toArray = ls at hl ⊢
  have hl : lv_has ls 3 [(0, .ref q0), (1, .int p_0), (2, .int p_1)] := hl
  refine lv_iload_n hx hb d_Md_pensioner_0 rfl (lv_at hl 1 rfl) ?_
  refine lv_iconst (v := 0) hx hb d_Md_pensioner_1 (by decide +kernel) ?_
  refine lv_aload_n hx hb d_Md_pensioner_2 rfl (lv_at hl 0 rfl) ?_
  refine tw_geti (D := (dC, dI)) (C := R_Md) (T := F_Md) (N := 64) (ci := 7) (kd := 27) (ct := ct) hx hb htb i_Md hown hK hP hO_0 m0 rfl rfl 60 (by decide) (htb (.fieldLink R_Md 323 "WaterMenModel" "pensioners" "I") tw_117) (fun _ h9 => h9) rfl d_Md_pensioner_3 (fun x_1 e_1 b_1 => ?_)
  refine lv_iconst (v := 1) hx hb d_Md_pensioner_6 (by decide +kernel) ?_
  refine lv_isub hx hb d_Md_pensioner_7 ?_
  refine vp_callSi (va_Run.run (va_runS (As := [.int p_0, .int 0, .int (x_1 - 1)]) (rest := []) ⟨hx, hb, hml, hown, htb⟩ (c_Md_in l p_0 0 (x_1 - 1)) (cwS 3 htb (gd_S tw_90 tw_91 tw_89 tw_88) rfl rfl rfl (by decide +kernel) ⟨Nat.le_of_ble_eq_true rfl, Nat.le_of_ble_eq_true rfl⟩) ⟨fun _ _ _ _ h => h, fun U _ _ => ⟨rfl, trivial⟩⟩ rfl rfl hl.1 rfl (lv_room (Nat.le_of_ble_eq_true rfl)) d_Md_pensioner_8 ⟨Nat.le_of_ble_eq_true rfl, Nat.le_of_ble_eq_true rfl⟩)) (fun r er => ?_)
  subst er
  by_cases c_3 : p_0 < 0
  · refine hb_ti 0 (by unfold f_Md_in; rw [if_pos c_3]; first | done | rfl) ?_
    refine lv_if_ne (tgt := 16) hx hb d_Md_pensioner_11 (by decide) (fun h => absurd (by decide +kernel) h) (fun _ => ?_)
    refine lv_iconst (v := (-1)) hx hb d_Md_pensioner_14 (by decide +kernel) ?_
    exact W.iret (v := (-1)) hx hb hr (fun t ht hW => ⟨(-1), rfl, trivial, ht⟩) t_nil d_Md_pensioner_15
  · by_cases c_4 : (x_1 - 1) < p_0
    · refine hb_ti 0 (by unfold f_Md_in; rw [if_neg c_3, if_pos c_4]; first | done | rfl) ?_
      refine lv_if_ne (tgt := 16) hx hb d_Md_pensioner_11 (by decide) (fun h => absurd (by decide +kernel) h) (fun _ => ?_)
      refine lv_iconst (v := (-1)) hx hb d_Md_pensioner_14 (by decide +kernel) ?_
      exact W.iret (v := (-1)) hx hb hr (fun t ht hW => ⟨(-1), rfl, trivial, ht⟩) t_nil d_Md_pensioner_15
    · refine hb_ti 1 (by unfold f_Md_in; rw [if_neg c_3, if_neg c_4]; first | done | rfl) ?_
      refine lv_if_ne (tgt := 16) hx hb d_Md_pensioner_11 (by decide) (fun _ => ?_) (fun h => absurd h (by decide +kernel))
      refine lv_iload_n hx hb d_Md_pensioner_16 rfl (lv_at hl 2 rfl) ?_
      by_cases c_5 : p_1 = 0
      · refine lv_tableIn (off := 27) (tgt := 44) hx hb d_Md_pensioner_17 (by rw [c_5]; decide +kernel) (by rw [c_5]; decide +kernel) (by rw [c_5]; decide +kernel) (by decide) ?_
        refine lv_aload_n hx hb d_Md_pensioner_44 rfl (lv_at hl 0 rfl) ?_
        refine tw_getr (D := (dC, dI)) (C := R_Md) (T := F_Md) (N := 64) (ci := 7) (kd := 27) (ct := ct) hx hb htb i_Md hown hK hP hO_0 m0 rfl rfl 61 (by decide) (htb (.fieldLink R_Md 177 "WaterMenModel" "pensionOf" "[I") tw_119) (fun _ h9 => h9) rfl d_Md_pensioner_45 (fun q_6 e_6 m_6 => ?_)
        refine lv_iload_n hx hb d_Md_pensioner_48 rfl (lv_at hl 1 rfl) ?_
        refine tw_aldI (ct := ct) hx hb hK hP hO_0 m_6 rfl ((fun (a_0 : Int32) (a_1 : Int32) (k_0 : ¬ (a_0 < 0)) (k_1 : ¬ (a_1 < 0)) (k_2 : ¬ (30 < a_1)) (k_3 : ¬ ((a_1 - 1) < a_0)) => (show vp_in (a_0) 30 from by have z0 : (0 : Int32).toInt = 0 := (by decide +kernel); have z1 : (1 : Int32).toInt = 1 := (by decide +kernel); have z2 : (30 : Int32).toInt = 30 := (by decide +kernel); have r0 := fb_rng (a_0); have r1 := fb_rng (a_1); have e0 := k_0; rw [Int32.lt_iff_toInt_lt, z0] at e0; have e1 := k_1; rw [Int32.lt_iff_toInt_lt, z0] at e1; have e2 := k_2; rw [Int32.lt_iff_toInt_lt, z2] at e2; obtain ⟨n_0, hn_0, s0⟩ := nd_sub (x := (a_1)) (y := (1 : Int32)) (by (try rw [z1]); omega) (by (try rw [z1]); omega); rw [z1] at s0; have e3 := k_3; rw [hn_0, Int32.lt_iff_toInt_lt] at e3; rw [vp_in_iff]; omega)) p_0 x_1 c_3 b_1.1 b_1.2 c_4) d_Md_pensioner_49 (fun x_7 e_7 b_7 => ?_)
        exact W.iret (v := x_7) hx hb hr (fun t ht hW => ⟨x_7, rfl, trivial, ht⟩) t_nil d_Md_pensioner_50
      · by_cases c_8 : p_1 = 1
        · refine lv_tableIn (off := 34) (tgt := 51) hx hb d_Md_pensioner_17 (by rw [c_8]; decide +kernel) (by rw [c_8]; decide +kernel) (by rw [c_8]; decide +kernel) (by decide) ?_
          refine lv_aload_n hx hb d_Md_pensioner_51 rfl (lv_at hl 0 rfl) ?_
          refine tw_getr (D := (dC, dI)) (C := R_Md) (T := F_Md) (N := 64) (ci := 7) (kd := 27) (ct := ct) hx hb htb i_Md hown hK hP hO_0 m0 rfl rfl 62 (by decide) (htb (.fieldLink R_Md 180 "WaterMenModel" "pensionEnd" "[I") tw_118) (fun _ h9 => h9) rfl d_Md_pensioner_52 (fun q_9 e_9 m_9 => ?_)
          refine lv_iload_n hx hb d_Md_pensioner_55 rfl (lv_at hl 1 rfl) ?_
          refine tw_aldI (ct := ct) hx hb hK hP hO_0 m_9 rfl ((fun (a_0 : Int32) (a_1 : Int32) (k_0 : ¬ (a_0 < 0)) (k_1 : ¬ (a_1 < 0)) (k_2 : ¬ (30 < a_1)) (k_3 : ¬ ((a_1 - 1) < a_0)) => (show vp_in (a_0) 30 from by have z0 : (0 : Int32).toInt = 0 := (by decide +kernel); have z1 : (1 : Int32).toInt = 1 := (by decide +kernel); have z2 : (30 : Int32).toInt = 30 := (by decide +kernel); have r0 := fb_rng (a_0); have r1 := fb_rng (a_1); have e0 := k_0; rw [Int32.lt_iff_toInt_lt, z0] at e0; have e1 := k_1; rw [Int32.lt_iff_toInt_lt, z0] at e1; have e2 := k_2; rw [Int32.lt_iff_toInt_lt, z2] at e2; obtain ⟨n_0, hn_0, s0⟩ := nd_sub (x := (a_1)) (y := (1 : Int32)) (by (try rw [z1]); omega) (by (try rw [z1]); omega); rw [z1] at s0; have e3 := k_3; rw [hn_0, Int32.lt_iff_toInt_lt] at e3; rw [vp_in_iff]; omega)) p_0 x_1 c_3 b_1.1 b_1.2 c_4) d_Md_pensioner_56 (fun x_10 e_10 b_10 => ?_)
          exact W.iret (v := x_10) hx hb hr (fun t ht hW => ⟨x_10, rfl, trivial, ht⟩) t_nil d_Md_pensioner_57
        · by_cases c_11 : p_1 = 2
          · refine lv_tableIn (off := 41) (tgt := 58) hx hb d_Md_pensioner_17 (by rw [c_11]; decide +kernel) (by rw [c_11]; decide +kernel) (by rw [c_11]; decide +kernel) (by decide) ?_
            refine lv_aload_n hx hb d_Md_pensioner_58 rfl (lv_at hl 0 rfl) ?_
            refine tw_getr (D := (dC, dI)) (C := R_Md) (T := F_Md) (N := 64) (ci := 7) (kd := 27) (ct := ct) hx hb htb i_Md hown hK hP hO_0 m0 rfl rfl 63 (by decide) (htb (.fieldLink R_Md 183 "WaterMenModel" "gotten" "[I") tw_121) (fun _ h9 => h9) rfl d_Md_pensioner_59 (fun q_12 e_12 m_12 => ?_)
            refine lv_iload_n hx hb d_Md_pensioner_62 rfl (lv_at hl 1 rfl) ?_
            refine tw_aldI (ct := ct) hx hb hK hP hO_0 m_12 rfl ((fun (a_0 : Int32) (a_1 : Int32) (k_0 : ¬ (a_0 < 0)) (k_1 : ¬ (a_1 < 0)) (k_2 : ¬ (30 < a_1)) (k_3 : ¬ ((a_1 - 1) < a_0)) => (show vp_in (a_0) 30 from by have z0 : (0 : Int32).toInt = 0 := (by decide +kernel); have z1 : (1 : Int32).toInt = 1 := (by decide +kernel); have z2 : (30 : Int32).toInt = 30 := (by decide +kernel); have r0 := fb_rng (a_0); have r1 := fb_rng (a_1); have e0 := k_0; rw [Int32.lt_iff_toInt_lt, z0] at e0; have e1 := k_1; rw [Int32.lt_iff_toInt_lt, z0] at e1; have e2 := k_2; rw [Int32.lt_iff_toInt_lt, z2] at e2; obtain ⟨n_0, hn_0, s0⟩ := nd_sub (x := (a_1)) (y := (1 : Int32)) (by (try rw [z1]); omega) (by (try rw [z1]); omega); rw [z1] at s0; have e3 := k_3; rw [hn_0, Int32.lt_iff_toInt_lt] at e3; rw [vp_in_iff]; omega)) p_0 x_1 c_3 b_1.1 b_1.2 c_4) d_Md_pensioner_63 (fun x_13 e_13 b_13 => ?_)
            exact W.iret (v := x_13) hx hb hr (fun t ht hW => ⟨x_13, rfl, trivial, ht⟩) t_nil d_Md_pensioner_64
          · refine lv_tableOut (tgt := 65) hx hb d_Md_pensioner_17 (by have h0 := lv_neT c_5 (show (0 : Int32).toInt = 0 by decide +kernel); have h1 := lv_neT c_8 (show (1 : Int32).toInt = 1 by decide +kernel); have h2 := lv_neT c_11 (show (2 : Int32).toInt = 2 by decide +kernel); omega) (by decide) ?_
            refine lv_iconst (v := (-1)) hx hb d_Md_pensioner_65 (by decide +kernel) ?_
            exact W.iret (v := (-1)) hx hb hr (fun t ht hW => ⟨(-1), rfl, trivial, ht⟩) t_nil d_Md_pensioner_66
set_option maxHeartbeats 4000000 in
set_option maxRecDepth 100000 in
theorem c_Md_coins_t (l : Launch) (dC : Nat → ClassId) (dI : Nat → Nat → Nat) (ct : Nat → ClassId) (L : List Nat) (f : TF) (hO_0 : Ok L f) (q0 : Nat) (m0 : q0 ∈ L ∧ tk f q0 = 27) (p_0 : Int32)   : Met l y_Md_coins (.code y_Md_coins b_Md_coins 5 (some .int) :: TB) ({ frames := 0, cells := 0, slots := 0, locals := 0 }) (va_Pc [.ref q0, .int p_0] (PR dC dI (TW ct L f) (TT ct))) (vp_Si (fun r => True)) 0 0 (fun _ => False) := by
  refine Met.ofW (cc := b_Md_coins) (maxL := 5) (ret := (some .int)) (by decide) rfl ?_
  intro p e s m args below meth c s₁ B hml hv
  obtain ⟨rfl, hP, hK, hN⟩ := hv
  have hx := B.exec
  have hb := B.bytes
  have hr := B.returns
  have hts := atoms_spec (ws := (.code y_Md_coins b_Md_coins 5 (some .int) :: TB)) B.pre
  have htb := fun w (h : w ∈ TB) => hts w (List.mem_cons_of_mem _ h)
  have hown : s.vm.findClass R_Md = some m.cls := findClass_of_methodNamed B.named
  have hlocks := B.notSynchronized
  have hl := lv_entry ([.ref q0, .int p_0]) (n := 5) (Nat.le_of_ble_eq_true rfl)
  rw [lg_entry_eq]
  generalize (lg_sl ([.ref q0, .int p_0]) ++ List.replicate (5 - (lg_sl ([.ref q0, .int p_0])).length) Slot.unset).toArray = ls at hl ⊢
  have hl : lv_has ls 5 [(0, .ref q0), (1, .int p_0)] := hl
  refine lv_lconst (v := 0) hx hb d_Md_coins_0 (by decide +kernel) ?_
  refine lv_lstore_n (lv' := [(2, .long 0), (0, .ref q0), (1, .int p_0)]) hx hb d_Md_coins_1 rfl hl (by decide) rfl (fun ls hl => ?_)
  refine lv_iload_n hx hb d_Md_coins_2 rfl (lv_at hl 2 rfl) ?_
  by_cases c_1 : p_0 = 0
  · refine lv_tableIn (off := 33) (tgt := 36) hx hb d_Md_coins_3 (by rw [c_1]; decide +kernel) (by rw [c_1]; decide +kernel) (by rw [c_1]; decide +kernel) (by decide) ?_
    refine lv_aload_n hx hb d_Md_coins_36 rfl (lv_at hl 1 rfl) ?_
    refine tw_getl (D := (dC, dI)) (C := R_Md) (T := F_Md) (N := 64) (ci := 7) (kd := 27) (ct := ct) hx hb htb i_Md hown hK hP m0 rfl rfl 56 (by decide) (htb (.fieldLink R_Md 316 "WaterMenModel" "box" "J") tw_116) (fun _ h9 => h9) rfl d_Md_coins_37 (fun x_2 e_2 => ?_)
    refine lv_l2i hx hb d_Md_coins_40 rfl ?_
    refine hb_anyi (fun y_3 => ?_)
    exact W.iret (v := y_3) hx hb hr (fun t ht hW => ⟨y_3, rfl, trivial, ht⟩) t_nil d_Md_coins_41
  · by_cases c_4 : p_0 = 1
    · refine lv_tableIn (off := 39) (tgt := 42) hx hb d_Md_coins_3 (by rw [c_4]; decide +kernel) (by rw [c_4]; decide +kernel) (by rw [c_4]; decide +kernel) (by decide) ?_
      refine lv_aload_n hx hb d_Md_coins_42 rfl (lv_at hl 1 rfl) ?_
      refine tw_getl (D := (dC, dI)) (C := R_Md) (T := F_Md) (N := 64) (ci := 7) (kd := 27) (ct := ct) hx hb htb i_Md hown hK hP m0 rfl rfl 57 (by decide) (htb (.fieldLink R_Md 320 "WaterMenModel" "pot" "J") tw_122) (fun _ h9 => h9) rfl d_Md_coins_43 (fun x_5 e_5 => ?_)
      refine lv_l2i hx hb d_Md_coins_46 rfl ?_
      refine hb_anyi (fun y_6 => ?_)
      exact W.iret (v := y_6) hx hb hr (fun t ht hW => ⟨y_6, rfl, trivial, ht⟩) t_nil d_Md_coins_47
    · by_cases c_7 : p_0 = 2
      · refine lv_tableIn (off := 45) (tgt := 48) hx hb d_Md_coins_3 (by rw [c_7]; decide +kernel) (by rw [c_7]; decide +kernel) (by rw [c_7]; decide +kernel) (by decide) ?_
        refine lv_iconst (v := 0) hx hb d_Md_coins_48 (by decide +kernel) ?_
        refine lv_istore (lv' := [(4, .int 0), (2, .long 0), (0, .ref q0), (1, .int p_0)]) hx hb d_Md_coins_49 hl (by decide) rfl (fun ls hl => ?_)
        have cut_8 : ∀ (n_8 : Nat) (v4_8 : Int32) (v2_8 : Int64) (ls : Array Slot), ¬ (v4_8 < 0) → ¬ (40 < v4_8) → (40 : Int32).toInt - (v4_8 : Int32).toInt ≤ (n_8 : Int) → lv_has ls 5 [(0, .ref q0), (2, .long v2_8), (4, .int v4_8)] → W p l e (headSpec (.code y_Md_coins b_Md_coins 5 (some .int) :: TB) ({ frames := 0, cells := 0, slots := 0, locals := 0 })).room s m [.ref q0, .int p_0].toArray below meth c s.heap [] 0 0 (MQ below (vp_Si (fun r => True)) [.ref q0, .int p_0].toArray s 0 0 (fun _ => False)) (F0 m 51 ls []) := by
          intro n_8
          induction n_8 using Nat.strongRecOn with
          | _ n_8 ih_8 =>
            intro v4_8 v2_8 ls iv0_8 iv1_8 hm_8 hl
            refine lv_iload hx hb d_Md_coins_51 (lv_at hl 2 rfl) ?_
            refine lv_bipush (v := 40) hx hb d_Md_coins_53 (by decide +kernel) ?_
            refine lv_icmp_ge (tgt := 75) hx hb d_Md_coins_55 (by decide) (fun c_9 => ?_) (fun c_9 => ?_)
            · refine lv_lload_n hx hb d_Md_coins_75 rfl (lv_at hl 1 rfl) ?_
              refine lv_l2i hx hb d_Md_coins_76 rfl ?_
              refine hb_anyi (fun y_10 => ?_)
              exact W.iret (v := y_10) hx hb hr (fun t ht hW => ⟨y_10, rfl, trivial, ht⟩) t_nil d_Md_coins_77
            · refine lv_lload_n hx hb d_Md_coins_58 rfl (lv_at hl 1 rfl) ?_
              refine lv_aload_n hx hb d_Md_coins_59 rfl (lv_at hl 0 rfl) ?_
              refine tw_getr (D := (dC, dI)) (C := R_Md) (T := F_Md) (N := 64) (ci := 7) (kd := 27) (ct := ct) hx hb htb i_Md hown hK hP hO_0 m0 rfl rfl 15 (by decide) (htb (.fieldLink R_Md 76 "WaterMenModel" "coins" "[I") tw_108) (fun _ h9 => h9) rfl d_Md_coins_60 (fun q_11 e_11 m_11 => ?_)
              refine lv_iload hx hb d_Md_coins_63 (lv_at hl 2 rfl) ?_
              refine tw_aldI (ct := ct) hx hb hK hP hO_0 m_11 rfl (hb_in iv0_8 c_9 (by decide +kernel)) d_Md_coins_65 (fun x_12 e_12 b_12 => ?_)
              refine lv_i2l hx hb d_Md_coins_66 rfl ?_
              refine lv_ladd hx hb d_Md_coins_67 ?_
              refine hb_anyl (fun y_13 => ?_)
              refine lv_lstore_n (lv' := [(2, .long y_13), (0, .ref q0), (4, .int v4_8)]) hx hb d_Md_coins_68 rfl hl (by decide) rfl (fun ls hl => ?_)
              refine lv_iinc (v := (v4_8 + 1)) (lv' := [(4, .int (v4_8 + 1)), (2, .long y_13), (0, .ref q0)]) hx hb d_Md_coins_69 hl (k := 2) rfl rfl (by decide) rfl (fun ls hl => ?_)
              refine lv_goto (tgt := 51) hx hb d_Md_coins_72 (by decide) ?_
              exact ih_8 (n_8 - 1) (ms_1 ((fun (a_0 : Int32) (k_0 : ¬ (40 ≤ a_0)) => (show 1 ≤ (40 : Int32).toInt - (a_0).toInt ∧ (40 : Int32).toInt - ((a_0) + (1 : Int32)).toInt + 1 ≤ (40 : Int32).toInt - (a_0).toInt from by have z0 : (1 : Int32).toInt = 1 := (by decide +kernel); have z1 : (40 : Int32).toInt = 40 := (by decide +kernel); have r0 := fb_rng (a_0); have e0 := k_0; rw [Int32.le_iff_toInt_le, z1] at e0; obtain ⟨n_0, hn_0, s0⟩ := nd_add (x := (a_0)) (y := (1 : Int32)) (by (try rw [z0]); omega) (by (try rw [z0]); omega); rw [z0] at s0; rw [hn_0]; (try rw [z1]); omega)) v4_8 c_9) hm_8) (v4_8 + 1) y_13 _ (show ¬ ((v4_8 + 1) < 0) from by have e0 := iv0_8; rw [Int32.lt_iff_toInt_lt] at e0; have e1 := c_9; rw [Int32.le_iff_toInt_le] at e1; have z0 : (0 : Int32).toInt = 0 := (by decide +kernel); have z1 : (1 : Int32).toInt = 1 := (by decide +kernel); have z2 : (40 : Int32).toInt = 40 := (by decide +kernel); have ss := fb_addI (x := v4_8) (y := 1) (by omega) (by omega); rw [Int32.lt_iff_toInt_lt]; omega) (show ¬ (40 < (v4_8 + 1)) from by have e0 := iv0_8; rw [Int32.lt_iff_toInt_lt] at e0; have e1 := c_9; rw [Int32.le_iff_toInt_le] at e1; have z0 : (0 : Int32).toInt = 0 := (by decide +kernel); have z1 : (1 : Int32).toInt = 1 := (by decide +kernel); have z2 : (40 : Int32).toInt = 40 := (by decide +kernel); have ss := fb_addI (x := v4_8) (y := 1) (by omega) (by omega); rw [Int32.lt_iff_toInt_lt]; omega) (by exact ms_2 ((fun (a_0 : Int32) (k_0 : ¬ (40 ≤ a_0)) => (show 1 ≤ (40 : Int32).toInt - (a_0).toInt ∧ (40 : Int32).toInt - ((a_0) + (1 : Int32)).toInt + 1 ≤ (40 : Int32).toInt - (a_0).toInt from by have z0 : (1 : Int32).toInt = 1 := (by decide +kernel); have z1 : (40 : Int32).toInt = 40 := (by decide +kernel); have r0 := fb_rng (a_0); have e0 := k_0; rw [Int32.le_iff_toInt_le, z1] at e0; obtain ⟨n_0, hn_0, s0⟩ := nd_add (x := (a_0)) (y := (1 : Int32)) (by (try rw [z0]); omega) (by (try rw [z0]); omega); rw [z0] at s0; rw [hn_0]; (try rw [z1]); omega)) v4_8 c_9) hm_8) (lv_sub hl [2, 1, 0] rfl)
        exact cut_8 4294967296 (0 : Int32) 0 _ (by decide +kernel) (by decide +kernel) (by exact ms_0 _ _) (lv_sub hl [2, 1, 0] rfl)
      · by_cases c_14 : p_0 = 3
        · refine lv_tableIn (off := 75) (tgt := 78) hx hb d_Md_coins_3 (by rw [c_14]; decide +kernel) (by rw [c_14]; decide +kernel) (by rw [c_14]; decide +kernel) (by decide) ?_
          refine lv_iconst (v := 0) hx hb d_Md_coins_78 (by decide +kernel) ?_
          refine lv_istore (lv' := [(4, .int 0), (2, .long 0), (0, .ref q0), (1, .int p_0)]) hx hb d_Md_coins_79 hl (by decide) rfl (fun ls hl => ?_)
          have cut_15 : ∀ (n_15 : Nat) (v4_15 : Int32) (v2_15 : Int64) (ls : Array Slot), ¬ (v4_15 < 0) → ¬ (600 < v4_15) → (600 : Int32).toInt - (v4_15 : Int32).toInt ≤ (n_15 : Int) → lv_has ls 5 [(0, .ref q0), (2, .long v2_15), (4, .int v4_15)] → W p l e (headSpec (.code y_Md_coins b_Md_coins 5 (some .int) :: TB) ({ frames := 0, cells := 0, slots := 0, locals := 0 })).room s m [.ref q0, .int p_0].toArray below meth c s.heap [] 0 0 (MQ below (vp_Si (fun r => True)) [.ref q0, .int p_0].toArray s 0 0 (fun _ => False)) (F0 m 81 ls []) := by
            intro n_15
            induction n_15 using Nat.strongRecOn with
            | _ n_15 ih_15 =>
              intro v4_15 v2_15 ls iv0_15 iv1_15 hm_15 hl
              refine lv_iload hx hb d_Md_coins_81 (lv_at hl 2 rfl) ?_
              refine lv_aload_n hx hb d_Md_coins_83 rfl (lv_at hl 0 rfl) ?_
              refine tw_geti (D := (dC, dI)) (C := R_Md) (T := F_Md) (N := 64) (ci := 7) (kd := 27) (ct := ct) hx hb htb i_Md hown hK hP hO_0 m0 rfl rfl 47 (by decide) (htb (.fieldLink R_Md 313 "WaterMenModel" "trips" "I") tw_123) (fun _ h9 => h9) rfl d_Md_coins_84 (fun x_16 e_16 b_16 => ?_)
              refine lv_icmp_ge (tgt := 107) hx hb d_Md_coins_87 (by decide) (fun c_17 => ?_) (fun c_17 => ?_)
              · refine lv_lload_n hx hb d_Md_coins_107 rfl (lv_at hl 1 rfl) ?_
                refine lv_l2i hx hb d_Md_coins_108 rfl ?_
                refine hb_anyi (fun y_18 => ?_)
                exact W.iret (v := y_18) hx hb hr (fun t ht hW => ⟨y_18, rfl, trivial, ht⟩) t_nil d_Md_coins_109
              · refine lv_lload_n hx hb d_Md_coins_90 rfl (lv_at hl 1 rfl) ?_
                refine lv_aload_n hx hb d_Md_coins_91 rfl (lv_at hl 0 rfl) ?_
                refine tw_getr (D := (dC, dI)) (C := R_Md) (T := F_Md) (N := 64) (ci := 7) (kd := 27) (ct := ct) hx hb htb i_Md hown hK hP hO_0 m0 rfl rfl 54 (by decide) (htb (.fieldLink R_Md 167 "WaterMenModel" "tripPaid" "[I") tw_124) (fun _ h9 => h9) rfl d_Md_coins_92 (fun q_19 e_19 m_19 => ?_)
                refine lv_iload hx hb d_Md_coins_95 (lv_at hl 2 rfl) ?_
                refine tw_aldI (ct := ct) hx hb hK hP hO_0 m_19 rfl ((fun (a_0 : Int32) (a_1 : Int32) (k_0 : ¬ (a_0 < 0)) (k_1 : ¬ (a_1 ≤ a_0)) (k_2 : ¬ (600 < a_1)) => (show vp_in (a_0) 600 from by have z0 : (0 : Int32).toInt = 0 := (by decide +kernel); have z1 : (600 : Int32).toInt = 600 := (by decide +kernel); have r0 := fb_rng (a_0); have r1 := fb_rng (a_1); have e0 := k_0; rw [Int32.lt_iff_toInt_lt, z0] at e0; have e1 := k_1; rw [Int32.le_iff_toInt_le] at e1; have e2 := k_2; rw [Int32.lt_iff_toInt_lt, z1] at e2; rw [vp_in_iff]; omega)) v4_15 x_16 iv0_15 c_17 b_16.2) d_Md_coins_97 (fun x_20 e_20 b_20 => ?_)
                refine lv_i2l hx hb d_Md_coins_98 rfl ?_
                refine lv_ladd hx hb d_Md_coins_99 ?_
                refine hb_anyl (fun y_21 => ?_)
                refine lv_lstore_n (lv' := [(2, .long y_21), (0, .ref q0), (4, .int v4_15)]) hx hb d_Md_coins_100 rfl hl (by decide) rfl (fun ls hl => ?_)
                refine lv_iinc (v := (v4_15 + 1)) (lv' := [(4, .int (v4_15 + 1)), (2, .long y_21), (0, .ref q0)]) hx hb d_Md_coins_101 hl (k := 2) rfl rfl (by decide) rfl (fun ls hl => ?_)
                refine lv_goto (tgt := 81) hx hb d_Md_coins_104 (by decide) ?_
                exact ih_15 (n_15 - 1) (ms_1 ((fun (a_0 : Int32) (a_1 : Int32) (k_0 : ¬ (a_1 ≤ a_0)) (k_1 : ¬ (600 < a_1)) => (show 1 ≤ (600 : Int32).toInt - (a_0).toInt ∧ (600 : Int32).toInt - ((a_0) + (1 : Int32)).toInt + 1 ≤ (600 : Int32).toInt - (a_0).toInt from by have z0 : (1 : Int32).toInt = 1 := (by decide +kernel); have z1 : (600 : Int32).toInt = 600 := (by decide +kernel); have r0 := fb_rng (a_0); have r1 := fb_rng (a_1); have e0 := k_0; rw [Int32.le_iff_toInt_le] at e0; have e1 := k_1; rw [Int32.lt_iff_toInt_lt, z1] at e1; obtain ⟨n_0, hn_0, s0⟩ := nd_add (x := (a_0)) (y := (1 : Int32)) (by (try rw [z0]); omega) (by (try rw [z0]); omega); rw [z0] at s0; rw [hn_0]; (try rw [z1]); omega)) v4_15 x_16 c_17 b_16.2) hm_15) (v4_15 + 1) y_21 _ (show ¬ ((v4_15 + 1) < 0) from by have e0 := iv0_15; rw [Int32.lt_iff_toInt_lt] at e0; have e1 := iv1_15; rw [Int32.lt_iff_toInt_lt] at e1; have z0 : (0 : Int32).toInt = 0 := (by decide +kernel); have z1 : (1 : Int32).toInt = 1 := (by decide +kernel); have z2 : (600 : Int32).toInt = 600 := (by decide +kernel); have ss := fb_addI (x := v4_15) (y := 1) (by omega) (by omega); rw [Int32.lt_iff_toInt_lt]; omega) (show ¬ (600 < (v4_15 + 1)) from ((fun (a_0 : Int32) (a_1 : Int32) (k_0 : ¬ (a_1 ≤ a_0)) (k_1 : ¬ (600 < a_1)) => (show ¬ (600 < (a_0 + 1)) from by have z0 : (1 : Int32).toInt = 1 := (by decide +kernel); have z1 : (600 : Int32).toInt = 600 := (by decide +kernel); have r0 := fb_rng (a_0); have r1 := fb_rng (a_1); have e0 := k_0; rw [Int32.le_iff_toInt_le] at e0; have e1 := k_1; rw [Int32.lt_iff_toInt_lt, z1] at e1; obtain ⟨n_0, hn_0, s0⟩ := nd_add (x := (a_0)) (y := (1 : Int32)) (by (try rw [z0]); omega) (by (try rw [z0]); omega); rw [z0] at s0; rw [hn_0, Int32.lt_iff_toInt_lt, z1]; omega)) v4_15 x_16 c_17 b_16.2)) (by exact ms_2 ((fun (a_0 : Int32) (a_1 : Int32) (k_0 : ¬ (a_1 ≤ a_0)) (k_1 : ¬ (600 < a_1)) => (show 1 ≤ (600 : Int32).toInt - (a_0).toInt ∧ (600 : Int32).toInt - ((a_0) + (1 : Int32)).toInt + 1 ≤ (600 : Int32).toInt - (a_0).toInt from by have z0 : (1 : Int32).toInt = 1 := (by decide +kernel); have z1 : (600 : Int32).toInt = 600 := (by decide +kernel); have r0 := fb_rng (a_0); have r1 := fb_rng (a_1); have e0 := k_0; rw [Int32.le_iff_toInt_le] at e0; have e1 := k_1; rw [Int32.lt_iff_toInt_lt, z1] at e1; obtain ⟨n_0, hn_0, s0⟩ := nd_add (x := (a_0)) (y := (1 : Int32)) (by (try rw [z0]); omega) (by (try rw [z0]); omega); rw [z0] at s0; rw [hn_0]; (try rw [z1]); omega)) v4_15 x_16 c_17 b_16.2) hm_15) (lv_sub hl [2, 1, 0] rfl)
          exact cut_15 4294967296 (0 : Int32) 0 _ (by decide +kernel) (by decide +kernel) (by exact ms_0 _ _) (lv_sub hl [2, 1, 0] rfl)
        · by_cases c_22 : p_0 = 4
          · refine lv_tableIn (off := 107) (tgt := 110) hx hb d_Md_coins_3 (by rw [c_22]; decide +kernel) (by rw [c_22]; decide +kernel) (by rw [c_22]; decide +kernel) (by decide) ?_
            refine lv_aload_n hx hb d_Md_coins_110 rfl (lv_at hl 1 rfl) ?_
            refine tw_getl (D := (dC, dI)) (C := R_Md) (T := F_Md) (N := 64) (ci := 7) (kd := 27) (ct := ct) hx hb htb i_Md hown hK hP m0 rfl rfl 58 (by decide) (htb (.fieldLink R_Md 326 "WaterMenModel" "paidOut" "J") tw_125) (fun _ h9 => h9) rfl d_Md_coins_111 (fun x_23 e_23 => ?_)
            refine lv_l2i hx hb d_Md_coins_114 rfl ?_
            refine hb_anyi (fun y_24 => ?_)
            exact W.iret (v := y_24) hx hb hr (fun t ht hW => ⟨y_24, rfl, trivial, ht⟩) t_nil d_Md_coins_115
          · refine lv_tableOut (tgt := 116) hx hb d_Md_coins_3 (by have h0 := lv_neT c_1 (show (0 : Int32).toInt = 0 by decide +kernel); have h1 := lv_neT c_4 (show (1 : Int32).toInt = 1 by decide +kernel); have h2 := lv_neT c_7 (show (2 : Int32).toInt = 2 by decide +kernel); have h3 := lv_neT c_14 (show (3 : Int32).toInt = 3 by decide +kernel); have h4 := lv_neT c_22 (show (4 : Int32).toInt = 4 by decide +kernel); omega) (by decide) ?_
            refine lv_iconst (v := (-1)) hx hb d_Md_coins_116 (by decide +kernel) ?_
            exact W.iret (v := (-1)) hx hb hr (fun t ht hW => ⟨(-1), rfl, trivial, ht⟩) t_nil d_Md_coins_117
