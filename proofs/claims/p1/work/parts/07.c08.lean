def f_WM_count (p_0 : Int32) : Int32 := if p_0 = 0 then (0) else (if p_0 = 1 then (0) else (if p_0 = 2 then (0) else (if p_0 = 3 then (0) else (if p_0 = 4 then (0) else (if p_0 = 5 then (0) else (if p_0 = 6 then (0) else (if p_0 = 7 then (0) else (if p_0 = 8 then (0) else (if p_0 = 9 then (0) else ((-1)))))))))))
set_option maxHeartbeats 4000000 in
set_option maxRecDepth 100000 in
theorem c_WM_count (l : Launch) (dC : Nat → ClassId) (dI : Nat → Nat → Nat) (a : Nat → Nat) (k : Nat → ClassId) (L : List Nat) (hL : L.length = 40)  (p_0 : Int32)  : Met l y_WM_count (.code y_WM_count b_WM_count 2 (some .int) :: TB) ({ frames := 1, cells := 0, slots := 0, locals := 24 }) (va_Pc [.ref (a 0), .int p_0] (PR dC dI (XW a k L) (XT k))) (vp_Si (fun r => r = f_WM_count p_0)) 0 0 (fun _ => False) := by
  refine Met.ofW (cc := b_WM_count) (maxL := 2) (ret := (some .int)) (by decide) rfl ?_
  intro p e s m args below meth c s₁ B hml hv
  obtain ⟨rfl, hP, hK, hN⟩ := hv
  have hx := B.exec
  have hb := B.bytes
  have hr := B.returns
  have hts := atoms_spec (ws := (.code y_WM_count b_WM_count 2 (some .int) :: TB)) B.pre
  have htb := fun w (h : w ∈ TB) => hts w (List.mem_cons_of_mem _ h)
  have hown : s.vm.findClass R_WM = some m.cls := findClass_of_methodNamed B.named
  have hlocks := B.notSynchronized
  have hl := lv_entry ([.ref (a 0), .int p_0]) (n := 2) (Nat.le_of_ble_eq_true rfl)
  rw [lg_entry_eq]
  generalize (lg_sl ([.ref (a 0), .int p_0]) ++ List.replicate (2 - (lg_sl ([.ref (a 0), .int p_0])).length) Slot.unset).toArray = ls at hl ⊢
  have hl : lv_has ls 2 [(0, .ref (a 0)), (1, .int p_0)] := hl
  refine lv_iload_n hx hb d_WM_count_0 rfl (lv_at hl 1 rfl) ?_
  by_cases c_1 : p_0 = 0
  · refine lv_tableIn (off := 55) (tgt := 56) hx hb d_WM_count_1 (by rw [c_1]; decide +kernel) (by rw [c_1]; decide +kernel) (by rw [c_1]; decide +kernel) (by decide) ?_
    refine lv_aload_n hx hb d_WM_count_56 rfl (lv_at hl 0 rfl) ?_
    refine va_get (D := (dC, dI)) (ci := 0) (v := .ref (a 1)) (C := R_WM) (T := F_WM) (N := 13) hx hb htb i_WM hown hK hP 0 rfl rfl 0 (by decide) (htb (.fieldLink R_WM 12 "WaterMen" "river" "LWaterMen$River;") tw_68) (fun _ h9 => h9) rfl d_WM_count_57 ?_
    refine va_get (D := (dC, dI)) (ci := 1) (v := .int 0) (C := R_Rv) (T := F_Rv) (N := 6) hx hb htb i_Rv hown hK hP 1 rfl rfl 4 (by decide) (htb (.fieldLink R_WM 64 "WaterMen$River" "stairCount" "I") tw_117) (fun _ h9 => h9) rfl d_WM_count_60 ?_
    exact W.iret (v := 0) hx hb hr (fun t ht hW => ⟨0, rfl, (by unfold f_WM_count; rw [if_pos c_1]), ht⟩) t_nil d_WM_count_63
  · by_cases c_2 : p_0 = 1
    · refine lv_tableIn (off := 63) (tgt := 64) hx hb d_WM_count_1 (by rw [c_2]; decide +kernel) (by rw [c_2]; decide +kernel) (by rw [c_2]; decide +kernel) (by decide) ?_
      refine lv_aload_n hx hb d_WM_count_64 rfl (lv_at hl 0 rfl) ?_
      refine va_get (D := (dC, dI)) (ci := 0) (v := .int 0) (C := R_WM) (T := F_WM) (N := 13) hx hb htb i_WM hown hK hP 0 rfl rfl 7 (by decide) (htb (.fieldLink R_WM 170 "WaterMen" "boatCount" "I") tw_185) (fun _ h9 => h9) rfl d_WM_count_65 ?_
      exact W.iret (v := 0) hx hb hr (fun t ht hW => ⟨0, rfl, (by unfold f_WM_count; rw [if_neg c_1, if_pos c_2]), ht⟩) t_nil d_WM_count_68
    · by_cases c_3 : p_0 = 2
      · refine lv_tableIn (off := 68) (tgt := 69) hx hb d_WM_count_1 (by rw [c_3]; decide +kernel) (by rw [c_3]; decide +kernel) (by rw [c_3]; decide +kernel) (by decide) ?_
        refine lv_aload_n hx hb d_WM_count_69 rfl (lv_at hl 0 rfl) ?_
        refine va_get (D := (dC, dI)) (ci := 0) (v := .int 0) (C := R_WM) (T := F_WM) (N := 13) hx hb htb i_WM hown hK hP 0 rfl rfl 9 (by decide) (htb (.fieldLink R_WM 243 "WaterMen" "tripCount" "I") tw_244) (fun _ h9 => h9) rfl d_WM_count_70 ?_
        exact W.iret (v := 0) hx hb hr (fun t ht hW => ⟨0, rfl, (by unfold f_WM_count; rw [if_neg c_1, if_neg c_2, if_pos c_3]), ht⟩) t_nil d_WM_count_73
      · by_cases c_4 : p_0 = 3
        · refine lv_tableIn (off := 73) (tgt := 74) hx hb d_WM_count_1 (by rw [c_4]; decide +kernel) (by rw [c_4]; decide +kernel) (by rw [c_4]; decide +kernel) (by decide) ?_
          refine lv_aload_n hx hb d_WM_count_74 rfl (lv_at hl 0 rfl) ?_
          refine va_get (D := (dC, dI)) (ci := 0) (v := .int 0) (C := R_WM) (T := F_WM) (N := 13) hx hb htb i_WM hown hK hP 0 rfl rfl 8 (by decide) (htb (.fieldLink R_WM 210 "WaterMen" "orderCount" "I") tw_200) (fun _ h9 => h9) rfl d_WM_count_75 ?_
          exact W.iret (v := 0) hx hb hr (fun t ht hW => ⟨0, rfl, (by unfold f_WM_count; rw [if_neg c_1, if_neg c_2, if_neg c_3, if_pos c_4]), ht⟩) t_nil d_WM_count_78
        · by_cases c_5 : p_0 = 4
          · refine lv_tableIn (off := 78) (tgt := 79) hx hb d_WM_count_1 (by rw [c_5]; decide +kernel) (by rw [c_5]; decide +kernel) (by rw [c_5]; decide +kernel) (by decide) ?_
            refine lv_aload_n hx hb d_WM_count_79 rfl (lv_at hl 0 rfl) ?_
            refine va_get (D := (dC, dI)) (ci := 0) (v := .int 0) (C := R_WM) (T := F_WM) (N := 13) hx hb htb i_WM hown hK hP 0 rfl rfl 10 (by decide) (htb (.fieldLink R_WM 155 "WaterMen" "now" "I") tw_146) (fun _ h9 => h9) rfl d_WM_count_80 ?_
            exact W.iret (v := 0) hx hb hr (fun t ht hW => ⟨0, rfl, (by unfold f_WM_count; rw [if_neg c_1, if_neg c_2, if_neg c_3, if_neg c_4, if_pos c_5]), ht⟩) t_nil d_WM_count_83
          · by_cases c_6 : p_0 = 5
            · refine lv_tableIn (off := 83) (tgt := 84) hx hb d_WM_count_1 (by rw [c_6]; decide +kernel) (by rw [c_6]; decide +kernel) (by rw [c_6]; decide +kernel) (by decide) ?_
              refine lv_aload_n hx hb d_WM_count_84 rfl (lv_at hl 0 rfl) ?_
              refine lv_iconst (v := 2) hx hb d_WM_count_85 (by decide +kernel) ?_
              refine vp_callSi (va_Run.run (va_runV (As := [.int 2]) (rest := []) ⟨hx, hb, hml, hown, htb⟩ (c_WM_menThatAre l dC dI a k L hL 2) (cwV 1 htb (gd_V tw_284 tw_285 tw_286 tw_124 tw_283) rfl rfl rfl (by decide +kernel) ⟨Nat.le_of_ble_eq_true rfl, Nat.le_of_ble_eq_true rfl⟩) ⟨pr_blind, va_recv hK hP (ci := 0) (q0 := 0) rfl rfl, pr_pre hP hK hN⟩ rfl rfl hl.1 rfl (lv_room (Nat.le_of_ble_eq_true rfl)) d_WM_count_86 ⟨Nat.le_of_ble_eq_true rfl, Nat.le_of_ble_eq_true rfl⟩)) (fun r er => ?_)
              subst er
              refine hb_ti 0 (by unfold f_WM_menThatAre; rw [if_neg (by decide +kernel : ¬ ((0 : Int32) = 2))]) ?_
              exact W.iret (v := 0) hx hb hr (fun t ht hW => ⟨0, rfl, (by unfold f_WM_count; rw [if_neg c_1, if_neg c_2, if_neg c_3, if_neg c_4, if_neg c_5, if_pos c_6]), ht⟩) t_nil d_WM_count_89
            · by_cases c_7 : p_0 = 6
              · refine lv_tableIn (off := 89) (tgt := 90) hx hb d_WM_count_1 (by rw [c_7]; decide +kernel) (by rw [c_7]; decide +kernel) (by rw [c_7]; decide +kernel) (by decide) ?_
                refine lv_aload_n hx hb d_WM_count_90 rfl (lv_at hl 0 rfl) ?_
                refine lv_iconst (v := 1) hx hb d_WM_count_91 (by decide +kernel) ?_
                refine vp_callSi (va_Run.run (va_runV (As := [.int 1]) (rest := []) ⟨hx, hb, hml, hown, htb⟩ (c_WM_menThatAre l dC dI a k L hL 1) (cwV 1 htb (gd_V tw_284 tw_285 tw_286 tw_124 tw_283) rfl rfl rfl (by decide +kernel) ⟨Nat.le_of_ble_eq_true rfl, Nat.le_of_ble_eq_true rfl⟩) ⟨pr_blind, va_recv hK hP (ci := 0) (q0 := 0) rfl rfl, pr_pre hP hK hN⟩ rfl rfl hl.1 rfl (lv_room (Nat.le_of_ble_eq_true rfl)) d_WM_count_92 ⟨Nat.le_of_ble_eq_true rfl, Nat.le_of_ble_eq_true rfl⟩)) (fun r er => ?_)
                subst er
                refine hb_ti 0 (by unfold f_WM_menThatAre; rw [if_neg (by decide +kernel : ¬ ((0 : Int32) = 1))]) ?_
                exact W.iret (v := 0) hx hb hr (fun t ht hW => ⟨0, rfl, (by unfold f_WM_count; rw [if_neg c_1, if_neg c_2, if_neg c_3, if_neg c_4, if_neg c_5, if_neg c_6, if_pos c_7]), ht⟩) t_nil d_WM_count_95
              · by_cases c_8 : p_0 = 7
                · refine lv_tableIn (off := 95) (tgt := 96) hx hb d_WM_count_1 (by rw [c_8]; decide +kernel) (by rw [c_8]; decide +kernel) (by rw [c_8]; decide +kernel) (by decide) ?_
                  refine lv_aload_n hx hb d_WM_count_96 rfl (lv_at hl 0 rfl) ?_
                  refine lv_iconst (v := 3) hx hb d_WM_count_97 (by decide +kernel) ?_
                  refine vp_callSi (va_Run.run (va_runV (As := [.int 3]) (rest := []) ⟨hx, hb, hml, hown, htb⟩ (c_WM_menThatAre l dC dI a k L hL 3) (cwV 1 htb (gd_V tw_284 tw_285 tw_286 tw_124 tw_283) rfl rfl rfl (by decide +kernel) ⟨Nat.le_of_ble_eq_true rfl, Nat.le_of_ble_eq_true rfl⟩) ⟨pr_blind, va_recv hK hP (ci := 0) (q0 := 0) rfl rfl, pr_pre hP hK hN⟩ rfl rfl hl.1 rfl (lv_room (Nat.le_of_ble_eq_true rfl)) d_WM_count_98 ⟨Nat.le_of_ble_eq_true rfl, Nat.le_of_ble_eq_true rfl⟩)) (fun r er => ?_)
                  subst er
                  refine hb_ti 0 (by unfold f_WM_menThatAre; rw [if_neg (by decide +kernel : ¬ ((0 : Int32) = 3))]) ?_
                  exact W.iret (v := 0) hx hb hr (fun t ht hW => ⟨0, rfl, (by unfold f_WM_count; rw [if_neg c_1, if_neg c_2, if_neg c_3, if_neg c_4, if_neg c_5, if_neg c_6, if_neg c_7, if_pos c_8]), ht⟩) t_nil d_WM_count_101
                · by_cases c_9 : p_0 = 8
                  · refine lv_tableIn (off := 101) (tgt := 102) hx hb d_WM_count_1 (by rw [c_9]; decide +kernel) (by rw [c_9]; decide +kernel) (by rw [c_9]; decide +kernel) (by decide) ?_
                    refine lv_aload_n hx hb d_WM_count_102 rfl (lv_at hl 0 rfl) ?_
                    refine va_get (D := (dC, dI)) (ci := 0) (v := .ref (a 12)) (C := R_WM) (T := F_WM) (N := 13) hx hb htb i_WM hown hK hP 0 rfl rfl 6 (by decide) (htb (.fieldLink R_WM 50 "WaterMen" "box" "LWaterMen$Box;") tw_94) (fun _ h9 => h9) rfl d_WM_count_103 ?_
                    refine va_get (D := (dC, dI)) (ci := 5) (v := .int 0) (C := R_Bx) (T := F_Bx) (N := 7) hx hb htb i_Bx hown hK hP 12 rfl rfl 6 (by decide) (htb (.fieldLink R_WM 280 "WaterMen$Box" "pensionerCount" "I") tw_252) (fun _ h9 => h9) rfl d_WM_count_106 ?_
                    exact W.iret (v := 0) hx hb hr (fun t ht hW => ⟨0, rfl, (by unfold f_WM_count; rw [if_neg c_1, if_neg c_2, if_neg c_3, if_neg c_4, if_neg c_5, if_neg c_6, if_neg c_7, if_neg c_8, if_pos c_9]), ht⟩) t_nil d_WM_count_109
                  · by_cases c_10 : p_0 = 9
                    · refine lv_tableIn (off := 109) (tgt := 110) hx hb d_WM_count_1 (by rw [c_10]; decide +kernel) (by rw [c_10]; decide +kernel) (by rw [c_10]; decide +kernel) (by decide) ?_
                      refine lv_aload_n hx hb d_WM_count_110 rfl (lv_at hl 0 rfl) ?_
                      refine va_get (D := (dC, dI)) (ci := 0) (v := .ref (a 10)) (C := R_WM) (T := F_WM) (N := 13) hx hb htb i_WM hown hK hP 0 rfl rfl 5 (by decide) (htb (.fieldLink R_WM 43 "WaterMen" "tape" "LWaterMen$Tape;") tw_84) (fun _ h9 => h9) rfl d_WM_count_111 ?_
                      refine va_get (D := (dC, dI)) (ci := 4) (v := .int 0) (C := R_Tp) (T := F_Tp) (N := 6) hx hb htb i_Tp hown hK hP 10 rfl rfl 1 (by decide) (htb (.fieldLink R_WM 207 "WaterMen$Tape" "length" "I") tw_199) (fun _ h9 => h9) rfl d_WM_count_114 ?_
                      exact W.iret (v := 0) hx hb hr (fun t ht hW => ⟨0, rfl, (by unfold f_WM_count; rw [if_neg c_1, if_neg c_2, if_neg c_3, if_neg c_4, if_neg c_5, if_neg c_6, if_neg c_7, if_neg c_8, if_neg c_9, if_pos c_10]), ht⟩) t_nil d_WM_count_117
                    · refine lv_tableOut (tgt := 118) hx hb d_WM_count_1 (by have h0 := lv_neT c_1 (show (0 : Int32).toInt = 0 by decide +kernel); have h1 := lv_neT c_2 (show (1 : Int32).toInt = 1 by decide +kernel); have h2 := lv_neT c_3 (show (2 : Int32).toInt = 2 by decide +kernel); have h3 := lv_neT c_4 (show (3 : Int32).toInt = 3 by decide +kernel); have h4 := lv_neT c_5 (show (4 : Int32).toInt = 4 by decide +kernel); have h5 := lv_neT c_6 (show (5 : Int32).toInt = 5 by decide +kernel); have h6 := lv_neT c_7 (show (6 : Int32).toInt = 6 by decide +kernel); have h7 := lv_neT c_8 (show (7 : Int32).toInt = 7 by decide +kernel); have h8 := lv_neT c_9 (show (8 : Int32).toInt = 8 by decide +kernel); have h9 := lv_neT c_10 (show (9 : Int32).toInt = 9 by decide +kernel); omega) (by decide) ?_
                      refine lv_iconst (v := (-1)) hx hb d_WM_count_118 (by decide +kernel) ?_
                      exact W.iret (v := (-1)) hx hb hr (fun t ht hW => ⟨(-1), rfl, (by unfold f_WM_count; rw [if_neg c_1, if_neg c_2, if_neg c_3, if_neg c_4, if_neg c_5, if_neg c_6, if_neg c_7, if_neg c_8, if_neg c_9, if_neg c_10]), ht⟩) t_nil d_WM_count_119
def f_WM_coinsOfMen  : Int32 := 0
set_option maxHeartbeats 4000000 in
set_option maxRecDepth 100000 in
theorem c_WM_coinsOfMen (l : Launch) (dC : Nat → ClassId) (dI : Nat → Nat → Nat) (a : Nat → Nat) (k : Nat → ClassId) (L : List Nat) (hL : L.length = 40)    : Met l y_WM_coinsOfMen (.code y_WM_coinsOfMen b_WM_coinsOfMen 4 (some .int) :: TB) ({ frames := 0, cells := 0, slots := 0, locals := 0 }) (va_Pc [.ref (a 0)] (PR dC dI (XW a k L) (XT k))) (vp_Si (fun r => r = f_WM_coinsOfMen)) 0 0 (fun _ => False) := by
  refine Met.ofW (cc := b_WM_coinsOfMen) (maxL := 4) (ret := (some .int)) (by decide) rfl ?_
  intro p e s m args below meth c s₁ B hml hv
  obtain ⟨rfl, hP, hK, hN⟩ := hv
  have hx := B.exec
  have hb := B.bytes
  have hr := B.returns
  have hts := atoms_spec (ws := (.code y_WM_coinsOfMen b_WM_coinsOfMen 4 (some .int) :: TB)) B.pre
  have htb := fun w (h : w ∈ TB) => hts w (List.mem_cons_of_mem _ h)
  have hown : s.vm.findClass R_WM = some m.cls := findClass_of_methodNamed B.named
  have hlocks := B.notSynchronized
  have hl := lv_entry ([.ref (a 0)]) (n := 4) (Nat.le_of_ble_eq_true rfl)
  rw [lg_entry_eq]
  generalize (lg_sl ([.ref (a 0)]) ++ List.replicate (4 - (lg_sl ([.ref (a 0)])).length) Slot.unset).toArray = ls at hl ⊢
  have hl : lv_has ls 4 [(0, .ref (a 0))] := hl
  refine lv_iconst (v := 0) hx hb d_WM_coinsOfMen_0 (by decide +kernel) ?_
  refine lv_istore_n (lv' := [(1, .int 0), (0, .ref (a 0))]) hx hb d_WM_coinsOfMen_1 rfl hl (by decide) rfl (fun ls hl => ?_)
  refine lv_iconst (v := 0) hx hb d_WM_coinsOfMen_2 (by decide +kernel) ?_
  refine lv_istore_n (lv' := [(2, .int 0), (1, .int 0), (0, .ref (a 0))]) hx hb d_WM_coinsOfMen_3 rfl hl (by decide) rfl (fun ls hl => ?_)
  refine lv_iload_n hx hb d_WM_coinsOfMen_4 rfl (lv_at hl 0 rfl) ?_
  refine lv_bipush (v := 40) hx hb d_WM_coinsOfMen_5 (by decide +kernel) ?_
  refine lv_icmp_ge (tgt := 38) hx hb d_WM_coinsOfMen_7 (by decide) (fun h => absurd h (by decide +kernel)) (fun _ => ?_)
  refine lv_aload_n hx hb d_WM_coinsOfMen_10 rfl (lv_at hl 2 rfl) ?_
  refine va_get (D := (dC, dI)) (ci := 0) (v := .ref (a 6)) (C := R_WM) (T := F_WM) (N := 13) hx hb htb i_WM hown hK hP 0 rfl rfl 1 (by decide) (htb (.fieldLink R_WM 18 "WaterMen" "men" "[LWaterMen$Man;") tw_70) (fun _ h9 => h9) rfl d_WM_coinsOfMen_11 ?_
  refine lv_iload_n hx hb d_WM_coinsOfMen_14 rfl (lv_at hl 0 rfl) ?_
  refine va_aldq hx hb hK hP 6 4 rfl rfl (by unfold vp_in; decide +kernel) d_WM_coinsOfMen_15 ?_
  obtain ⟨q_1, x_2, hq_3, hk_4⟩ := xw_man (a := a) (k := k) (i := 0) hL (by unfold vp_in; decide +kernel)
  refine hb_tv (.ref q_1) (by show va_rf (L[_]?) = _; rw [hq_3]; rfl) ?_
  refine lv_astore_n (lv' := [(3, .ref q_1), (2, .int 0), (1, .int 0), (0, .ref (a 0))]) hx hb d_WM_coinsOfMen_16 rfl hl (by decide) rfl (fun ls hl => ?_)
  refine lv_iload_n hx hb d_WM_coinsOfMen_17 rfl (lv_at hl 2 rfl) ?_
  refine lv_aload_n hx hb d_WM_coinsOfMen_18 rfl (lv_at hl 0 rfl) ?_
  refine lv_ifnonnull (tgt := 26) hx hb d_WM_coinsOfMen_19 (by decide) ?_
  refine lv_aload_n hx hb d_WM_coinsOfMen_26 rfl (lv_at hl 0 rfl) ?_
  refine va_get (D := (dC, dI)) (ci := 2) (v := .int 0) (C := R_Mn) (T := F_Mn) (N := 8) hx hb htb i_Mn hown hK hP x_2 hk_4 rfl 4 (by decide) (htb (.fieldLink R_WM 152 "WaterMen$Man" "coins" "I") tw_171) (fun _ h9 => h9) rfl d_WM_coinsOfMen_27 ?_
  refine lv_iadd hx hb d_WM_coinsOfMen_30 ?_
  refine hb_ti 0 (by decide +kernel) ?_
  refine lv_istore_n (lv' := [(1, .int 0), (3, .ref q_1), (2, .int 0), (0, .ref (a 0))]) hx hb d_WM_coinsOfMen_31 rfl hl (by decide) rfl (fun ls hl => ?_)
  refine lv_iinc (v := 1) (lv' := [(2, .int 1), (1, .int 0), (3, .ref q_1), (0, .ref (a 0))]) hx hb d_WM_coinsOfMen_32 hl (k := 2) rfl (by decide +kernel) (by decide) rfl (fun ls hl => ?_)
  refine lv_goto (tgt := 4) hx hb d_WM_coinsOfMen_35 (by decide) ?_
  refine lv_iload_n hx hb d_WM_coinsOfMen_4 rfl (lv_at hl 0 rfl) ?_
  refine lv_bipush (v := 40) hx hb d_WM_coinsOfMen_5 (by decide +kernel) ?_
  refine lv_icmp_ge (tgt := 38) hx hb d_WM_coinsOfMen_7 (by decide) (fun h => absurd h (by decide +kernel)) (fun _ => ?_)
  refine lv_aload_n hx hb d_WM_coinsOfMen_10 rfl (lv_at hl 3 rfl) ?_
  refine va_get (D := (dC, dI)) (ci := 0) (v := .ref (a 6)) (C := R_WM) (T := F_WM) (N := 13) hx hb htb i_WM hown hK hP 0 rfl rfl 1 (by decide) (htb (.fieldLink R_WM 18 "WaterMen" "men" "[LWaterMen$Man;") tw_70) (fun _ h9 => h9) rfl d_WM_coinsOfMen_11 ?_
  refine lv_iload_n hx hb d_WM_coinsOfMen_14 rfl (lv_at hl 0 rfl) ?_
  refine va_aldq hx hb hK hP 6 4 rfl rfl (by unfold vp_in; decide +kernel) d_WM_coinsOfMen_15 ?_
  obtain ⟨q_5, x_6, hq_7, hk_8⟩ := xw_man (a := a) (k := k) (i := 1) hL (by unfold vp_in; decide +kernel)
  refine hb_tv (.ref q_5) (by show va_rf (L[_]?) = _; rw [hq_7]; rfl) ?_
  refine lv_astore_n (lv' := [(3, .ref q_5), (2, .int 1), (1, .int 0), (0, .ref (a 0))]) hx hb d_WM_coinsOfMen_16 rfl hl (by decide) rfl (fun ls hl => ?_)
  refine lv_iload_n hx hb d_WM_coinsOfMen_17 rfl (lv_at hl 2 rfl) ?_
  refine lv_aload_n hx hb d_WM_coinsOfMen_18 rfl (lv_at hl 0 rfl) ?_
  refine lv_ifnonnull (tgt := 26) hx hb d_WM_coinsOfMen_19 (by decide) ?_
  refine lv_aload_n hx hb d_WM_coinsOfMen_26 rfl (lv_at hl 0 rfl) ?_
  refine va_get (D := (dC, dI)) (ci := 2) (v := .int 0) (C := R_Mn) (T := F_Mn) (N := 8) hx hb htb i_Mn hown hK hP x_6 hk_8 rfl 4 (by decide) (htb (.fieldLink R_WM 152 "WaterMen$Man" "coins" "I") tw_171) (fun _ h9 => h9) rfl d_WM_coinsOfMen_27 ?_
  refine lv_iadd hx hb d_WM_coinsOfMen_30 ?_
  refine hb_ti 0 (by decide +kernel) ?_
  refine lv_istore_n (lv' := [(1, .int 0), (3, .ref q_5), (2, .int 1), (0, .ref (a 0))]) hx hb d_WM_coinsOfMen_31 rfl hl (by decide) rfl (fun ls hl => ?_)
  refine lv_iinc (v := 2) (lv' := [(2, .int 2), (1, .int 0), (3, .ref q_5), (0, .ref (a 0))]) hx hb d_WM_coinsOfMen_32 hl (k := 2) rfl (by decide +kernel) (by decide) rfl (fun ls hl => ?_)
  refine lv_goto (tgt := 4) hx hb d_WM_coinsOfMen_35 (by decide) ?_
  refine lv_iload_n hx hb d_WM_coinsOfMen_4 rfl (lv_at hl 0 rfl) ?_
  refine lv_bipush (v := 40) hx hb d_WM_coinsOfMen_5 (by decide +kernel) ?_
  refine lv_icmp_ge (tgt := 38) hx hb d_WM_coinsOfMen_7 (by decide) (fun h => absurd h (by decide +kernel)) (fun _ => ?_)
  refine lv_aload_n hx hb d_WM_coinsOfMen_10 rfl (lv_at hl 3 rfl) ?_
  refine va_get (D := (dC, dI)) (ci := 0) (v := .ref (a 6)) (C := R_WM) (T := F_WM) (N := 13) hx hb htb i_WM hown hK hP 0 rfl rfl 1 (by decide) (htb (.fieldLink R_WM 18 "WaterMen" "men" "[LWaterMen$Man;") tw_70) (fun _ h9 => h9) rfl d_WM_coinsOfMen_11 ?_
  refine lv_iload_n hx hb d_WM_coinsOfMen_14 rfl (lv_at hl 0 rfl) ?_
  refine va_aldq hx hb hK hP 6 4 rfl rfl (by unfold vp_in; decide +kernel) d_WM_coinsOfMen_15 ?_
  obtain ⟨q_9, x_10, hq_11, hk_12⟩ := xw_man (a := a) (k := k) (i := 2) hL (by unfold vp_in; decide +kernel)
  refine hb_tv (.ref q_9) (by show va_rf (L[_]?) = _; rw [hq_11]; rfl) ?_
  refine lv_astore_n (lv' := [(3, .ref q_9), (2, .int 2), (1, .int 0), (0, .ref (a 0))]) hx hb d_WM_coinsOfMen_16 rfl hl (by decide) rfl (fun ls hl => ?_)
  refine lv_iload_n hx hb d_WM_coinsOfMen_17 rfl (lv_at hl 2 rfl) ?_
  refine lv_aload_n hx hb d_WM_coinsOfMen_18 rfl (lv_at hl 0 rfl) ?_
  refine lv_ifnonnull (tgt := 26) hx hb d_WM_coinsOfMen_19 (by decide) ?_
  refine lv_aload_n hx hb d_WM_coinsOfMen_26 rfl (lv_at hl 0 rfl) ?_
  refine va_get (D := (dC, dI)) (ci := 2) (v := .int 0) (C := R_Mn) (T := F_Mn) (N := 8) hx hb htb i_Mn hown hK hP x_10 hk_12 rfl 4 (by decide) (htb (.fieldLink R_WM 152 "WaterMen$Man" "coins" "I") tw_171) (fun _ h9 => h9) rfl d_WM_coinsOfMen_27 ?_
  refine lv_iadd hx hb d_WM_coinsOfMen_30 ?_
  refine hb_ti 0 (by decide +kernel) ?_
  refine lv_istore_n (lv' := [(1, .int 0), (3, .ref q_9), (2, .int 2), (0, .ref (a 0))]) hx hb d_WM_coinsOfMen_31 rfl hl (by decide) rfl (fun ls hl => ?_)
  refine lv_iinc (v := 3) (lv' := [(2, .int 3), (1, .int 0), (3, .ref q_9), (0, .ref (a 0))]) hx hb d_WM_coinsOfMen_32 hl (k := 2) rfl (by decide +kernel) (by decide) rfl (fun ls hl => ?_)
  refine lv_goto (tgt := 4) hx hb d_WM_coinsOfMen_35 (by decide) ?_
  refine lv_iload_n hx hb d_WM_coinsOfMen_4 rfl (lv_at hl 0 rfl) ?_
  refine lv_bipush (v := 40) hx hb d_WM_coinsOfMen_5 (by decide +kernel) ?_
  refine lv_icmp_ge (tgt := 38) hx hb d_WM_coinsOfMen_7 (by decide) (fun h => absurd h (by decide +kernel)) (fun _ => ?_)
  refine lv_aload_n hx hb d_WM_coinsOfMen_10 rfl (lv_at hl 3 rfl) ?_
  refine va_get (D := (dC, dI)) (ci := 0) (v := .ref (a 6)) (C := R_WM) (T := F_WM) (N := 13) hx hb htb i_WM hown hK hP 0 rfl rfl 1 (by decide) (htb (.fieldLink R_WM 18 "WaterMen" "men" "[LWaterMen$Man;") tw_70) (fun _ h9 => h9) rfl d_WM_coinsOfMen_11 ?_
  refine lv_iload_n hx hb d_WM_coinsOfMen_14 rfl (lv_at hl 0 rfl) ?_
  refine va_aldq hx hb hK hP 6 4 rfl rfl (by unfold vp_in; decide +kernel) d_WM_coinsOfMen_15 ?_
  obtain ⟨q_13, x_14, hq_15, hk_16⟩ := xw_man (a := a) (k := k) (i := 3) hL (by unfold vp_in; decide +kernel)
  refine hb_tv (.ref q_13) (by show va_rf (L[_]?) = _; rw [hq_15]; rfl) ?_
  refine lv_astore_n (lv' := [(3, .ref q_13), (2, .int 3), (1, .int 0), (0, .ref (a 0))]) hx hb d_WM_coinsOfMen_16 rfl hl (by decide) rfl (fun ls hl => ?_)
  refine lv_iload_n hx hb d_WM_coinsOfMen_17 rfl (lv_at hl 2 rfl) ?_
  refine lv_aload_n hx hb d_WM_coinsOfMen_18 rfl (lv_at hl 0 rfl) ?_
  refine lv_ifnonnull (tgt := 26) hx hb d_WM_coinsOfMen_19 (by decide) ?_
  refine lv_aload_n hx hb d_WM_coinsOfMen_26 rfl (lv_at hl 0 rfl) ?_
  refine va_get (D := (dC, dI)) (ci := 2) (v := .int 0) (C := R_Mn) (T := F_Mn) (N := 8) hx hb htb i_Mn hown hK hP x_14 hk_16 rfl 4 (by decide) (htb (.fieldLink R_WM 152 "WaterMen$Man" "coins" "I") tw_171) (fun _ h9 => h9) rfl d_WM_coinsOfMen_27 ?_
  refine lv_iadd hx hb d_WM_coinsOfMen_30 ?_
  refine hb_ti 0 (by decide +kernel) ?_
  refine lv_istore_n (lv' := [(1, .int 0), (3, .ref q_13), (2, .int 3), (0, .ref (a 0))]) hx hb d_WM_coinsOfMen_31 rfl hl (by decide) rfl (fun ls hl => ?_)
  refine lv_iinc (v := 4) (lv' := [(2, .int 4), (1, .int 0), (3, .ref q_13), (0, .ref (a 0))]) hx hb d_WM_coinsOfMen_32 hl (k := 2) rfl (by decide +kernel) (by decide) rfl (fun ls hl => ?_)
  refine lv_goto (tgt := 4) hx hb d_WM_coinsOfMen_35 (by decide) ?_
  refine lv_iload_n hx hb d_WM_coinsOfMen_4 rfl (lv_at hl 0 rfl) ?_
  refine lv_bipush (v := 40) hx hb d_WM_coinsOfMen_5 (by decide +kernel) ?_
  refine lv_icmp_ge (tgt := 38) hx hb d_WM_coinsOfMen_7 (by decide) (fun h => absurd h (by decide +kernel)) (fun _ => ?_)
  refine lv_aload_n hx hb d_WM_coinsOfMen_10 rfl (lv_at hl 3 rfl) ?_
  refine va_get (D := (dC, dI)) (ci := 0) (v := .ref (a 6)) (C := R_WM) (T := F_WM) (N := 13) hx hb htb i_WM hown hK hP 0 rfl rfl 1 (by decide) (htb (.fieldLink R_WM 18 "WaterMen" "men" "[LWaterMen$Man;") tw_70) (fun _ h9 => h9) rfl d_WM_coinsOfMen_11 ?_
  refine lv_iload_n hx hb d_WM_coinsOfMen_14 rfl (lv_at hl 0 rfl) ?_
  refine va_aldq hx hb hK hP 6 4 rfl rfl (by unfold vp_in; decide +kernel) d_WM_coinsOfMen_15 ?_
  obtain ⟨q_17, x_18, hq_19, hk_20⟩ := xw_man (a := a) (k := k) (i := 4) hL (by unfold vp_in; decide +kernel)
  refine hb_tv (.ref q_17) (by show va_rf (L[_]?) = _; rw [hq_19]; rfl) ?_
  refine lv_astore_n (lv' := [(3, .ref q_17), (2, .int 4), (1, .int 0), (0, .ref (a 0))]) hx hb d_WM_coinsOfMen_16 rfl hl (by decide) rfl (fun ls hl => ?_)
  refine lv_iload_n hx hb d_WM_coinsOfMen_17 rfl (lv_at hl 2 rfl) ?_
  refine lv_aload_n hx hb d_WM_coinsOfMen_18 rfl (lv_at hl 0 rfl) ?_
  refine lv_ifnonnull (tgt := 26) hx hb d_WM_coinsOfMen_19 (by decide) ?_
  refine lv_aload_n hx hb d_WM_coinsOfMen_26 rfl (lv_at hl 0 rfl) ?_
  refine va_get (D := (dC, dI)) (ci := 2) (v := .int 0) (C := R_Mn) (T := F_Mn) (N := 8) hx hb htb i_Mn hown hK hP x_18 hk_20 rfl 4 (by decide) (htb (.fieldLink R_WM 152 "WaterMen$Man" "coins" "I") tw_171) (fun _ h9 => h9) rfl d_WM_coinsOfMen_27 ?_
  refine lv_iadd hx hb d_WM_coinsOfMen_30 ?_
  refine hb_ti 0 (by decide +kernel) ?_
  refine lv_istore_n (lv' := [(1, .int 0), (3, .ref q_17), (2, .int 4), (0, .ref (a 0))]) hx hb d_WM_coinsOfMen_31 rfl hl (by decide) rfl (fun ls hl => ?_)
  refine lv_iinc (v := 5) (lv' := [(2, .int 5), (1, .int 0), (3, .ref q_17), (0, .ref (a 0))]) hx hb d_WM_coinsOfMen_32 hl (k := 2) rfl (by decide +kernel) (by decide) rfl (fun ls hl => ?_)
  refine lv_goto (tgt := 4) hx hb d_WM_coinsOfMen_35 (by decide) ?_
  refine lv_iload_n hx hb d_WM_coinsOfMen_4 rfl (lv_at hl 0 rfl) ?_
  refine lv_bipush (v := 40) hx hb d_WM_coinsOfMen_5 (by decide +kernel) ?_
  refine lv_icmp_ge (tgt := 38) hx hb d_WM_coinsOfMen_7 (by decide) (fun h => absurd h (by decide +kernel)) (fun _ => ?_)
  refine lv_aload_n hx hb d_WM_coinsOfMen_10 rfl (lv_at hl 3 rfl) ?_
  refine va_get (D := (dC, dI)) (ci := 0) (v := .ref (a 6)) (C := R_WM) (T := F_WM) (N := 13) hx hb htb i_WM hown hK hP 0 rfl rfl 1 (by decide) (htb (.fieldLink R_WM 18 "WaterMen" "men" "[LWaterMen$Man;") tw_70) (fun _ h9 => h9) rfl d_WM_coinsOfMen_11 ?_
  refine lv_iload_n hx hb d_WM_coinsOfMen_14 rfl (lv_at hl 0 rfl) ?_
  refine va_aldq hx hb hK hP 6 4 rfl rfl (by unfold vp_in; decide +kernel) d_WM_coinsOfMen_15 ?_
  obtain ⟨q_21, x_22, hq_23, hk_24⟩ := xw_man (a := a) (k := k) (i := 5) hL (by unfold vp_in; decide +kernel)
  refine hb_tv (.ref q_21) (by show va_rf (L[_]?) = _; rw [hq_23]; rfl) ?_
  refine lv_astore_n (lv' := [(3, .ref q_21), (2, .int 5), (1, .int 0), (0, .ref (a 0))]) hx hb d_WM_coinsOfMen_16 rfl hl (by decide) rfl (fun ls hl => ?_)
  refine lv_iload_n hx hb d_WM_coinsOfMen_17 rfl (lv_at hl 2 rfl) ?_
  refine lv_aload_n hx hb d_WM_coinsOfMen_18 rfl (lv_at hl 0 rfl) ?_
  refine lv_ifnonnull (tgt := 26) hx hb d_WM_coinsOfMen_19 (by decide) ?_
  refine lv_aload_n hx hb d_WM_coinsOfMen_26 rfl (lv_at hl 0 rfl) ?_
  refine va_get (D := (dC, dI)) (ci := 2) (v := .int 0) (C := R_Mn) (T := F_Mn) (N := 8) hx hb htb i_Mn hown hK hP x_22 hk_24 rfl 4 (by decide) (htb (.fieldLink R_WM 152 "WaterMen$Man" "coins" "I") tw_171) (fun _ h9 => h9) rfl d_WM_coinsOfMen_27 ?_
  refine lv_iadd hx hb d_WM_coinsOfMen_30 ?_
  refine hb_ti 0 (by decide +kernel) ?_
  refine lv_istore_n (lv' := [(1, .int 0), (3, .ref q_21), (2, .int 5), (0, .ref (a 0))]) hx hb d_WM_coinsOfMen_31 rfl hl (by decide) rfl (fun ls hl => ?_)
  refine lv_iinc (v := 6) (lv' := [(2, .int 6), (1, .int 0), (3, .ref q_21), (0, .ref (a 0))]) hx hb d_WM_coinsOfMen_32 hl (k := 2) rfl (by decide +kernel) (by decide) rfl (fun ls hl => ?_)
  refine lv_goto (tgt := 4) hx hb d_WM_coinsOfMen_35 (by decide) ?_
  refine lv_iload_n hx hb d_WM_coinsOfMen_4 rfl (lv_at hl 0 rfl) ?_
  refine lv_bipush (v := 40) hx hb d_WM_coinsOfMen_5 (by decide +kernel) ?_
  refine lv_icmp_ge (tgt := 38) hx hb d_WM_coinsOfMen_7 (by decide) (fun h => absurd h (by decide +kernel)) (fun _ => ?_)
  refine lv_aload_n hx hb d_WM_coinsOfMen_10 rfl (lv_at hl 3 rfl) ?_
  refine va_get (D := (dC, dI)) (ci := 0) (v := .ref (a 6)) (C := R_WM) (T := F_WM) (N := 13) hx hb htb i_WM hown hK hP 0 rfl rfl 1 (by decide) (htb (.fieldLink R_WM 18 "WaterMen" "men" "[LWaterMen$Man;") tw_70) (fun _ h9 => h9) rfl d_WM_coinsOfMen_11 ?_
  refine lv_iload_n hx hb d_WM_coinsOfMen_14 rfl (lv_at hl 0 rfl) ?_
  refine va_aldq hx hb hK hP 6 4 rfl rfl (by unfold vp_in; decide +kernel) d_WM_coinsOfMen_15 ?_
  obtain ⟨q_25, x_26, hq_27, hk_28⟩ := xw_man (a := a) (k := k) (i := 6) hL (by unfold vp_in; decide +kernel)
  refine hb_tv (.ref q_25) (by show va_rf (L[_]?) = _; rw [hq_27]; rfl) ?_
  refine lv_astore_n (lv' := [(3, .ref q_25), (2, .int 6), (1, .int 0), (0, .ref (a 0))]) hx hb d_WM_coinsOfMen_16 rfl hl (by decide) rfl (fun ls hl => ?_)
  refine lv_iload_n hx hb d_WM_coinsOfMen_17 rfl (lv_at hl 2 rfl) ?_
  refine lv_aload_n hx hb d_WM_coinsOfMen_18 rfl (lv_at hl 0 rfl) ?_
  refine lv_ifnonnull (tgt := 26) hx hb d_WM_coinsOfMen_19 (by decide) ?_
  refine lv_aload_n hx hb d_WM_coinsOfMen_26 rfl (lv_at hl 0 rfl) ?_
  refine va_get (D := (dC, dI)) (ci := 2) (v := .int 0) (C := R_Mn) (T := F_Mn) (N := 8) hx hb htb i_Mn hown hK hP x_26 hk_28 rfl 4 (by decide) (htb (.fieldLink R_WM 152 "WaterMen$Man" "coins" "I") tw_171) (fun _ h9 => h9) rfl d_WM_coinsOfMen_27 ?_
  refine lv_iadd hx hb d_WM_coinsOfMen_30 ?_
  refine hb_ti 0 (by decide +kernel) ?_
  refine lv_istore_n (lv' := [(1, .int 0), (3, .ref q_25), (2, .int 6), (0, .ref (a 0))]) hx hb d_WM_coinsOfMen_31 rfl hl (by decide) rfl (fun ls hl => ?_)
  refine lv_iinc (v := 7) (lv' := [(2, .int 7), (1, .int 0), (3, .ref q_25), (0, .ref (a 0))]) hx hb d_WM_coinsOfMen_32 hl (k := 2) rfl (by decide +kernel) (by decide) rfl (fun ls hl => ?_)
  refine lv_goto (tgt := 4) hx hb d_WM_coinsOfMen_35 (by decide) ?_
  refine lv_iload_n hx hb d_WM_coinsOfMen_4 rfl (lv_at hl 0 rfl) ?_
  refine lv_bipush (v := 40) hx hb d_WM_coinsOfMen_5 (by decide +kernel) ?_
  refine lv_icmp_ge (tgt := 38) hx hb d_WM_coinsOfMen_7 (by decide) (fun h => absurd h (by decide +kernel)) (fun _ => ?_)
  refine lv_aload_n hx hb d_WM_coinsOfMen_10 rfl (lv_at hl 3 rfl) ?_
  refine va_get (D := (dC, dI)) (ci := 0) (v := .ref (a 6)) (C := R_WM) (T := F_WM) (N := 13) hx hb htb i_WM hown hK hP 0 rfl rfl 1 (by decide) (htb (.fieldLink R_WM 18 "WaterMen" "men" "[LWaterMen$Man;") tw_70) (fun _ h9 => h9) rfl d_WM_coinsOfMen_11 ?_
  refine lv_iload_n hx hb d_WM_coinsOfMen_14 rfl (lv_at hl 0 rfl) ?_
  refine va_aldq hx hb hK hP 6 4 rfl rfl (by unfold vp_in; decide +kernel) d_WM_coinsOfMen_15 ?_
  obtain ⟨q_29, x_30, hq_31, hk_32⟩ := xw_man (a := a) (k := k) (i := 7) hL (by unfold vp_in; decide +kernel)
  refine hb_tv (.ref q_29) (by show va_rf (L[_]?) = _; rw [hq_31]; rfl) ?_
  refine lv_astore_n (lv' := [(3, .ref q_29), (2, .int 7), (1, .int 0), (0, .ref (a 0))]) hx hb d_WM_coinsOfMen_16 rfl hl (by decide) rfl (fun ls hl => ?_)
  refine lv_iload_n hx hb d_WM_coinsOfMen_17 rfl (lv_at hl 2 rfl) ?_
  refine lv_aload_n hx hb d_WM_coinsOfMen_18 rfl (lv_at hl 0 rfl) ?_
  refine lv_ifnonnull (tgt := 26) hx hb d_WM_coinsOfMen_19 (by decide) ?_
  refine lv_aload_n hx hb d_WM_coinsOfMen_26 rfl (lv_at hl 0 rfl) ?_
  refine va_get (D := (dC, dI)) (ci := 2) (v := .int 0) (C := R_Mn) (T := F_Mn) (N := 8) hx hb htb i_Mn hown hK hP x_30 hk_32 rfl 4 (by decide) (htb (.fieldLink R_WM 152 "WaterMen$Man" "coins" "I") tw_171) (fun _ h9 => h9) rfl d_WM_coinsOfMen_27 ?_
  refine lv_iadd hx hb d_WM_coinsOfMen_30 ?_
  refine hb_ti 0 (by decide +kernel) ?_
  refine lv_istore_n (lv' := [(1, .int 0), (3, .ref q_29), (2, .int 7), (0, .ref (a 0))]) hx hb d_WM_coinsOfMen_31 rfl hl (by decide) rfl (fun ls hl => ?_)
  refine lv_iinc (v := 8) (lv' := [(2, .int 8), (1, .int 0), (3, .ref q_29), (0, .ref (a 0))]) hx hb d_WM_coinsOfMen_32 hl (k := 2) rfl (by decide +kernel) (by decide) rfl (fun ls hl => ?_)
  refine lv_goto (tgt := 4) hx hb d_WM_coinsOfMen_35 (by decide) ?_
  refine lv_iload_n hx hb d_WM_coinsOfMen_4 rfl (lv_at hl 0 rfl) ?_
  refine lv_bipush (v := 40) hx hb d_WM_coinsOfMen_5 (by decide +kernel) ?_
  refine lv_icmp_ge (tgt := 38) hx hb d_WM_coinsOfMen_7 (by decide) (fun h => absurd h (by decide +kernel)) (fun _ => ?_)
  refine lv_aload_n hx hb d_WM_coinsOfMen_10 rfl (lv_at hl 3 rfl) ?_
  refine va_get (D := (dC, dI)) (ci := 0) (v := .ref (a 6)) (C := R_WM) (T := F_WM) (N := 13) hx hb htb i_WM hown hK hP 0 rfl rfl 1 (by decide) (htb (.fieldLink R_WM 18 "WaterMen" "men" "[LWaterMen$Man;") tw_70) (fun _ h9 => h9) rfl d_WM_coinsOfMen_11 ?_
  refine lv_iload_n hx hb d_WM_coinsOfMen_14 rfl (lv_at hl 0 rfl) ?_
  refine va_aldq hx hb hK hP 6 4 rfl rfl (by unfold vp_in; decide +kernel) d_WM_coinsOfMen_15 ?_
  obtain ⟨q_33, x_34, hq_35, hk_36⟩ := xw_man (a := a) (k := k) (i := 8) hL (by unfold vp_in; decide +kernel)
  refine hb_tv (.ref q_33) (by show va_rf (L[_]?) = _; rw [hq_35]; rfl) ?_
  refine lv_astore_n (lv' := [(3, .ref q_33), (2, .int 8), (1, .int 0), (0, .ref (a 0))]) hx hb d_WM_coinsOfMen_16 rfl hl (by decide) rfl (fun ls hl => ?_)
  refine lv_iload_n hx hb d_WM_coinsOfMen_17 rfl (lv_at hl 2 rfl) ?_
  refine lv_aload_n hx hb d_WM_coinsOfMen_18 rfl (lv_at hl 0 rfl) ?_
  refine lv_ifnonnull (tgt := 26) hx hb d_WM_coinsOfMen_19 (by decide) ?_
  refine lv_aload_n hx hb d_WM_coinsOfMen_26 rfl (lv_at hl 0 rfl) ?_
  refine va_get (D := (dC, dI)) (ci := 2) (v := .int 0) (C := R_Mn) (T := F_Mn) (N := 8) hx hb htb i_Mn hown hK hP x_34 hk_36 rfl 4 (by decide) (htb (.fieldLink R_WM 152 "WaterMen$Man" "coins" "I") tw_171) (fun _ h9 => h9) rfl d_WM_coinsOfMen_27 ?_
  refine lv_iadd hx hb d_WM_coinsOfMen_30 ?_
  refine hb_ti 0 (by decide +kernel) ?_
  refine lv_istore_n (lv' := [(1, .int 0), (3, .ref q_33), (2, .int 8), (0, .ref (a 0))]) hx hb d_WM_coinsOfMen_31 rfl hl (by decide) rfl (fun ls hl => ?_)
  refine lv_iinc (v := 9) (lv' := [(2, .int 9), (1, .int 0), (3, .ref q_33), (0, .ref (a 0))]) hx hb d_WM_coinsOfMen_32 hl (k := 2) rfl (by decide +kernel) (by decide) rfl (fun ls hl => ?_)
  refine lv_goto (tgt := 4) hx hb d_WM_coinsOfMen_35 (by decide) ?_
  refine lv_iload_n hx hb d_WM_coinsOfMen_4 rfl (lv_at hl 0 rfl) ?_
  refine lv_bipush (v := 40) hx hb d_WM_coinsOfMen_5 (by decide +kernel) ?_
  refine lv_icmp_ge (tgt := 38) hx hb d_WM_coinsOfMen_7 (by decide) (fun h => absurd h (by decide +kernel)) (fun _ => ?_)
  refine lv_aload_n hx hb d_WM_coinsOfMen_10 rfl (lv_at hl 3 rfl) ?_
  refine va_get (D := (dC, dI)) (ci := 0) (v := .ref (a 6)) (C := R_WM) (T := F_WM) (N := 13) hx hb htb i_WM hown hK hP 0 rfl rfl 1 (by decide) (htb (.fieldLink R_WM 18 "WaterMen" "men" "[LWaterMen$Man;") tw_70) (fun _ h9 => h9) rfl d_WM_coinsOfMen_11 ?_
  refine lv_iload_n hx hb d_WM_coinsOfMen_14 rfl (lv_at hl 0 rfl) ?_
  refine va_aldq hx hb hK hP 6 4 rfl rfl (by unfold vp_in; decide +kernel) d_WM_coinsOfMen_15 ?_
  obtain ⟨q_37, x_38, hq_39, hk_40⟩ := xw_man (a := a) (k := k) (i := 9) hL (by unfold vp_in; decide +kernel)
  refine hb_tv (.ref q_37) (by show va_rf (L[_]?) = _; rw [hq_39]; rfl) ?_
  refine lv_astore_n (lv' := [(3, .ref q_37), (2, .int 9), (1, .int 0), (0, .ref (a 0))]) hx hb d_WM_coinsOfMen_16 rfl hl (by decide) rfl (fun ls hl => ?_)
  refine lv_iload_n hx hb d_WM_coinsOfMen_17 rfl (lv_at hl 2 rfl) ?_
  refine lv_aload_n hx hb d_WM_coinsOfMen_18 rfl (lv_at hl 0 rfl) ?_
  refine lv_ifnonnull (tgt := 26) hx hb d_WM_coinsOfMen_19 (by decide) ?_
  refine lv_aload_n hx hb d_WM_coinsOfMen_26 rfl (lv_at hl 0 rfl) ?_
  refine va_get (D := (dC, dI)) (ci := 2) (v := .int 0) (C := R_Mn) (T := F_Mn) (N := 8) hx hb htb i_Mn hown hK hP x_38 hk_40 rfl 4 (by decide) (htb (.fieldLink R_WM 152 "WaterMen$Man" "coins" "I") tw_171) (fun _ h9 => h9) rfl d_WM_coinsOfMen_27 ?_
  refine lv_iadd hx hb d_WM_coinsOfMen_30 ?_
  refine hb_ti 0 (by decide +kernel) ?_
  refine lv_istore_n (lv' := [(1, .int 0), (3, .ref q_37), (2, .int 9), (0, .ref (a 0))]) hx hb d_WM_coinsOfMen_31 rfl hl (by decide) rfl (fun ls hl => ?_)
  refine lv_iinc (v := 10) (lv' := [(2, .int 10), (1, .int 0), (3, .ref q_37), (0, .ref (a 0))]) hx hb d_WM_coinsOfMen_32 hl (k := 2) rfl (by decide +kernel) (by decide) rfl (fun ls hl => ?_)
  refine lv_goto (tgt := 4) hx hb d_WM_coinsOfMen_35 (by decide) ?_
  refine lv_iload_n hx hb d_WM_coinsOfMen_4 rfl (lv_at hl 0 rfl) ?_
  refine lv_bipush (v := 40) hx hb d_WM_coinsOfMen_5 (by decide +kernel) ?_
  refine lv_icmp_ge (tgt := 38) hx hb d_WM_coinsOfMen_7 (by decide) (fun h => absurd h (by decide +kernel)) (fun _ => ?_)
  refine lv_aload_n hx hb d_WM_coinsOfMen_10 rfl (lv_at hl 3 rfl) ?_
  refine va_get (D := (dC, dI)) (ci := 0) (v := .ref (a 6)) (C := R_WM) (T := F_WM) (N := 13) hx hb htb i_WM hown hK hP 0 rfl rfl 1 (by decide) (htb (.fieldLink R_WM 18 "WaterMen" "men" "[LWaterMen$Man;") tw_70) (fun _ h9 => h9) rfl d_WM_coinsOfMen_11 ?_
  refine lv_iload_n hx hb d_WM_coinsOfMen_14 rfl (lv_at hl 0 rfl) ?_
  refine va_aldq hx hb hK hP 6 4 rfl rfl (by unfold vp_in; decide +kernel) d_WM_coinsOfMen_15 ?_
  obtain ⟨q_41, x_42, hq_43, hk_44⟩ := xw_man (a := a) (k := k) (i := 10) hL (by unfold vp_in; decide +kernel)
  refine hb_tv (.ref q_41) (by show va_rf (L[_]?) = _; rw [hq_43]; rfl) ?_
  refine lv_astore_n (lv' := [(3, .ref q_41), (2, .int 10), (1, .int 0), (0, .ref (a 0))]) hx hb d_WM_coinsOfMen_16 rfl hl (by decide) rfl (fun ls hl => ?_)
  refine lv_iload_n hx hb d_WM_coinsOfMen_17 rfl (lv_at hl 2 rfl) ?_
  refine lv_aload_n hx hb d_WM_coinsOfMen_18 rfl (lv_at hl 0 rfl) ?_
  refine lv_ifnonnull (tgt := 26) hx hb d_WM_coinsOfMen_19 (by decide) ?_
  refine lv_aload_n hx hb d_WM_coinsOfMen_26 rfl (lv_at hl 0 rfl) ?_
  refine va_get (D := (dC, dI)) (ci := 2) (v := .int 0) (C := R_Mn) (T := F_Mn) (N := 8) hx hb htb i_Mn hown hK hP x_42 hk_44 rfl 4 (by decide) (htb (.fieldLink R_WM 152 "WaterMen$Man" "coins" "I") tw_171) (fun _ h9 => h9) rfl d_WM_coinsOfMen_27 ?_
  refine lv_iadd hx hb d_WM_coinsOfMen_30 ?_
  refine hb_ti 0 (by decide +kernel) ?_
  refine lv_istore_n (lv' := [(1, .int 0), (3, .ref q_41), (2, .int 10), (0, .ref (a 0))]) hx hb d_WM_coinsOfMen_31 rfl hl (by decide) rfl (fun ls hl => ?_)
  refine lv_iinc (v := 11) (lv' := [(2, .int 11), (1, .int 0), (3, .ref q_41), (0, .ref (a 0))]) hx hb d_WM_coinsOfMen_32 hl (k := 2) rfl (by decide +kernel) (by decide) rfl (fun ls hl => ?_)
  refine lv_goto (tgt := 4) hx hb d_WM_coinsOfMen_35 (by decide) ?_
  refine lv_iload_n hx hb d_WM_coinsOfMen_4 rfl (lv_at hl 0 rfl) ?_
  refine lv_bipush (v := 40) hx hb d_WM_coinsOfMen_5 (by decide +kernel) ?_
  refine lv_icmp_ge (tgt := 38) hx hb d_WM_coinsOfMen_7 (by decide) (fun h => absurd h (by decide +kernel)) (fun _ => ?_)
  refine lv_aload_n hx hb d_WM_coinsOfMen_10 rfl (lv_at hl 3 rfl) ?_
  refine va_get (D := (dC, dI)) (ci := 0) (v := .ref (a 6)) (C := R_WM) (T := F_WM) (N := 13) hx hb htb i_WM hown hK hP 0 rfl rfl 1 (by decide) (htb (.fieldLink R_WM 18 "WaterMen" "men" "[LWaterMen$Man;") tw_70) (fun _ h9 => h9) rfl d_WM_coinsOfMen_11 ?_
  refine lv_iload_n hx hb d_WM_coinsOfMen_14 rfl (lv_at hl 0 rfl) ?_
  refine va_aldq hx hb hK hP 6 4 rfl rfl (by unfold vp_in; decide +kernel) d_WM_coinsOfMen_15 ?_
  obtain ⟨q_45, x_46, hq_47, hk_48⟩ := xw_man (a := a) (k := k) (i := 11) hL (by unfold vp_in; decide +kernel)
  refine hb_tv (.ref q_45) (by show va_rf (L[_]?) = _; rw [hq_47]; rfl) ?_
  refine lv_astore_n (lv' := [(3, .ref q_45), (2, .int 11), (1, .int 0), (0, .ref (a 0))]) hx hb d_WM_coinsOfMen_16 rfl hl (by decide) rfl (fun ls hl => ?_)
  refine lv_iload_n hx hb d_WM_coinsOfMen_17 rfl (lv_at hl 2 rfl) ?_
  refine lv_aload_n hx hb d_WM_coinsOfMen_18 rfl (lv_at hl 0 rfl) ?_
  refine lv_ifnonnull (tgt := 26) hx hb d_WM_coinsOfMen_19 (by decide) ?_
  refine lv_aload_n hx hb d_WM_coinsOfMen_26 rfl (lv_at hl 0 rfl) ?_
  refine va_get (D := (dC, dI)) (ci := 2) (v := .int 0) (C := R_Mn) (T := F_Mn) (N := 8) hx hb htb i_Mn hown hK hP x_46 hk_48 rfl 4 (by decide) (htb (.fieldLink R_WM 152 "WaterMen$Man" "coins" "I") tw_171) (fun _ h9 => h9) rfl d_WM_coinsOfMen_27 ?_
  refine lv_iadd hx hb d_WM_coinsOfMen_30 ?_
  refine hb_ti 0 (by decide +kernel) ?_
  refine lv_istore_n (lv' := [(1, .int 0), (3, .ref q_45), (2, .int 11), (0, .ref (a 0))]) hx hb d_WM_coinsOfMen_31 rfl hl (by decide) rfl (fun ls hl => ?_)
  refine lv_iinc (v := 12) (lv' := [(2, .int 12), (1, .int 0), (3, .ref q_45), (0, .ref (a 0))]) hx hb d_WM_coinsOfMen_32 hl (k := 2) rfl (by decide +kernel) (by decide) rfl (fun ls hl => ?_)
  refine lv_goto (tgt := 4) hx hb d_WM_coinsOfMen_35 (by decide) ?_
  refine lv_iload_n hx hb d_WM_coinsOfMen_4 rfl (lv_at hl 0 rfl) ?_
  refine lv_bipush (v := 40) hx hb d_WM_coinsOfMen_5 (by decide +kernel) ?_
  refine lv_icmp_ge (tgt := 38) hx hb d_WM_coinsOfMen_7 (by decide) (fun h => absurd h (by decide +kernel)) (fun _ => ?_)
  refine lv_aload_n hx hb d_WM_coinsOfMen_10 rfl (lv_at hl 3 rfl) ?_
  refine va_get (D := (dC, dI)) (ci := 0) (v := .ref (a 6)) (C := R_WM) (T := F_WM) (N := 13) hx hb htb i_WM hown hK hP 0 rfl rfl 1 (by decide) (htb (.fieldLink R_WM 18 "WaterMen" "men" "[LWaterMen$Man;") tw_70) (fun _ h9 => h9) rfl d_WM_coinsOfMen_11 ?_
  refine lv_iload_n hx hb d_WM_coinsOfMen_14 rfl (lv_at hl 0 rfl) ?_
  refine va_aldq hx hb hK hP 6 4 rfl rfl (by unfold vp_in; decide +kernel) d_WM_coinsOfMen_15 ?_
  obtain ⟨q_49, x_50, hq_51, hk_52⟩ := xw_man (a := a) (k := k) (i := 12) hL (by unfold vp_in; decide +kernel)
  refine hb_tv (.ref q_49) (by show va_rf (L[_]?) = _; rw [hq_51]; rfl) ?_
  refine lv_astore_n (lv' := [(3, .ref q_49), (2, .int 12), (1, .int 0), (0, .ref (a 0))]) hx hb d_WM_coinsOfMen_16 rfl hl (by decide) rfl (fun ls hl => ?_)
  refine lv_iload_n hx hb d_WM_coinsOfMen_17 rfl (lv_at hl 2 rfl) ?_
  refine lv_aload_n hx hb d_WM_coinsOfMen_18 rfl (lv_at hl 0 rfl) ?_
  refine lv_ifnonnull (tgt := 26) hx hb d_WM_coinsOfMen_19 (by decide) ?_
  refine lv_aload_n hx hb d_WM_coinsOfMen_26 rfl (lv_at hl 0 rfl) ?_
  refine va_get (D := (dC, dI)) (ci := 2) (v := .int 0) (C := R_Mn) (T := F_Mn) (N := 8) hx hb htb i_Mn hown hK hP x_50 hk_52 rfl 4 (by decide) (htb (.fieldLink R_WM 152 "WaterMen$Man" "coins" "I") tw_171) (fun _ h9 => h9) rfl d_WM_coinsOfMen_27 ?_
  refine lv_iadd hx hb d_WM_coinsOfMen_30 ?_
  refine hb_ti 0 (by decide +kernel) ?_
  refine lv_istore_n (lv' := [(1, .int 0), (3, .ref q_49), (2, .int 12), (0, .ref (a 0))]) hx hb d_WM_coinsOfMen_31 rfl hl (by decide) rfl (fun ls hl => ?_)
  refine lv_iinc (v := 13) (lv' := [(2, .int 13), (1, .int 0), (3, .ref q_49), (0, .ref (a 0))]) hx hb d_WM_coinsOfMen_32 hl (k := 2) rfl (by decide +kernel) (by decide) rfl (fun ls hl => ?_)
  refine lv_goto (tgt := 4) hx hb d_WM_coinsOfMen_35 (by decide) ?_
  refine lv_iload_n hx hb d_WM_coinsOfMen_4 rfl (lv_at hl 0 rfl) ?_
  refine lv_bipush (v := 40) hx hb d_WM_coinsOfMen_5 (by decide +kernel) ?_
  refine lv_icmp_ge (tgt := 38) hx hb d_WM_coinsOfMen_7 (by decide) (fun h => absurd h (by decide +kernel)) (fun _ => ?_)
  refine lv_aload_n hx hb d_WM_coinsOfMen_10 rfl (lv_at hl 3 rfl) ?_
  refine va_get (D := (dC, dI)) (ci := 0) (v := .ref (a 6)) (C := R_WM) (T := F_WM) (N := 13) hx hb htb i_WM hown hK hP 0 rfl rfl 1 (by decide) (htb (.fieldLink R_WM 18 "WaterMen" "men" "[LWaterMen$Man;") tw_70) (fun _ h9 => h9) rfl d_WM_coinsOfMen_11 ?_
  refine lv_iload_n hx hb d_WM_coinsOfMen_14 rfl (lv_at hl 0 rfl) ?_
  refine va_aldq hx hb hK hP 6 4 rfl rfl (by unfold vp_in; decide +kernel) d_WM_coinsOfMen_15 ?_
  obtain ⟨q_53, x_54, hq_55, hk_56⟩ := xw_man (a := a) (k := k) (i := 13) hL (by unfold vp_in; decide +kernel)
  refine hb_tv (.ref q_53) (by show va_rf (L[_]?) = _; rw [hq_55]; rfl) ?_
  refine lv_astore_n (lv' := [(3, .ref q_53), (2, .int 13), (1, .int 0), (0, .ref (a 0))]) hx hb d_WM_coinsOfMen_16 rfl hl (by decide) rfl (fun ls hl => ?_)
  refine lv_iload_n hx hb d_WM_coinsOfMen_17 rfl (lv_at hl 2 rfl) ?_
  refine lv_aload_n hx hb d_WM_coinsOfMen_18 rfl (lv_at hl 0 rfl) ?_
  refine lv_ifnonnull (tgt := 26) hx hb d_WM_coinsOfMen_19 (by decide) ?_
  refine lv_aload_n hx hb d_WM_coinsOfMen_26 rfl (lv_at hl 0 rfl) ?_
  refine va_get (D := (dC, dI)) (ci := 2) (v := .int 0) (C := R_Mn) (T := F_Mn) (N := 8) hx hb htb i_Mn hown hK hP x_54 hk_56 rfl 4 (by decide) (htb (.fieldLink R_WM 152 "WaterMen$Man" "coins" "I") tw_171) (fun _ h9 => h9) rfl d_WM_coinsOfMen_27 ?_
  refine lv_iadd hx hb d_WM_coinsOfMen_30 ?_
  refine hb_ti 0 (by decide +kernel) ?_
  refine lv_istore_n (lv' := [(1, .int 0), (3, .ref q_53), (2, .int 13), (0, .ref (a 0))]) hx hb d_WM_coinsOfMen_31 rfl hl (by decide) rfl (fun ls hl => ?_)
  refine lv_iinc (v := 14) (lv' := [(2, .int 14), (1, .int 0), (3, .ref q_53), (0, .ref (a 0))]) hx hb d_WM_coinsOfMen_32 hl (k := 2) rfl (by decide +kernel) (by decide) rfl (fun ls hl => ?_)
  refine lv_goto (tgt := 4) hx hb d_WM_coinsOfMen_35 (by decide) ?_
  refine lv_iload_n hx hb d_WM_coinsOfMen_4 rfl (lv_at hl 0 rfl) ?_
  refine lv_bipush (v := 40) hx hb d_WM_coinsOfMen_5 (by decide +kernel) ?_
  refine lv_icmp_ge (tgt := 38) hx hb d_WM_coinsOfMen_7 (by decide) (fun h => absurd h (by decide +kernel)) (fun _ => ?_)
  refine lv_aload_n hx hb d_WM_coinsOfMen_10 rfl (lv_at hl 3 rfl) ?_
  refine va_get (D := (dC, dI)) (ci := 0) (v := .ref (a 6)) (C := R_WM) (T := F_WM) (N := 13) hx hb htb i_WM hown hK hP 0 rfl rfl 1 (by decide) (htb (.fieldLink R_WM 18 "WaterMen" "men" "[LWaterMen$Man;") tw_70) (fun _ h9 => h9) rfl d_WM_coinsOfMen_11 ?_
  refine lv_iload_n hx hb d_WM_coinsOfMen_14 rfl (lv_at hl 0 rfl) ?_
  refine va_aldq hx hb hK hP 6 4 rfl rfl (by unfold vp_in; decide +kernel) d_WM_coinsOfMen_15 ?_
  obtain ⟨q_57, x_58, hq_59, hk_60⟩ := xw_man (a := a) (k := k) (i := 14) hL (by unfold vp_in; decide +kernel)
  refine hb_tv (.ref q_57) (by show va_rf (L[_]?) = _; rw [hq_59]; rfl) ?_
  refine lv_astore_n (lv' := [(3, .ref q_57), (2, .int 14), (1, .int 0), (0, .ref (a 0))]) hx hb d_WM_coinsOfMen_16 rfl hl (by decide) rfl (fun ls hl => ?_)
  refine lv_iload_n hx hb d_WM_coinsOfMen_17 rfl (lv_at hl 2 rfl) ?_
  refine lv_aload_n hx hb d_WM_coinsOfMen_18 rfl (lv_at hl 0 rfl) ?_
  refine lv_ifnonnull (tgt := 26) hx hb d_WM_coinsOfMen_19 (by decide) ?_
  refine lv_aload_n hx hb d_WM_coinsOfMen_26 rfl (lv_at hl 0 rfl) ?_
  refine va_get (D := (dC, dI)) (ci := 2) (v := .int 0) (C := R_Mn) (T := F_Mn) (N := 8) hx hb htb i_Mn hown hK hP x_58 hk_60 rfl 4 (by decide) (htb (.fieldLink R_WM 152 "WaterMen$Man" "coins" "I") tw_171) (fun _ h9 => h9) rfl d_WM_coinsOfMen_27 ?_
  refine lv_iadd hx hb d_WM_coinsOfMen_30 ?_
  refine hb_ti 0 (by decide +kernel) ?_
  refine lv_istore_n (lv' := [(1, .int 0), (3, .ref q_57), (2, .int 14), (0, .ref (a 0))]) hx hb d_WM_coinsOfMen_31 rfl hl (by decide) rfl (fun ls hl => ?_)
  refine lv_iinc (v := 15) (lv' := [(2, .int 15), (1, .int 0), (3, .ref q_57), (0, .ref (a 0))]) hx hb d_WM_coinsOfMen_32 hl (k := 2) rfl (by decide +kernel) (by decide) rfl (fun ls hl => ?_)
  refine lv_goto (tgt := 4) hx hb d_WM_coinsOfMen_35 (by decide) ?_
  refine lv_iload_n hx hb d_WM_coinsOfMen_4 rfl (lv_at hl 0 rfl) ?_
  refine lv_bipush (v := 40) hx hb d_WM_coinsOfMen_5 (by decide +kernel) ?_
  refine lv_icmp_ge (tgt := 38) hx hb d_WM_coinsOfMen_7 (by decide) (fun h => absurd h (by decide +kernel)) (fun _ => ?_)
  refine lv_aload_n hx hb d_WM_coinsOfMen_10 rfl (lv_at hl 3 rfl) ?_
  refine va_get (D := (dC, dI)) (ci := 0) (v := .ref (a 6)) (C := R_WM) (T := F_WM) (N := 13) hx hb htb i_WM hown hK hP 0 rfl rfl 1 (by decide) (htb (.fieldLink R_WM 18 "WaterMen" "men" "[LWaterMen$Man;") tw_70) (fun _ h9 => h9) rfl d_WM_coinsOfMen_11 ?_
  refine lv_iload_n hx hb d_WM_coinsOfMen_14 rfl (lv_at hl 0 rfl) ?_
  refine va_aldq hx hb hK hP 6 4 rfl rfl (by unfold vp_in; decide +kernel) d_WM_coinsOfMen_15 ?_
  obtain ⟨q_61, x_62, hq_63, hk_64⟩ := xw_man (a := a) (k := k) (i := 15) hL (by unfold vp_in; decide +kernel)
  refine hb_tv (.ref q_61) (by show va_rf (L[_]?) = _; rw [hq_63]; rfl) ?_
  refine lv_astore_n (lv' := [(3, .ref q_61), (2, .int 15), (1, .int 0), (0, .ref (a 0))]) hx hb d_WM_coinsOfMen_16 rfl hl (by decide) rfl (fun ls hl => ?_)
  refine lv_iload_n hx hb d_WM_coinsOfMen_17 rfl (lv_at hl 2 rfl) ?_
  refine lv_aload_n hx hb d_WM_coinsOfMen_18 rfl (lv_at hl 0 rfl) ?_
  refine lv_ifnonnull (tgt := 26) hx hb d_WM_coinsOfMen_19 (by decide) ?_
  refine lv_aload_n hx hb d_WM_coinsOfMen_26 rfl (lv_at hl 0 rfl) ?_
  refine va_get (D := (dC, dI)) (ci := 2) (v := .int 0) (C := R_Mn) (T := F_Mn) (N := 8) hx hb htb i_Mn hown hK hP x_62 hk_64 rfl 4 (by decide) (htb (.fieldLink R_WM 152 "WaterMen$Man" "coins" "I") tw_171) (fun _ h9 => h9) rfl d_WM_coinsOfMen_27 ?_
  refine lv_iadd hx hb d_WM_coinsOfMen_30 ?_
  refine hb_ti 0 (by decide +kernel) ?_
  refine lv_istore_n (lv' := [(1, .int 0), (3, .ref q_61), (2, .int 15), (0, .ref (a 0))]) hx hb d_WM_coinsOfMen_31 rfl hl (by decide) rfl (fun ls hl => ?_)
  refine lv_iinc (v := 16) (lv' := [(2, .int 16), (1, .int 0), (3, .ref q_61), (0, .ref (a 0))]) hx hb d_WM_coinsOfMen_32 hl (k := 2) rfl (by decide +kernel) (by decide) rfl (fun ls hl => ?_)
  refine lv_goto (tgt := 4) hx hb d_WM_coinsOfMen_35 (by decide) ?_
  refine lv_iload_n hx hb d_WM_coinsOfMen_4 rfl (lv_at hl 0 rfl) ?_
  refine lv_bipush (v := 40) hx hb d_WM_coinsOfMen_5 (by decide +kernel) ?_
  refine lv_icmp_ge (tgt := 38) hx hb d_WM_coinsOfMen_7 (by decide) (fun h => absurd h (by decide +kernel)) (fun _ => ?_)
  refine lv_aload_n hx hb d_WM_coinsOfMen_10 rfl (lv_at hl 3 rfl) ?_
  refine va_get (D := (dC, dI)) (ci := 0) (v := .ref (a 6)) (C := R_WM) (T := F_WM) (N := 13) hx hb htb i_WM hown hK hP 0 rfl rfl 1 (by decide) (htb (.fieldLink R_WM 18 "WaterMen" "men" "[LWaterMen$Man;") tw_70) (fun _ h9 => h9) rfl d_WM_coinsOfMen_11 ?_
  refine lv_iload_n hx hb d_WM_coinsOfMen_14 rfl (lv_at hl 0 rfl) ?_
  refine va_aldq hx hb hK hP 6 4 rfl rfl (by unfold vp_in; decide +kernel) d_WM_coinsOfMen_15 ?_
  obtain ⟨q_65, x_66, hq_67, hk_68⟩ := xw_man (a := a) (k := k) (i := 16) hL (by unfold vp_in; decide +kernel)
  refine hb_tv (.ref q_65) (by show va_rf (L[_]?) = _; rw [hq_67]; rfl) ?_
  refine lv_astore_n (lv' := [(3, .ref q_65), (2, .int 16), (1, .int 0), (0, .ref (a 0))]) hx hb d_WM_coinsOfMen_16 rfl hl (by decide) rfl (fun ls hl => ?_)
  refine lv_iload_n hx hb d_WM_coinsOfMen_17 rfl (lv_at hl 2 rfl) ?_
  refine lv_aload_n hx hb d_WM_coinsOfMen_18 rfl (lv_at hl 0 rfl) ?_
  refine lv_ifnonnull (tgt := 26) hx hb d_WM_coinsOfMen_19 (by decide) ?_
  refine lv_aload_n hx hb d_WM_coinsOfMen_26 rfl (lv_at hl 0 rfl) ?_
  refine va_get (D := (dC, dI)) (ci := 2) (v := .int 0) (C := R_Mn) (T := F_Mn) (N := 8) hx hb htb i_Mn hown hK hP x_66 hk_68 rfl 4 (by decide) (htb (.fieldLink R_WM 152 "WaterMen$Man" "coins" "I") tw_171) (fun _ h9 => h9) rfl d_WM_coinsOfMen_27 ?_
  refine lv_iadd hx hb d_WM_coinsOfMen_30 ?_
  refine hb_ti 0 (by decide +kernel) ?_
  refine lv_istore_n (lv' := [(1, .int 0), (3, .ref q_65), (2, .int 16), (0, .ref (a 0))]) hx hb d_WM_coinsOfMen_31 rfl hl (by decide) rfl (fun ls hl => ?_)
  refine lv_iinc (v := 17) (lv' := [(2, .int 17), (1, .int 0), (3, .ref q_65), (0, .ref (a 0))]) hx hb d_WM_coinsOfMen_32 hl (k := 2) rfl (by decide +kernel) (by decide) rfl (fun ls hl => ?_)
  refine lv_goto (tgt := 4) hx hb d_WM_coinsOfMen_35 (by decide) ?_
  refine lv_iload_n hx hb d_WM_coinsOfMen_4 rfl (lv_at hl 0 rfl) ?_
  refine lv_bipush (v := 40) hx hb d_WM_coinsOfMen_5 (by decide +kernel) ?_
  refine lv_icmp_ge (tgt := 38) hx hb d_WM_coinsOfMen_7 (by decide) (fun h => absurd h (by decide +kernel)) (fun _ => ?_)
  refine lv_aload_n hx hb d_WM_coinsOfMen_10 rfl (lv_at hl 3 rfl) ?_
  refine va_get (D := (dC, dI)) (ci := 0) (v := .ref (a 6)) (C := R_WM) (T := F_WM) (N := 13) hx hb htb i_WM hown hK hP 0 rfl rfl 1 (by decide) (htb (.fieldLink R_WM 18 "WaterMen" "men" "[LWaterMen$Man;") tw_70) (fun _ h9 => h9) rfl d_WM_coinsOfMen_11 ?_
  refine lv_iload_n hx hb d_WM_coinsOfMen_14 rfl (lv_at hl 0 rfl) ?_
  refine va_aldq hx hb hK hP 6 4 rfl rfl (by unfold vp_in; decide +kernel) d_WM_coinsOfMen_15 ?_
  obtain ⟨q_69, x_70, hq_71, hk_72⟩ := xw_man (a := a) (k := k) (i := 17) hL (by unfold vp_in; decide +kernel)
  refine hb_tv (.ref q_69) (by show va_rf (L[_]?) = _; rw [hq_71]; rfl) ?_
  refine lv_astore_n (lv' := [(3, .ref q_69), (2, .int 17), (1, .int 0), (0, .ref (a 0))]) hx hb d_WM_coinsOfMen_16 rfl hl (by decide) rfl (fun ls hl => ?_)
  refine lv_iload_n hx hb d_WM_coinsOfMen_17 rfl (lv_at hl 2 rfl) ?_
  refine lv_aload_n hx hb d_WM_coinsOfMen_18 rfl (lv_at hl 0 rfl) ?_
  refine lv_ifnonnull (tgt := 26) hx hb d_WM_coinsOfMen_19 (by decide) ?_
  refine lv_aload_n hx hb d_WM_coinsOfMen_26 rfl (lv_at hl 0 rfl) ?_
  refine va_get (D := (dC, dI)) (ci := 2) (v := .int 0) (C := R_Mn) (T := F_Mn) (N := 8) hx hb htb i_Mn hown hK hP x_70 hk_72 rfl 4 (by decide) (htb (.fieldLink R_WM 152 "WaterMen$Man" "coins" "I") tw_171) (fun _ h9 => h9) rfl d_WM_coinsOfMen_27 ?_
  refine lv_iadd hx hb d_WM_coinsOfMen_30 ?_
  refine hb_ti 0 (by decide +kernel) ?_
  refine lv_istore_n (lv' := [(1, .int 0), (3, .ref q_69), (2, .int 17), (0, .ref (a 0))]) hx hb d_WM_coinsOfMen_31 rfl hl (by decide) rfl (fun ls hl => ?_)
  refine lv_iinc (v := 18) (lv' := [(2, .int 18), (1, .int 0), (3, .ref q_69), (0, .ref (a 0))]) hx hb d_WM_coinsOfMen_32 hl (k := 2) rfl (by decide +kernel) (by decide) rfl (fun ls hl => ?_)
  refine lv_goto (tgt := 4) hx hb d_WM_coinsOfMen_35 (by decide) ?_
  refine lv_iload_n hx hb d_WM_coinsOfMen_4 rfl (lv_at hl 0 rfl) ?_
  refine lv_bipush (v := 40) hx hb d_WM_coinsOfMen_5 (by decide +kernel) ?_
  refine lv_icmp_ge (tgt := 38) hx hb d_WM_coinsOfMen_7 (by decide) (fun h => absurd h (by decide +kernel)) (fun _ => ?_)
  refine lv_aload_n hx hb d_WM_coinsOfMen_10 rfl (lv_at hl 3 rfl) ?_
  refine va_get (D := (dC, dI)) (ci := 0) (v := .ref (a 6)) (C := R_WM) (T := F_WM) (N := 13) hx hb htb i_WM hown hK hP 0 rfl rfl 1 (by decide) (htb (.fieldLink R_WM 18 "WaterMen" "men" "[LWaterMen$Man;") tw_70) (fun _ h9 => h9) rfl d_WM_coinsOfMen_11 ?_
  refine lv_iload_n hx hb d_WM_coinsOfMen_14 rfl (lv_at hl 0 rfl) ?_
  refine va_aldq hx hb hK hP 6 4 rfl rfl (by unfold vp_in; decide +kernel) d_WM_coinsOfMen_15 ?_
  obtain ⟨q_73, x_74, hq_75, hk_76⟩ := xw_man (a := a) (k := k) (i := 18) hL (by unfold vp_in; decide +kernel)
  refine hb_tv (.ref q_73) (by show va_rf (L[_]?) = _; rw [hq_75]; rfl) ?_
  refine lv_astore_n (lv' := [(3, .ref q_73), (2, .int 18), (1, .int 0), (0, .ref (a 0))]) hx hb d_WM_coinsOfMen_16 rfl hl (by decide) rfl (fun ls hl => ?_)
  refine lv_iload_n hx hb d_WM_coinsOfMen_17 rfl (lv_at hl 2 rfl) ?_
  refine lv_aload_n hx hb d_WM_coinsOfMen_18 rfl (lv_at hl 0 rfl) ?_
  refine lv_ifnonnull (tgt := 26) hx hb d_WM_coinsOfMen_19 (by decide) ?_
  refine lv_aload_n hx hb d_WM_coinsOfMen_26 rfl (lv_at hl 0 rfl) ?_
  refine va_get (D := (dC, dI)) (ci := 2) (v := .int 0) (C := R_Mn) (T := F_Mn) (N := 8) hx hb htb i_Mn hown hK hP x_74 hk_76 rfl 4 (by decide) (htb (.fieldLink R_WM 152 "WaterMen$Man" "coins" "I") tw_171) (fun _ h9 => h9) rfl d_WM_coinsOfMen_27 ?_
  refine lv_iadd hx hb d_WM_coinsOfMen_30 ?_
  refine hb_ti 0 (by decide +kernel) ?_
  refine lv_istore_n (lv' := [(1, .int 0), (3, .ref q_73), (2, .int 18), (0, .ref (a 0))]) hx hb d_WM_coinsOfMen_31 rfl hl (by decide) rfl (fun ls hl => ?_)
  refine lv_iinc (v := 19) (lv' := [(2, .int 19), (1, .int 0), (3, .ref q_73), (0, .ref (a 0))]) hx hb d_WM_coinsOfMen_32 hl (k := 2) rfl (by decide +kernel) (by decide) rfl (fun ls hl => ?_)
  refine lv_goto (tgt := 4) hx hb d_WM_coinsOfMen_35 (by decide) ?_
  refine lv_iload_n hx hb d_WM_coinsOfMen_4 rfl (lv_at hl 0 rfl) ?_
  refine lv_bipush (v := 40) hx hb d_WM_coinsOfMen_5 (by decide +kernel) ?_
  refine lv_icmp_ge (tgt := 38) hx hb d_WM_coinsOfMen_7 (by decide) (fun h => absurd h (by decide +kernel)) (fun _ => ?_)
  refine lv_aload_n hx hb d_WM_coinsOfMen_10 rfl (lv_at hl 3 rfl) ?_
  refine va_get (D := (dC, dI)) (ci := 0) (v := .ref (a 6)) (C := R_WM) (T := F_WM) (N := 13) hx hb htb i_WM hown hK hP 0 rfl rfl 1 (by decide) (htb (.fieldLink R_WM 18 "WaterMen" "men" "[LWaterMen$Man;") tw_70) (fun _ h9 => h9) rfl d_WM_coinsOfMen_11 ?_
  refine lv_iload_n hx hb d_WM_coinsOfMen_14 rfl (lv_at hl 0 rfl) ?_
  refine va_aldq hx hb hK hP 6 4 rfl rfl (by unfold vp_in; decide +kernel) d_WM_coinsOfMen_15 ?_
  obtain ⟨q_77, x_78, hq_79, hk_80⟩ := xw_man (a := a) (k := k) (i := 19) hL (by unfold vp_in; decide +kernel)
  refine hb_tv (.ref q_77) (by show va_rf (L[_]?) = _; rw [hq_79]; rfl) ?_
  refine lv_astore_n (lv' := [(3, .ref q_77), (2, .int 19), (1, .int 0), (0, .ref (a 0))]) hx hb d_WM_coinsOfMen_16 rfl hl (by decide) rfl (fun ls hl => ?_)
  refine lv_iload_n hx hb d_WM_coinsOfMen_17 rfl (lv_at hl 2 rfl) ?_
  refine lv_aload_n hx hb d_WM_coinsOfMen_18 rfl (lv_at hl 0 rfl) ?_
  refine lv_ifnonnull (tgt := 26) hx hb d_WM_coinsOfMen_19 (by decide) ?_
  refine lv_aload_n hx hb d_WM_coinsOfMen_26 rfl (lv_at hl 0 rfl) ?_
  refine va_get (D := (dC, dI)) (ci := 2) (v := .int 0) (C := R_Mn) (T := F_Mn) (N := 8) hx hb htb i_Mn hown hK hP x_78 hk_80 rfl 4 (by decide) (htb (.fieldLink R_WM 152 "WaterMen$Man" "coins" "I") tw_171) (fun _ h9 => h9) rfl d_WM_coinsOfMen_27 ?_
  refine lv_iadd hx hb d_WM_coinsOfMen_30 ?_
  refine hb_ti 0 (by decide +kernel) ?_
  refine lv_istore_n (lv' := [(1, .int 0), (3, .ref q_77), (2, .int 19), (0, .ref (a 0))]) hx hb d_WM_coinsOfMen_31 rfl hl (by decide) rfl (fun ls hl => ?_)
  refine lv_iinc (v := 20) (lv' := [(2, .int 20), (1, .int 0), (3, .ref q_77), (0, .ref (a 0))]) hx hb d_WM_coinsOfMen_32 hl (k := 2) rfl (by decide +kernel) (by decide) rfl (fun ls hl => ?_)
  refine lv_goto (tgt := 4) hx hb d_WM_coinsOfMen_35 (by decide) ?_
  refine lv_iload_n hx hb d_WM_coinsOfMen_4 rfl (lv_at hl 0 rfl) ?_
  refine lv_bipush (v := 40) hx hb d_WM_coinsOfMen_5 (by decide +kernel) ?_
  refine lv_icmp_ge (tgt := 38) hx hb d_WM_coinsOfMen_7 (by decide) (fun h => absurd h (by decide +kernel)) (fun _ => ?_)
  refine lv_aload_n hx hb d_WM_coinsOfMen_10 rfl (lv_at hl 3 rfl) ?_
  refine va_get (D := (dC, dI)) (ci := 0) (v := .ref (a 6)) (C := R_WM) (T := F_WM) (N := 13) hx hb htb i_WM hown hK hP 0 rfl rfl 1 (by decide) (htb (.fieldLink R_WM 18 "WaterMen" "men" "[LWaterMen$Man;") tw_70) (fun _ h9 => h9) rfl d_WM_coinsOfMen_11 ?_
  refine lv_iload_n hx hb d_WM_coinsOfMen_14 rfl (lv_at hl 0 rfl) ?_
  refine va_aldq hx hb hK hP 6 4 rfl rfl (by unfold vp_in; decide +kernel) d_WM_coinsOfMen_15 ?_
  obtain ⟨q_81, x_82, hq_83, hk_84⟩ := xw_man (a := a) (k := k) (i := 20) hL (by unfold vp_in; decide +kernel)
  refine hb_tv (.ref q_81) (by show va_rf (L[_]?) = _; rw [hq_83]; rfl) ?_
  refine lv_astore_n (lv' := [(3, .ref q_81), (2, .int 20), (1, .int 0), (0, .ref (a 0))]) hx hb d_WM_coinsOfMen_16 rfl hl (by decide) rfl (fun ls hl => ?_)
  refine lv_iload_n hx hb d_WM_coinsOfMen_17 rfl (lv_at hl 2 rfl) ?_
  refine lv_aload_n hx hb d_WM_coinsOfMen_18 rfl (lv_at hl 0 rfl) ?_
  refine lv_ifnonnull (tgt := 26) hx hb d_WM_coinsOfMen_19 (by decide) ?_
  refine lv_aload_n hx hb d_WM_coinsOfMen_26 rfl (lv_at hl 0 rfl) ?_
  refine va_get (D := (dC, dI)) (ci := 2) (v := .int 0) (C := R_Mn) (T := F_Mn) (N := 8) hx hb htb i_Mn hown hK hP x_82 hk_84 rfl 4 (by decide) (htb (.fieldLink R_WM 152 "WaterMen$Man" "coins" "I") tw_171) (fun _ h9 => h9) rfl d_WM_coinsOfMen_27 ?_
  refine lv_iadd hx hb d_WM_coinsOfMen_30 ?_
  refine hb_ti 0 (by decide +kernel) ?_
  refine lv_istore_n (lv' := [(1, .int 0), (3, .ref q_81), (2, .int 20), (0, .ref (a 0))]) hx hb d_WM_coinsOfMen_31 rfl hl (by decide) rfl (fun ls hl => ?_)
  refine lv_iinc (v := 21) (lv' := [(2, .int 21), (1, .int 0), (3, .ref q_81), (0, .ref (a 0))]) hx hb d_WM_coinsOfMen_32 hl (k := 2) rfl (by decide +kernel) (by decide) rfl (fun ls hl => ?_)
  refine lv_goto (tgt := 4) hx hb d_WM_coinsOfMen_35 (by decide) ?_
  refine lv_iload_n hx hb d_WM_coinsOfMen_4 rfl (lv_at hl 0 rfl) ?_
  refine lv_bipush (v := 40) hx hb d_WM_coinsOfMen_5 (by decide +kernel) ?_
  refine lv_icmp_ge (tgt := 38) hx hb d_WM_coinsOfMen_7 (by decide) (fun h => absurd h (by decide +kernel)) (fun _ => ?_)
  refine lv_aload_n hx hb d_WM_coinsOfMen_10 rfl (lv_at hl 3 rfl) ?_
  refine va_get (D := (dC, dI)) (ci := 0) (v := .ref (a 6)) (C := R_WM) (T := F_WM) (N := 13) hx hb htb i_WM hown hK hP 0 rfl rfl 1 (by decide) (htb (.fieldLink R_WM 18 "WaterMen" "men" "[LWaterMen$Man;") tw_70) (fun _ h9 => h9) rfl d_WM_coinsOfMen_11 ?_
  refine lv_iload_n hx hb d_WM_coinsOfMen_14 rfl (lv_at hl 0 rfl) ?_
  refine va_aldq hx hb hK hP 6 4 rfl rfl (by unfold vp_in; decide +kernel) d_WM_coinsOfMen_15 ?_
  obtain ⟨q_85, x_86, hq_87, hk_88⟩ := xw_man (a := a) (k := k) (i := 21) hL (by unfold vp_in; decide +kernel)
  refine hb_tv (.ref q_85) (by show va_rf (L[_]?) = _; rw [hq_87]; rfl) ?_
  refine lv_astore_n (lv' := [(3, .ref q_85), (2, .int 21), (1, .int 0), (0, .ref (a 0))]) hx hb d_WM_coinsOfMen_16 rfl hl (by decide) rfl (fun ls hl => ?_)
  refine lv_iload_n hx hb d_WM_coinsOfMen_17 rfl (lv_at hl 2 rfl) ?_
  refine lv_aload_n hx hb d_WM_coinsOfMen_18 rfl (lv_at hl 0 rfl) ?_
  refine lv_ifnonnull (tgt := 26) hx hb d_WM_coinsOfMen_19 (by decide) ?_
  refine lv_aload_n hx hb d_WM_coinsOfMen_26 rfl (lv_at hl 0 rfl) ?_
  refine va_get (D := (dC, dI)) (ci := 2) (v := .int 0) (C := R_Mn) (T := F_Mn) (N := 8) hx hb htb i_Mn hown hK hP x_86 hk_88 rfl 4 (by decide) (htb (.fieldLink R_WM 152 "WaterMen$Man" "coins" "I") tw_171) (fun _ h9 => h9) rfl d_WM_coinsOfMen_27 ?_
  refine lv_iadd hx hb d_WM_coinsOfMen_30 ?_
  refine hb_ti 0 (by decide +kernel) ?_
  refine lv_istore_n (lv' := [(1, .int 0), (3, .ref q_85), (2, .int 21), (0, .ref (a 0))]) hx hb d_WM_coinsOfMen_31 rfl hl (by decide) rfl (fun ls hl => ?_)
  refine lv_iinc (v := 22) (lv' := [(2, .int 22), (1, .int 0), (3, .ref q_85), (0, .ref (a 0))]) hx hb d_WM_coinsOfMen_32 hl (k := 2) rfl (by decide +kernel) (by decide) rfl (fun ls hl => ?_)
  refine lv_goto (tgt := 4) hx hb d_WM_coinsOfMen_35 (by decide) ?_
  refine lv_iload_n hx hb d_WM_coinsOfMen_4 rfl (lv_at hl 0 rfl) ?_
  refine lv_bipush (v := 40) hx hb d_WM_coinsOfMen_5 (by decide +kernel) ?_
  refine lv_icmp_ge (tgt := 38) hx hb d_WM_coinsOfMen_7 (by decide) (fun h => absurd h (by decide +kernel)) (fun _ => ?_)
  refine lv_aload_n hx hb d_WM_coinsOfMen_10 rfl (lv_at hl 3 rfl) ?_
  refine va_get (D := (dC, dI)) (ci := 0) (v := .ref (a 6)) (C := R_WM) (T := F_WM) (N := 13) hx hb htb i_WM hown hK hP 0 rfl rfl 1 (by decide) (htb (.fieldLink R_WM 18 "WaterMen" "men" "[LWaterMen$Man;") tw_70) (fun _ h9 => h9) rfl d_WM_coinsOfMen_11 ?_
  refine lv_iload_n hx hb d_WM_coinsOfMen_14 rfl (lv_at hl 0 rfl) ?_
  refine va_aldq hx hb hK hP 6 4 rfl rfl (by unfold vp_in; decide +kernel) d_WM_coinsOfMen_15 ?_
  obtain ⟨q_89, x_90, hq_91, hk_92⟩ := xw_man (a := a) (k := k) (i := 22) hL (by unfold vp_in; decide +kernel)
  refine hb_tv (.ref q_89) (by show va_rf (L[_]?) = _; rw [hq_91]; rfl) ?_
  refine lv_astore_n (lv' := [(3, .ref q_89), (2, .int 22), (1, .int 0), (0, .ref (a 0))]) hx hb d_WM_coinsOfMen_16 rfl hl (by decide) rfl (fun ls hl => ?_)
  refine lv_iload_n hx hb d_WM_coinsOfMen_17 rfl (lv_at hl 2 rfl) ?_
  refine lv_aload_n hx hb d_WM_coinsOfMen_18 rfl (lv_at hl 0 rfl) ?_
  refine lv_ifnonnull (tgt := 26) hx hb d_WM_coinsOfMen_19 (by decide) ?_
  refine lv_aload_n hx hb d_WM_coinsOfMen_26 rfl (lv_at hl 0 rfl) ?_
  refine va_get (D := (dC, dI)) (ci := 2) (v := .int 0) (C := R_Mn) (T := F_Mn) (N := 8) hx hb htb i_Mn hown hK hP x_90 hk_92 rfl 4 (by decide) (htb (.fieldLink R_WM 152 "WaterMen$Man" "coins" "I") tw_171) (fun _ h9 => h9) rfl d_WM_coinsOfMen_27 ?_
  refine lv_iadd hx hb d_WM_coinsOfMen_30 ?_
  refine hb_ti 0 (by decide +kernel) ?_
  refine lv_istore_n (lv' := [(1, .int 0), (3, .ref q_89), (2, .int 22), (0, .ref (a 0))]) hx hb d_WM_coinsOfMen_31 rfl hl (by decide) rfl (fun ls hl => ?_)
  refine lv_iinc (v := 23) (lv' := [(2, .int 23), (1, .int 0), (3, .ref q_89), (0, .ref (a 0))]) hx hb d_WM_coinsOfMen_32 hl (k := 2) rfl (by decide +kernel) (by decide) rfl (fun ls hl => ?_)
  refine lv_goto (tgt := 4) hx hb d_WM_coinsOfMen_35 (by decide) ?_
  refine lv_iload_n hx hb d_WM_coinsOfMen_4 rfl (lv_at hl 0 rfl) ?_
  refine lv_bipush (v := 40) hx hb d_WM_coinsOfMen_5 (by decide +kernel) ?_
  refine lv_icmp_ge (tgt := 38) hx hb d_WM_coinsOfMen_7 (by decide) (fun h => absurd h (by decide +kernel)) (fun _ => ?_)
  refine lv_aload_n hx hb d_WM_coinsOfMen_10 rfl (lv_at hl 3 rfl) ?_
  refine va_get (D := (dC, dI)) (ci := 0) (v := .ref (a 6)) (C := R_WM) (T := F_WM) (N := 13) hx hb htb i_WM hown hK hP 0 rfl rfl 1 (by decide) (htb (.fieldLink R_WM 18 "WaterMen" "men" "[LWaterMen$Man;") tw_70) (fun _ h9 => h9) rfl d_WM_coinsOfMen_11 ?_
  refine lv_iload_n hx hb d_WM_coinsOfMen_14 rfl (lv_at hl 0 rfl) ?_
  refine va_aldq hx hb hK hP 6 4 rfl rfl (by unfold vp_in; decide +kernel) d_WM_coinsOfMen_15 ?_
  obtain ⟨q_93, x_94, hq_95, hk_96⟩ := xw_man (a := a) (k := k) (i := 23) hL (by unfold vp_in; decide +kernel)
  refine hb_tv (.ref q_93) (by show va_rf (L[_]?) = _; rw [hq_95]; rfl) ?_
  refine lv_astore_n (lv' := [(3, .ref q_93), (2, .int 23), (1, .int 0), (0, .ref (a 0))]) hx hb d_WM_coinsOfMen_16 rfl hl (by decide) rfl (fun ls hl => ?_)
  refine lv_iload_n hx hb d_WM_coinsOfMen_17 rfl (lv_at hl 2 rfl) ?_
  refine lv_aload_n hx hb d_WM_coinsOfMen_18 rfl (lv_at hl 0 rfl) ?_
  refine lv_ifnonnull (tgt := 26) hx hb d_WM_coinsOfMen_19 (by decide) ?_
  refine lv_aload_n hx hb d_WM_coinsOfMen_26 rfl (lv_at hl 0 rfl) ?_
  refine va_get (D := (dC, dI)) (ci := 2) (v := .int 0) (C := R_Mn) (T := F_Mn) (N := 8) hx hb htb i_Mn hown hK hP x_94 hk_96 rfl 4 (by decide) (htb (.fieldLink R_WM 152 "WaterMen$Man" "coins" "I") tw_171) (fun _ h9 => h9) rfl d_WM_coinsOfMen_27 ?_
  refine lv_iadd hx hb d_WM_coinsOfMen_30 ?_
  refine hb_ti 0 (by decide +kernel) ?_
  refine lv_istore_n (lv' := [(1, .int 0), (3, .ref q_93), (2, .int 23), (0, .ref (a 0))]) hx hb d_WM_coinsOfMen_31 rfl hl (by decide) rfl (fun ls hl => ?_)
  refine lv_iinc (v := 24) (lv' := [(2, .int 24), (1, .int 0), (3, .ref q_93), (0, .ref (a 0))]) hx hb d_WM_coinsOfMen_32 hl (k := 2) rfl (by decide +kernel) (by decide) rfl (fun ls hl => ?_)
  refine lv_goto (tgt := 4) hx hb d_WM_coinsOfMen_35 (by decide) ?_
  refine lv_iload_n hx hb d_WM_coinsOfMen_4 rfl (lv_at hl 0 rfl) ?_
  refine lv_bipush (v := 40) hx hb d_WM_coinsOfMen_5 (by decide +kernel) ?_
  refine lv_icmp_ge (tgt := 38) hx hb d_WM_coinsOfMen_7 (by decide) (fun h => absurd h (by decide +kernel)) (fun _ => ?_)
  refine lv_aload_n hx hb d_WM_coinsOfMen_10 rfl (lv_at hl 3 rfl) ?_
  refine va_get (D := (dC, dI)) (ci := 0) (v := .ref (a 6)) (C := R_WM) (T := F_WM) (N := 13) hx hb htb i_WM hown hK hP 0 rfl rfl 1 (by decide) (htb (.fieldLink R_WM 18 "WaterMen" "men" "[LWaterMen$Man;") tw_70) (fun _ h9 => h9) rfl d_WM_coinsOfMen_11 ?_
  refine lv_iload_n hx hb d_WM_coinsOfMen_14 rfl (lv_at hl 0 rfl) ?_
  refine va_aldq hx hb hK hP 6 4 rfl rfl (by unfold vp_in; decide +kernel) d_WM_coinsOfMen_15 ?_
  obtain ⟨q_97, x_98, hq_99, hk_100⟩ := xw_man (a := a) (k := k) (i := 24) hL (by unfold vp_in; decide +kernel)
  refine hb_tv (.ref q_97) (by show va_rf (L[_]?) = _; rw [hq_99]; rfl) ?_
  refine lv_astore_n (lv' := [(3, .ref q_97), (2, .int 24), (1, .int 0), (0, .ref (a 0))]) hx hb d_WM_coinsOfMen_16 rfl hl (by decide) rfl (fun ls hl => ?_)
  refine lv_iload_n hx hb d_WM_coinsOfMen_17 rfl (lv_at hl 2 rfl) ?_
  refine lv_aload_n hx hb d_WM_coinsOfMen_18 rfl (lv_at hl 0 rfl) ?_
  refine lv_ifnonnull (tgt := 26) hx hb d_WM_coinsOfMen_19 (by decide) ?_
  refine lv_aload_n hx hb d_WM_coinsOfMen_26 rfl (lv_at hl 0 rfl) ?_
  refine va_get (D := (dC, dI)) (ci := 2) (v := .int 0) (C := R_Mn) (T := F_Mn) (N := 8) hx hb htb i_Mn hown hK hP x_98 hk_100 rfl 4 (by decide) (htb (.fieldLink R_WM 152 "WaterMen$Man" "coins" "I") tw_171) (fun _ h9 => h9) rfl d_WM_coinsOfMen_27 ?_
  refine lv_iadd hx hb d_WM_coinsOfMen_30 ?_
  refine hb_ti 0 (by decide +kernel) ?_
  refine lv_istore_n (lv' := [(1, .int 0), (3, .ref q_97), (2, .int 24), (0, .ref (a 0))]) hx hb d_WM_coinsOfMen_31 rfl hl (by decide) rfl (fun ls hl => ?_)
  refine lv_iinc (v := 25) (lv' := [(2, .int 25), (1, .int 0), (3, .ref q_97), (0, .ref (a 0))]) hx hb d_WM_coinsOfMen_32 hl (k := 2) rfl (by decide +kernel) (by decide) rfl (fun ls hl => ?_)
  refine lv_goto (tgt := 4) hx hb d_WM_coinsOfMen_35 (by decide) ?_
  refine lv_iload_n hx hb d_WM_coinsOfMen_4 rfl (lv_at hl 0 rfl) ?_
  refine lv_bipush (v := 40) hx hb d_WM_coinsOfMen_5 (by decide +kernel) ?_
  refine lv_icmp_ge (tgt := 38) hx hb d_WM_coinsOfMen_7 (by decide) (fun h => absurd h (by decide +kernel)) (fun _ => ?_)
  refine lv_aload_n hx hb d_WM_coinsOfMen_10 rfl (lv_at hl 3 rfl) ?_
  refine va_get (D := (dC, dI)) (ci := 0) (v := .ref (a 6)) (C := R_WM) (T := F_WM) (N := 13) hx hb htb i_WM hown hK hP 0 rfl rfl 1 (by decide) (htb (.fieldLink R_WM 18 "WaterMen" "men" "[LWaterMen$Man;") tw_70) (fun _ h9 => h9) rfl d_WM_coinsOfMen_11 ?_
  refine lv_iload_n hx hb d_WM_coinsOfMen_14 rfl (lv_at hl 0 rfl) ?_
  refine va_aldq hx hb hK hP 6 4 rfl rfl (by unfold vp_in; decide +kernel) d_WM_coinsOfMen_15 ?_
  obtain ⟨q_101, x_102, hq_103, hk_104⟩ := xw_man (a := a) (k := k) (i := 25) hL (by unfold vp_in; decide +kernel)
  refine hb_tv (.ref q_101) (by show va_rf (L[_]?) = _; rw [hq_103]; rfl) ?_
  refine lv_astore_n (lv' := [(3, .ref q_101), (2, .int 25), (1, .int 0), (0, .ref (a 0))]) hx hb d_WM_coinsOfMen_16 rfl hl (by decide) rfl (fun ls hl => ?_)
  refine lv_iload_n hx hb d_WM_coinsOfMen_17 rfl (lv_at hl 2 rfl) ?_
  refine lv_aload_n hx hb d_WM_coinsOfMen_18 rfl (lv_at hl 0 rfl) ?_
  refine lv_ifnonnull (tgt := 26) hx hb d_WM_coinsOfMen_19 (by decide) ?_
  refine lv_aload_n hx hb d_WM_coinsOfMen_26 rfl (lv_at hl 0 rfl) ?_
  refine va_get (D := (dC, dI)) (ci := 2) (v := .int 0) (C := R_Mn) (T := F_Mn) (N := 8) hx hb htb i_Mn hown hK hP x_102 hk_104 rfl 4 (by decide) (htb (.fieldLink R_WM 152 "WaterMen$Man" "coins" "I") tw_171) (fun _ h9 => h9) rfl d_WM_coinsOfMen_27 ?_
  refine lv_iadd hx hb d_WM_coinsOfMen_30 ?_
  refine hb_ti 0 (by decide +kernel) ?_
  refine lv_istore_n (lv' := [(1, .int 0), (3, .ref q_101), (2, .int 25), (0, .ref (a 0))]) hx hb d_WM_coinsOfMen_31 rfl hl (by decide) rfl (fun ls hl => ?_)
  refine lv_iinc (v := 26) (lv' := [(2, .int 26), (1, .int 0), (3, .ref q_101), (0, .ref (a 0))]) hx hb d_WM_coinsOfMen_32 hl (k := 2) rfl (by decide +kernel) (by decide) rfl (fun ls hl => ?_)
  refine lv_goto (tgt := 4) hx hb d_WM_coinsOfMen_35 (by decide) ?_
  refine lv_iload_n hx hb d_WM_coinsOfMen_4 rfl (lv_at hl 0 rfl) ?_
  refine lv_bipush (v := 40) hx hb d_WM_coinsOfMen_5 (by decide +kernel) ?_
  refine lv_icmp_ge (tgt := 38) hx hb d_WM_coinsOfMen_7 (by decide) (fun h => absurd h (by decide +kernel)) (fun _ => ?_)
  refine lv_aload_n hx hb d_WM_coinsOfMen_10 rfl (lv_at hl 3 rfl) ?_
  refine va_get (D := (dC, dI)) (ci := 0) (v := .ref (a 6)) (C := R_WM) (T := F_WM) (N := 13) hx hb htb i_WM hown hK hP 0 rfl rfl 1 (by decide) (htb (.fieldLink R_WM 18 "WaterMen" "men" "[LWaterMen$Man;") tw_70) (fun _ h9 => h9) rfl d_WM_coinsOfMen_11 ?_
  refine lv_iload_n hx hb d_WM_coinsOfMen_14 rfl (lv_at hl 0 rfl) ?_
  refine va_aldq hx hb hK hP 6 4 rfl rfl (by unfold vp_in; decide +kernel) d_WM_coinsOfMen_15 ?_
  obtain ⟨q_105, x_106, hq_107, hk_108⟩ := xw_man (a := a) (k := k) (i := 26) hL (by unfold vp_in; decide +kernel)
  refine hb_tv (.ref q_105) (by show va_rf (L[_]?) = _; rw [hq_107]; rfl) ?_
  refine lv_astore_n (lv' := [(3, .ref q_105), (2, .int 26), (1, .int 0), (0, .ref (a 0))]) hx hb d_WM_coinsOfMen_16 rfl hl (by decide) rfl (fun ls hl => ?_)
  refine lv_iload_n hx hb d_WM_coinsOfMen_17 rfl (lv_at hl 2 rfl) ?_
  refine lv_aload_n hx hb d_WM_coinsOfMen_18 rfl (lv_at hl 0 rfl) ?_
  refine lv_ifnonnull (tgt := 26) hx hb d_WM_coinsOfMen_19 (by decide) ?_
  refine lv_aload_n hx hb d_WM_coinsOfMen_26 rfl (lv_at hl 0 rfl) ?_
  refine va_get (D := (dC, dI)) (ci := 2) (v := .int 0) (C := R_Mn) (T := F_Mn) (N := 8) hx hb htb i_Mn hown hK hP x_106 hk_108 rfl 4 (by decide) (htb (.fieldLink R_WM 152 "WaterMen$Man" "coins" "I") tw_171) (fun _ h9 => h9) rfl d_WM_coinsOfMen_27 ?_
  refine lv_iadd hx hb d_WM_coinsOfMen_30 ?_
  refine hb_ti 0 (by decide +kernel) ?_
  refine lv_istore_n (lv' := [(1, .int 0), (3, .ref q_105), (2, .int 26), (0, .ref (a 0))]) hx hb d_WM_coinsOfMen_31 rfl hl (by decide) rfl (fun ls hl => ?_)
  refine lv_iinc (v := 27) (lv' := [(2, .int 27), (1, .int 0), (3, .ref q_105), (0, .ref (a 0))]) hx hb d_WM_coinsOfMen_32 hl (k := 2) rfl (by decide +kernel) (by decide) rfl (fun ls hl => ?_)
  refine lv_goto (tgt := 4) hx hb d_WM_coinsOfMen_35 (by decide) ?_
  refine lv_iload_n hx hb d_WM_coinsOfMen_4 rfl (lv_at hl 0 rfl) ?_
  refine lv_bipush (v := 40) hx hb d_WM_coinsOfMen_5 (by decide +kernel) ?_
  refine lv_icmp_ge (tgt := 38) hx hb d_WM_coinsOfMen_7 (by decide) (fun h => absurd h (by decide +kernel)) (fun _ => ?_)
  refine lv_aload_n hx hb d_WM_coinsOfMen_10 rfl (lv_at hl 3 rfl) ?_
  refine va_get (D := (dC, dI)) (ci := 0) (v := .ref (a 6)) (C := R_WM) (T := F_WM) (N := 13) hx hb htb i_WM hown hK hP 0 rfl rfl 1 (by decide) (htb (.fieldLink R_WM 18 "WaterMen" "men" "[LWaterMen$Man;") tw_70) (fun _ h9 => h9) rfl d_WM_coinsOfMen_11 ?_
  refine lv_iload_n hx hb d_WM_coinsOfMen_14 rfl (lv_at hl 0 rfl) ?_
  refine va_aldq hx hb hK hP 6 4 rfl rfl (by unfold vp_in; decide +kernel) d_WM_coinsOfMen_15 ?_
  obtain ⟨q_109, x_110, hq_111, hk_112⟩ := xw_man (a := a) (k := k) (i := 27) hL (by unfold vp_in; decide +kernel)
  refine hb_tv (.ref q_109) (by show va_rf (L[_]?) = _; rw [hq_111]; rfl) ?_
  refine lv_astore_n (lv' := [(3, .ref q_109), (2, .int 27), (1, .int 0), (0, .ref (a 0))]) hx hb d_WM_coinsOfMen_16 rfl hl (by decide) rfl (fun ls hl => ?_)
  refine lv_iload_n hx hb d_WM_coinsOfMen_17 rfl (lv_at hl 2 rfl) ?_
  refine lv_aload_n hx hb d_WM_coinsOfMen_18 rfl (lv_at hl 0 rfl) ?_
  refine lv_ifnonnull (tgt := 26) hx hb d_WM_coinsOfMen_19 (by decide) ?_
  refine lv_aload_n hx hb d_WM_coinsOfMen_26 rfl (lv_at hl 0 rfl) ?_
  refine va_get (D := (dC, dI)) (ci := 2) (v := .int 0) (C := R_Mn) (T := F_Mn) (N := 8) hx hb htb i_Mn hown hK hP x_110 hk_112 rfl 4 (by decide) (htb (.fieldLink R_WM 152 "WaterMen$Man" "coins" "I") tw_171) (fun _ h9 => h9) rfl d_WM_coinsOfMen_27 ?_
  refine lv_iadd hx hb d_WM_coinsOfMen_30 ?_
  refine hb_ti 0 (by decide +kernel) ?_
  refine lv_istore_n (lv' := [(1, .int 0), (3, .ref q_109), (2, .int 27), (0, .ref (a 0))]) hx hb d_WM_coinsOfMen_31 rfl hl (by decide) rfl (fun ls hl => ?_)
  refine lv_iinc (v := 28) (lv' := [(2, .int 28), (1, .int 0), (3, .ref q_109), (0, .ref (a 0))]) hx hb d_WM_coinsOfMen_32 hl (k := 2) rfl (by decide +kernel) (by decide) rfl (fun ls hl => ?_)
  refine lv_goto (tgt := 4) hx hb d_WM_coinsOfMen_35 (by decide) ?_
  refine lv_iload_n hx hb d_WM_coinsOfMen_4 rfl (lv_at hl 0 rfl) ?_
  refine lv_bipush (v := 40) hx hb d_WM_coinsOfMen_5 (by decide +kernel) ?_
  refine lv_icmp_ge (tgt := 38) hx hb d_WM_coinsOfMen_7 (by decide) (fun h => absurd h (by decide +kernel)) (fun _ => ?_)
  refine lv_aload_n hx hb d_WM_coinsOfMen_10 rfl (lv_at hl 3 rfl) ?_
  refine va_get (D := (dC, dI)) (ci := 0) (v := .ref (a 6)) (C := R_WM) (T := F_WM) (N := 13) hx hb htb i_WM hown hK hP 0 rfl rfl 1 (by decide) (htb (.fieldLink R_WM 18 "WaterMen" "men" "[LWaterMen$Man;") tw_70) (fun _ h9 => h9) rfl d_WM_coinsOfMen_11 ?_
  refine lv_iload_n hx hb d_WM_coinsOfMen_14 rfl (lv_at hl 0 rfl) ?_
  refine va_aldq hx hb hK hP 6 4 rfl rfl (by unfold vp_in; decide +kernel) d_WM_coinsOfMen_15 ?_
  obtain ⟨q_113, x_114, hq_115, hk_116⟩ := xw_man (a := a) (k := k) (i := 28) hL (by unfold vp_in; decide +kernel)
  refine hb_tv (.ref q_113) (by show va_rf (L[_]?) = _; rw [hq_115]; rfl) ?_
  refine lv_astore_n (lv' := [(3, .ref q_113), (2, .int 28), (1, .int 0), (0, .ref (a 0))]) hx hb d_WM_coinsOfMen_16 rfl hl (by decide) rfl (fun ls hl => ?_)
  refine lv_iload_n hx hb d_WM_coinsOfMen_17 rfl (lv_at hl 2 rfl) ?_
  refine lv_aload_n hx hb d_WM_coinsOfMen_18 rfl (lv_at hl 0 rfl) ?_
  refine lv_ifnonnull (tgt := 26) hx hb d_WM_coinsOfMen_19 (by decide) ?_
  refine lv_aload_n hx hb d_WM_coinsOfMen_26 rfl (lv_at hl 0 rfl) ?_
  refine va_get (D := (dC, dI)) (ci := 2) (v := .int 0) (C := R_Mn) (T := F_Mn) (N := 8) hx hb htb i_Mn hown hK hP x_114 hk_116 rfl 4 (by decide) (htb (.fieldLink R_WM 152 "WaterMen$Man" "coins" "I") tw_171) (fun _ h9 => h9) rfl d_WM_coinsOfMen_27 ?_
  refine lv_iadd hx hb d_WM_coinsOfMen_30 ?_
  refine hb_ti 0 (by decide +kernel) ?_
  refine lv_istore_n (lv' := [(1, .int 0), (3, .ref q_113), (2, .int 28), (0, .ref (a 0))]) hx hb d_WM_coinsOfMen_31 rfl hl (by decide) rfl (fun ls hl => ?_)
  refine lv_iinc (v := 29) (lv' := [(2, .int 29), (1, .int 0), (3, .ref q_113), (0, .ref (a 0))]) hx hb d_WM_coinsOfMen_32 hl (k := 2) rfl (by decide +kernel) (by decide) rfl (fun ls hl => ?_)
  refine lv_goto (tgt := 4) hx hb d_WM_coinsOfMen_35 (by decide) ?_
  refine lv_iload_n hx hb d_WM_coinsOfMen_4 rfl (lv_at hl 0 rfl) ?_
  refine lv_bipush (v := 40) hx hb d_WM_coinsOfMen_5 (by decide +kernel) ?_
  refine lv_icmp_ge (tgt := 38) hx hb d_WM_coinsOfMen_7 (by decide) (fun h => absurd h (by decide +kernel)) (fun _ => ?_)
  refine lv_aload_n hx hb d_WM_coinsOfMen_10 rfl (lv_at hl 3 rfl) ?_
  refine va_get (D := (dC, dI)) (ci := 0) (v := .ref (a 6)) (C := R_WM) (T := F_WM) (N := 13) hx hb htb i_WM hown hK hP 0 rfl rfl 1 (by decide) (htb (.fieldLink R_WM 18 "WaterMen" "men" "[LWaterMen$Man;") tw_70) (fun _ h9 => h9) rfl d_WM_coinsOfMen_11 ?_
  refine lv_iload_n hx hb d_WM_coinsOfMen_14 rfl (lv_at hl 0 rfl) ?_
  refine va_aldq hx hb hK hP 6 4 rfl rfl (by unfold vp_in; decide +kernel) d_WM_coinsOfMen_15 ?_
  obtain ⟨q_117, x_118, hq_119, hk_120⟩ := xw_man (a := a) (k := k) (i := 29) hL (by unfold vp_in; decide +kernel)
  refine hb_tv (.ref q_117) (by show va_rf (L[_]?) = _; rw [hq_119]; rfl) ?_
  refine lv_astore_n (lv' := [(3, .ref q_117), (2, .int 29), (1, .int 0), (0, .ref (a 0))]) hx hb d_WM_coinsOfMen_16 rfl hl (by decide) rfl (fun ls hl => ?_)
  refine lv_iload_n hx hb d_WM_coinsOfMen_17 rfl (lv_at hl 2 rfl) ?_
  refine lv_aload_n hx hb d_WM_coinsOfMen_18 rfl (lv_at hl 0 rfl) ?_
  refine lv_ifnonnull (tgt := 26) hx hb d_WM_coinsOfMen_19 (by decide) ?_
  refine lv_aload_n hx hb d_WM_coinsOfMen_26 rfl (lv_at hl 0 rfl) ?_
  refine va_get (D := (dC, dI)) (ci := 2) (v := .int 0) (C := R_Mn) (T := F_Mn) (N := 8) hx hb htb i_Mn hown hK hP x_118 hk_120 rfl 4 (by decide) (htb (.fieldLink R_WM 152 "WaterMen$Man" "coins" "I") tw_171) (fun _ h9 => h9) rfl d_WM_coinsOfMen_27 ?_
  refine lv_iadd hx hb d_WM_coinsOfMen_30 ?_
  refine hb_ti 0 (by decide +kernel) ?_
  refine lv_istore_n (lv' := [(1, .int 0), (3, .ref q_117), (2, .int 29), (0, .ref (a 0))]) hx hb d_WM_coinsOfMen_31 rfl hl (by decide) rfl (fun ls hl => ?_)
  refine lv_iinc (v := 30) (lv' := [(2, .int 30), (1, .int 0), (3, .ref q_117), (0, .ref (a 0))]) hx hb d_WM_coinsOfMen_32 hl (k := 2) rfl (by decide +kernel) (by decide) rfl (fun ls hl => ?_)
  refine lv_goto (tgt := 4) hx hb d_WM_coinsOfMen_35 (by decide) ?_
  refine lv_iload_n hx hb d_WM_coinsOfMen_4 rfl (lv_at hl 0 rfl) ?_
  refine lv_bipush (v := 40) hx hb d_WM_coinsOfMen_5 (by decide +kernel) ?_
  refine lv_icmp_ge (tgt := 38) hx hb d_WM_coinsOfMen_7 (by decide) (fun h => absurd h (by decide +kernel)) (fun _ => ?_)
  refine lv_aload_n hx hb d_WM_coinsOfMen_10 rfl (lv_at hl 3 rfl) ?_
  refine va_get (D := (dC, dI)) (ci := 0) (v := .ref (a 6)) (C := R_WM) (T := F_WM) (N := 13) hx hb htb i_WM hown hK hP 0 rfl rfl 1 (by decide) (htb (.fieldLink R_WM 18 "WaterMen" "men" "[LWaterMen$Man;") tw_70) (fun _ h9 => h9) rfl d_WM_coinsOfMen_11 ?_
  refine lv_iload_n hx hb d_WM_coinsOfMen_14 rfl (lv_at hl 0 rfl) ?_
  refine va_aldq hx hb hK hP 6 4 rfl rfl (by unfold vp_in; decide +kernel) d_WM_coinsOfMen_15 ?_
  obtain ⟨q_121, x_122, hq_123, hk_124⟩ := xw_man (a := a) (k := k) (i := 30) hL (by unfold vp_in; decide +kernel)
  refine hb_tv (.ref q_121) (by show va_rf (L[_]?) = _; rw [hq_123]; rfl) ?_
  refine lv_astore_n (lv' := [(3, .ref q_121), (2, .int 30), (1, .int 0), (0, .ref (a 0))]) hx hb d_WM_coinsOfMen_16 rfl hl (by decide) rfl (fun ls hl => ?_)
  refine lv_iload_n hx hb d_WM_coinsOfMen_17 rfl (lv_at hl 2 rfl) ?_
  refine lv_aload_n hx hb d_WM_coinsOfMen_18 rfl (lv_at hl 0 rfl) ?_
  refine lv_ifnonnull (tgt := 26) hx hb d_WM_coinsOfMen_19 (by decide) ?_
  refine lv_aload_n hx hb d_WM_coinsOfMen_26 rfl (lv_at hl 0 rfl) ?_
  refine va_get (D := (dC, dI)) (ci := 2) (v := .int 0) (C := R_Mn) (T := F_Mn) (N := 8) hx hb htb i_Mn hown hK hP x_122 hk_124 rfl 4 (by decide) (htb (.fieldLink R_WM 152 "WaterMen$Man" "coins" "I") tw_171) (fun _ h9 => h9) rfl d_WM_coinsOfMen_27 ?_
  refine lv_iadd hx hb d_WM_coinsOfMen_30 ?_
  refine hb_ti 0 (by decide +kernel) ?_
  refine lv_istore_n (lv' := [(1, .int 0), (3, .ref q_121), (2, .int 30), (0, .ref (a 0))]) hx hb d_WM_coinsOfMen_31 rfl hl (by decide) rfl (fun ls hl => ?_)
  refine lv_iinc (v := 31) (lv' := [(2, .int 31), (1, .int 0), (3, .ref q_121), (0, .ref (a 0))]) hx hb d_WM_coinsOfMen_32 hl (k := 2) rfl (by decide +kernel) (by decide) rfl (fun ls hl => ?_)
  refine lv_goto (tgt := 4) hx hb d_WM_coinsOfMen_35 (by decide) ?_
  refine lv_iload_n hx hb d_WM_coinsOfMen_4 rfl (lv_at hl 0 rfl) ?_
  refine lv_bipush (v := 40) hx hb d_WM_coinsOfMen_5 (by decide +kernel) ?_
  refine lv_icmp_ge (tgt := 38) hx hb d_WM_coinsOfMen_7 (by decide) (fun h => absurd h (by decide +kernel)) (fun _ => ?_)
  refine lv_aload_n hx hb d_WM_coinsOfMen_10 rfl (lv_at hl 3 rfl) ?_
  refine va_get (D := (dC, dI)) (ci := 0) (v := .ref (a 6)) (C := R_WM) (T := F_WM) (N := 13) hx hb htb i_WM hown hK hP 0 rfl rfl 1 (by decide) (htb (.fieldLink R_WM 18 "WaterMen" "men" "[LWaterMen$Man;") tw_70) (fun _ h9 => h9) rfl d_WM_coinsOfMen_11 ?_
  refine lv_iload_n hx hb d_WM_coinsOfMen_14 rfl (lv_at hl 0 rfl) ?_
  refine va_aldq hx hb hK hP 6 4 rfl rfl (by unfold vp_in; decide +kernel) d_WM_coinsOfMen_15 ?_
  obtain ⟨q_125, x_126, hq_127, hk_128⟩ := xw_man (a := a) (k := k) (i := 31) hL (by unfold vp_in; decide +kernel)
  refine hb_tv (.ref q_125) (by show va_rf (L[_]?) = _; rw [hq_127]; rfl) ?_
  refine lv_astore_n (lv' := [(3, .ref q_125), (2, .int 31), (1, .int 0), (0, .ref (a 0))]) hx hb d_WM_coinsOfMen_16 rfl hl (by decide) rfl (fun ls hl => ?_)
  refine lv_iload_n hx hb d_WM_coinsOfMen_17 rfl (lv_at hl 2 rfl) ?_
  refine lv_aload_n hx hb d_WM_coinsOfMen_18 rfl (lv_at hl 0 rfl) ?_
  refine lv_ifnonnull (tgt := 26) hx hb d_WM_coinsOfMen_19 (by decide) ?_
  refine lv_aload_n hx hb d_WM_coinsOfMen_26 rfl (lv_at hl 0 rfl) ?_
  refine va_get (D := (dC, dI)) (ci := 2) (v := .int 0) (C := R_Mn) (T := F_Mn) (N := 8) hx hb htb i_Mn hown hK hP x_126 hk_128 rfl 4 (by decide) (htb (.fieldLink R_WM 152 "WaterMen$Man" "coins" "I") tw_171) (fun _ h9 => h9) rfl d_WM_coinsOfMen_27 ?_
  refine lv_iadd hx hb d_WM_coinsOfMen_30 ?_
  refine hb_ti 0 (by decide +kernel) ?_
  refine lv_istore_n (lv' := [(1, .int 0), (3, .ref q_125), (2, .int 31), (0, .ref (a 0))]) hx hb d_WM_coinsOfMen_31 rfl hl (by decide) rfl (fun ls hl => ?_)
  refine lv_iinc (v := 32) (lv' := [(2, .int 32), (1, .int 0), (3, .ref q_125), (0, .ref (a 0))]) hx hb d_WM_coinsOfMen_32 hl (k := 2) rfl (by decide +kernel) (by decide) rfl (fun ls hl => ?_)
  refine lv_goto (tgt := 4) hx hb d_WM_coinsOfMen_35 (by decide) ?_
  refine lv_iload_n hx hb d_WM_coinsOfMen_4 rfl (lv_at hl 0 rfl) ?_
  refine lv_bipush (v := 40) hx hb d_WM_coinsOfMen_5 (by decide +kernel) ?_
  refine lv_icmp_ge (tgt := 38) hx hb d_WM_coinsOfMen_7 (by decide) (fun h => absurd h (by decide +kernel)) (fun _ => ?_)
  refine lv_aload_n hx hb d_WM_coinsOfMen_10 rfl (lv_at hl 3 rfl) ?_
  refine va_get (D := (dC, dI)) (ci := 0) (v := .ref (a 6)) (C := R_WM) (T := F_WM) (N := 13) hx hb htb i_WM hown hK hP 0 rfl rfl 1 (by decide) (htb (.fieldLink R_WM 18 "WaterMen" "men" "[LWaterMen$Man;") tw_70) (fun _ h9 => h9) rfl d_WM_coinsOfMen_11 ?_
  refine lv_iload_n hx hb d_WM_coinsOfMen_14 rfl (lv_at hl 0 rfl) ?_
  refine va_aldq hx hb hK hP 6 4 rfl rfl (by unfold vp_in; decide +kernel) d_WM_coinsOfMen_15 ?_
  obtain ⟨q_129, x_130, hq_131, hk_132⟩ := xw_man (a := a) (k := k) (i := 32) hL (by unfold vp_in; decide +kernel)
  refine hb_tv (.ref q_129) (by show va_rf (L[_]?) = _; rw [hq_131]; rfl) ?_
  refine lv_astore_n (lv' := [(3, .ref q_129), (2, .int 32), (1, .int 0), (0, .ref (a 0))]) hx hb d_WM_coinsOfMen_16 rfl hl (by decide) rfl (fun ls hl => ?_)
  refine lv_iload_n hx hb d_WM_coinsOfMen_17 rfl (lv_at hl 2 rfl) ?_
  refine lv_aload_n hx hb d_WM_coinsOfMen_18 rfl (lv_at hl 0 rfl) ?_
  refine lv_ifnonnull (tgt := 26) hx hb d_WM_coinsOfMen_19 (by decide) ?_
  refine lv_aload_n hx hb d_WM_coinsOfMen_26 rfl (lv_at hl 0 rfl) ?_
  refine va_get (D := (dC, dI)) (ci := 2) (v := .int 0) (C := R_Mn) (T := F_Mn) (N := 8) hx hb htb i_Mn hown hK hP x_130 hk_132 rfl 4 (by decide) (htb (.fieldLink R_WM 152 "WaterMen$Man" "coins" "I") tw_171) (fun _ h9 => h9) rfl d_WM_coinsOfMen_27 ?_
  refine lv_iadd hx hb d_WM_coinsOfMen_30 ?_
  refine hb_ti 0 (by decide +kernel) ?_
  refine lv_istore_n (lv' := [(1, .int 0), (3, .ref q_129), (2, .int 32), (0, .ref (a 0))]) hx hb d_WM_coinsOfMen_31 rfl hl (by decide) rfl (fun ls hl => ?_)
  refine lv_iinc (v := 33) (lv' := [(2, .int 33), (1, .int 0), (3, .ref q_129), (0, .ref (a 0))]) hx hb d_WM_coinsOfMen_32 hl (k := 2) rfl (by decide +kernel) (by decide) rfl (fun ls hl => ?_)
  refine lv_goto (tgt := 4) hx hb d_WM_coinsOfMen_35 (by decide) ?_
  refine lv_iload_n hx hb d_WM_coinsOfMen_4 rfl (lv_at hl 0 rfl) ?_
  refine lv_bipush (v := 40) hx hb d_WM_coinsOfMen_5 (by decide +kernel) ?_
  refine lv_icmp_ge (tgt := 38) hx hb d_WM_coinsOfMen_7 (by decide) (fun h => absurd h (by decide +kernel)) (fun _ => ?_)
  refine lv_aload_n hx hb d_WM_coinsOfMen_10 rfl (lv_at hl 3 rfl) ?_
  refine va_get (D := (dC, dI)) (ci := 0) (v := .ref (a 6)) (C := R_WM) (T := F_WM) (N := 13) hx hb htb i_WM hown hK hP 0 rfl rfl 1 (by decide) (htb (.fieldLink R_WM 18 "WaterMen" "men" "[LWaterMen$Man;") tw_70) (fun _ h9 => h9) rfl d_WM_coinsOfMen_11 ?_
  refine lv_iload_n hx hb d_WM_coinsOfMen_14 rfl (lv_at hl 0 rfl) ?_
  refine va_aldq hx hb hK hP 6 4 rfl rfl (by unfold vp_in; decide +kernel) d_WM_coinsOfMen_15 ?_
  obtain ⟨q_133, x_134, hq_135, hk_136⟩ := xw_man (a := a) (k := k) (i := 33) hL (by unfold vp_in; decide +kernel)
  refine hb_tv (.ref q_133) (by show va_rf (L[_]?) = _; rw [hq_135]; rfl) ?_
  refine lv_astore_n (lv' := [(3, .ref q_133), (2, .int 33), (1, .int 0), (0, .ref (a 0))]) hx hb d_WM_coinsOfMen_16 rfl hl (by decide) rfl (fun ls hl => ?_)
  refine lv_iload_n hx hb d_WM_coinsOfMen_17 rfl (lv_at hl 2 rfl) ?_
  refine lv_aload_n hx hb d_WM_coinsOfMen_18 rfl (lv_at hl 0 rfl) ?_
  refine lv_ifnonnull (tgt := 26) hx hb d_WM_coinsOfMen_19 (by decide) ?_
  refine lv_aload_n hx hb d_WM_coinsOfMen_26 rfl (lv_at hl 0 rfl) ?_
  refine va_get (D := (dC, dI)) (ci := 2) (v := .int 0) (C := R_Mn) (T := F_Mn) (N := 8) hx hb htb i_Mn hown hK hP x_134 hk_136 rfl 4 (by decide) (htb (.fieldLink R_WM 152 "WaterMen$Man" "coins" "I") tw_171) (fun _ h9 => h9) rfl d_WM_coinsOfMen_27 ?_
  refine lv_iadd hx hb d_WM_coinsOfMen_30 ?_
  refine hb_ti 0 (by decide +kernel) ?_
  refine lv_istore_n (lv' := [(1, .int 0), (3, .ref q_133), (2, .int 33), (0, .ref (a 0))]) hx hb d_WM_coinsOfMen_31 rfl hl (by decide) rfl (fun ls hl => ?_)
  refine lv_iinc (v := 34) (lv' := [(2, .int 34), (1, .int 0), (3, .ref q_133), (0, .ref (a 0))]) hx hb d_WM_coinsOfMen_32 hl (k := 2) rfl (by decide +kernel) (by decide) rfl (fun ls hl => ?_)
  refine lv_goto (tgt := 4) hx hb d_WM_coinsOfMen_35 (by decide) ?_
  refine lv_iload_n hx hb d_WM_coinsOfMen_4 rfl (lv_at hl 0 rfl) ?_
  refine lv_bipush (v := 40) hx hb d_WM_coinsOfMen_5 (by decide +kernel) ?_
  refine lv_icmp_ge (tgt := 38) hx hb d_WM_coinsOfMen_7 (by decide) (fun h => absurd h (by decide +kernel)) (fun _ => ?_)
  refine lv_aload_n hx hb d_WM_coinsOfMen_10 rfl (lv_at hl 3 rfl) ?_
  refine va_get (D := (dC, dI)) (ci := 0) (v := .ref (a 6)) (C := R_WM) (T := F_WM) (N := 13) hx hb htb i_WM hown hK hP 0 rfl rfl 1 (by decide) (htb (.fieldLink R_WM 18 "WaterMen" "men" "[LWaterMen$Man;") tw_70) (fun _ h9 => h9) rfl d_WM_coinsOfMen_11 ?_
  refine lv_iload_n hx hb d_WM_coinsOfMen_14 rfl (lv_at hl 0 rfl) ?_
  refine va_aldq hx hb hK hP 6 4 rfl rfl (by unfold vp_in; decide +kernel) d_WM_coinsOfMen_15 ?_
  obtain ⟨q_137, x_138, hq_139, hk_140⟩ := xw_man (a := a) (k := k) (i := 34) hL (by unfold vp_in; decide +kernel)
  refine hb_tv (.ref q_137) (by show va_rf (L[_]?) = _; rw [hq_139]; rfl) ?_
  refine lv_astore_n (lv' := [(3, .ref q_137), (2, .int 34), (1, .int 0), (0, .ref (a 0))]) hx hb d_WM_coinsOfMen_16 rfl hl (by decide) rfl (fun ls hl => ?_)
  refine lv_iload_n hx hb d_WM_coinsOfMen_17 rfl (lv_at hl 2 rfl) ?_
  refine lv_aload_n hx hb d_WM_coinsOfMen_18 rfl (lv_at hl 0 rfl) ?_
  refine lv_ifnonnull (tgt := 26) hx hb d_WM_coinsOfMen_19 (by decide) ?_
  refine lv_aload_n hx hb d_WM_coinsOfMen_26 rfl (lv_at hl 0 rfl) ?_
  refine va_get (D := (dC, dI)) (ci := 2) (v := .int 0) (C := R_Mn) (T := F_Mn) (N := 8) hx hb htb i_Mn hown hK hP x_138 hk_140 rfl 4 (by decide) (htb (.fieldLink R_WM 152 "WaterMen$Man" "coins" "I") tw_171) (fun _ h9 => h9) rfl d_WM_coinsOfMen_27 ?_
  refine lv_iadd hx hb d_WM_coinsOfMen_30 ?_
  refine hb_ti 0 (by decide +kernel) ?_
  refine lv_istore_n (lv' := [(1, .int 0), (3, .ref q_137), (2, .int 34), (0, .ref (a 0))]) hx hb d_WM_coinsOfMen_31 rfl hl (by decide) rfl (fun ls hl => ?_)
  refine lv_iinc (v := 35) (lv' := [(2, .int 35), (1, .int 0), (3, .ref q_137), (0, .ref (a 0))]) hx hb d_WM_coinsOfMen_32 hl (k := 2) rfl (by decide +kernel) (by decide) rfl (fun ls hl => ?_)
  refine lv_goto (tgt := 4) hx hb d_WM_coinsOfMen_35 (by decide) ?_
  refine lv_iload_n hx hb d_WM_coinsOfMen_4 rfl (lv_at hl 0 rfl) ?_
  refine lv_bipush (v := 40) hx hb d_WM_coinsOfMen_5 (by decide +kernel) ?_
  refine lv_icmp_ge (tgt := 38) hx hb d_WM_coinsOfMen_7 (by decide) (fun h => absurd h (by decide +kernel)) (fun _ => ?_)
  refine lv_aload_n hx hb d_WM_coinsOfMen_10 rfl (lv_at hl 3 rfl) ?_
  refine va_get (D := (dC, dI)) (ci := 0) (v := .ref (a 6)) (C := R_WM) (T := F_WM) (N := 13) hx hb htb i_WM hown hK hP 0 rfl rfl 1 (by decide) (htb (.fieldLink R_WM 18 "WaterMen" "men" "[LWaterMen$Man;") tw_70) (fun _ h9 => h9) rfl d_WM_coinsOfMen_11 ?_
  refine lv_iload_n hx hb d_WM_coinsOfMen_14 rfl (lv_at hl 0 rfl) ?_
  refine va_aldq hx hb hK hP 6 4 rfl rfl (by unfold vp_in; decide +kernel) d_WM_coinsOfMen_15 ?_
  obtain ⟨q_141, x_142, hq_143, hk_144⟩ := xw_man (a := a) (k := k) (i := 35) hL (by unfold vp_in; decide +kernel)
  refine hb_tv (.ref q_141) (by show va_rf (L[_]?) = _; rw [hq_143]; rfl) ?_
  refine lv_astore_n (lv' := [(3, .ref q_141), (2, .int 35), (1, .int 0), (0, .ref (a 0))]) hx hb d_WM_coinsOfMen_16 rfl hl (by decide) rfl (fun ls hl => ?_)
  refine lv_iload_n hx hb d_WM_coinsOfMen_17 rfl (lv_at hl 2 rfl) ?_
  refine lv_aload_n hx hb d_WM_coinsOfMen_18 rfl (lv_at hl 0 rfl) ?_
  refine lv_ifnonnull (tgt := 26) hx hb d_WM_coinsOfMen_19 (by decide) ?_
  refine lv_aload_n hx hb d_WM_coinsOfMen_26 rfl (lv_at hl 0 rfl) ?_
  refine va_get (D := (dC, dI)) (ci := 2) (v := .int 0) (C := R_Mn) (T := F_Mn) (N := 8) hx hb htb i_Mn hown hK hP x_142 hk_144 rfl 4 (by decide) (htb (.fieldLink R_WM 152 "WaterMen$Man" "coins" "I") tw_171) (fun _ h9 => h9) rfl d_WM_coinsOfMen_27 ?_
  refine lv_iadd hx hb d_WM_coinsOfMen_30 ?_
  refine hb_ti 0 (by decide +kernel) ?_
  refine lv_istore_n (lv' := [(1, .int 0), (3, .ref q_141), (2, .int 35), (0, .ref (a 0))]) hx hb d_WM_coinsOfMen_31 rfl hl (by decide) rfl (fun ls hl => ?_)
  refine lv_iinc (v := 36) (lv' := [(2, .int 36), (1, .int 0), (3, .ref q_141), (0, .ref (a 0))]) hx hb d_WM_coinsOfMen_32 hl (k := 2) rfl (by decide +kernel) (by decide) rfl (fun ls hl => ?_)
  refine lv_goto (tgt := 4) hx hb d_WM_coinsOfMen_35 (by decide) ?_
  refine lv_iload_n hx hb d_WM_coinsOfMen_4 rfl (lv_at hl 0 rfl) ?_
  refine lv_bipush (v := 40) hx hb d_WM_coinsOfMen_5 (by decide +kernel) ?_
  refine lv_icmp_ge (tgt := 38) hx hb d_WM_coinsOfMen_7 (by decide) (fun h => absurd h (by decide +kernel)) (fun _ => ?_)
  refine lv_aload_n hx hb d_WM_coinsOfMen_10 rfl (lv_at hl 3 rfl) ?_
  refine va_get (D := (dC, dI)) (ci := 0) (v := .ref (a 6)) (C := R_WM) (T := F_WM) (N := 13) hx hb htb i_WM hown hK hP 0 rfl rfl 1 (by decide) (htb (.fieldLink R_WM 18 "WaterMen" "men" "[LWaterMen$Man;") tw_70) (fun _ h9 => h9) rfl d_WM_coinsOfMen_11 ?_
  refine lv_iload_n hx hb d_WM_coinsOfMen_14 rfl (lv_at hl 0 rfl) ?_
  refine va_aldq hx hb hK hP 6 4 rfl rfl (by unfold vp_in; decide +kernel) d_WM_coinsOfMen_15 ?_
  obtain ⟨q_145, x_146, hq_147, hk_148⟩ := xw_man (a := a) (k := k) (i := 36) hL (by unfold vp_in; decide +kernel)
  refine hb_tv (.ref q_145) (by show va_rf (L[_]?) = _; rw [hq_147]; rfl) ?_
  refine lv_astore_n (lv' := [(3, .ref q_145), (2, .int 36), (1, .int 0), (0, .ref (a 0))]) hx hb d_WM_coinsOfMen_16 rfl hl (by decide) rfl (fun ls hl => ?_)
  refine lv_iload_n hx hb d_WM_coinsOfMen_17 rfl (lv_at hl 2 rfl) ?_
  refine lv_aload_n hx hb d_WM_coinsOfMen_18 rfl (lv_at hl 0 rfl) ?_
  refine lv_ifnonnull (tgt := 26) hx hb d_WM_coinsOfMen_19 (by decide) ?_
  refine lv_aload_n hx hb d_WM_coinsOfMen_26 rfl (lv_at hl 0 rfl) ?_
  refine va_get (D := (dC, dI)) (ci := 2) (v := .int 0) (C := R_Mn) (T := F_Mn) (N := 8) hx hb htb i_Mn hown hK hP x_146 hk_148 rfl 4 (by decide) (htb (.fieldLink R_WM 152 "WaterMen$Man" "coins" "I") tw_171) (fun _ h9 => h9) rfl d_WM_coinsOfMen_27 ?_
  refine lv_iadd hx hb d_WM_coinsOfMen_30 ?_
  refine hb_ti 0 (by decide +kernel) ?_
  refine lv_istore_n (lv' := [(1, .int 0), (3, .ref q_145), (2, .int 36), (0, .ref (a 0))]) hx hb d_WM_coinsOfMen_31 rfl hl (by decide) rfl (fun ls hl => ?_)
  refine lv_iinc (v := 37) (lv' := [(2, .int 37), (1, .int 0), (3, .ref q_145), (0, .ref (a 0))]) hx hb d_WM_coinsOfMen_32 hl (k := 2) rfl (by decide +kernel) (by decide) rfl (fun ls hl => ?_)
  refine lv_goto (tgt := 4) hx hb d_WM_coinsOfMen_35 (by decide) ?_
  refine lv_iload_n hx hb d_WM_coinsOfMen_4 rfl (lv_at hl 0 rfl) ?_
  refine lv_bipush (v := 40) hx hb d_WM_coinsOfMen_5 (by decide +kernel) ?_
  refine lv_icmp_ge (tgt := 38) hx hb d_WM_coinsOfMen_7 (by decide) (fun h => absurd h (by decide +kernel)) (fun _ => ?_)
  refine lv_aload_n hx hb d_WM_coinsOfMen_10 rfl (lv_at hl 3 rfl) ?_
  refine va_get (D := (dC, dI)) (ci := 0) (v := .ref (a 6)) (C := R_WM) (T := F_WM) (N := 13) hx hb htb i_WM hown hK hP 0 rfl rfl 1 (by decide) (htb (.fieldLink R_WM 18 "WaterMen" "men" "[LWaterMen$Man;") tw_70) (fun _ h9 => h9) rfl d_WM_coinsOfMen_11 ?_
  refine lv_iload_n hx hb d_WM_coinsOfMen_14 rfl (lv_at hl 0 rfl) ?_
  refine va_aldq hx hb hK hP 6 4 rfl rfl (by unfold vp_in; decide +kernel) d_WM_coinsOfMen_15 ?_
  obtain ⟨q_149, x_150, hq_151, hk_152⟩ := xw_man (a := a) (k := k) (i := 37) hL (by unfold vp_in; decide +kernel)
  refine hb_tv (.ref q_149) (by show va_rf (L[_]?) = _; rw [hq_151]; rfl) ?_
  refine lv_astore_n (lv' := [(3, .ref q_149), (2, .int 37), (1, .int 0), (0, .ref (a 0))]) hx hb d_WM_coinsOfMen_16 rfl hl (by decide) rfl (fun ls hl => ?_)
  refine lv_iload_n hx hb d_WM_coinsOfMen_17 rfl (lv_at hl 2 rfl) ?_
  refine lv_aload_n hx hb d_WM_coinsOfMen_18 rfl (lv_at hl 0 rfl) ?_
  refine lv_ifnonnull (tgt := 26) hx hb d_WM_coinsOfMen_19 (by decide) ?_
  refine lv_aload_n hx hb d_WM_coinsOfMen_26 rfl (lv_at hl 0 rfl) ?_
  refine va_get (D := (dC, dI)) (ci := 2) (v := .int 0) (C := R_Mn) (T := F_Mn) (N := 8) hx hb htb i_Mn hown hK hP x_150 hk_152 rfl 4 (by decide) (htb (.fieldLink R_WM 152 "WaterMen$Man" "coins" "I") tw_171) (fun _ h9 => h9) rfl d_WM_coinsOfMen_27 ?_
  refine lv_iadd hx hb d_WM_coinsOfMen_30 ?_
  refine hb_ti 0 (by decide +kernel) ?_
  refine lv_istore_n (lv' := [(1, .int 0), (3, .ref q_149), (2, .int 37), (0, .ref (a 0))]) hx hb d_WM_coinsOfMen_31 rfl hl (by decide) rfl (fun ls hl => ?_)
  refine lv_iinc (v := 38) (lv' := [(2, .int 38), (1, .int 0), (3, .ref q_149), (0, .ref (a 0))]) hx hb d_WM_coinsOfMen_32 hl (k := 2) rfl (by decide +kernel) (by decide) rfl (fun ls hl => ?_)
  refine lv_goto (tgt := 4) hx hb d_WM_coinsOfMen_35 (by decide) ?_
  refine lv_iload_n hx hb d_WM_coinsOfMen_4 rfl (lv_at hl 0 rfl) ?_
  refine lv_bipush (v := 40) hx hb d_WM_coinsOfMen_5 (by decide +kernel) ?_
  refine lv_icmp_ge (tgt := 38) hx hb d_WM_coinsOfMen_7 (by decide) (fun h => absurd h (by decide +kernel)) (fun _ => ?_)
  refine lv_aload_n hx hb d_WM_coinsOfMen_10 rfl (lv_at hl 3 rfl) ?_
  refine va_get (D := (dC, dI)) (ci := 0) (v := .ref (a 6)) (C := R_WM) (T := F_WM) (N := 13) hx hb htb i_WM hown hK hP 0 rfl rfl 1 (by decide) (htb (.fieldLink R_WM 18 "WaterMen" "men" "[LWaterMen$Man;") tw_70) (fun _ h9 => h9) rfl d_WM_coinsOfMen_11 ?_
  refine lv_iload_n hx hb d_WM_coinsOfMen_14 rfl (lv_at hl 0 rfl) ?_
  refine va_aldq hx hb hK hP 6 4 rfl rfl (by unfold vp_in; decide +kernel) d_WM_coinsOfMen_15 ?_
  obtain ⟨q_153, x_154, hq_155, hk_156⟩ := xw_man (a := a) (k := k) (i := 38) hL (by unfold vp_in; decide +kernel)
  refine hb_tv (.ref q_153) (by show va_rf (L[_]?) = _; rw [hq_155]; rfl) ?_
  refine lv_astore_n (lv' := [(3, .ref q_153), (2, .int 38), (1, .int 0), (0, .ref (a 0))]) hx hb d_WM_coinsOfMen_16 rfl hl (by decide) rfl (fun ls hl => ?_)
  refine lv_iload_n hx hb d_WM_coinsOfMen_17 rfl (lv_at hl 2 rfl) ?_
  refine lv_aload_n hx hb d_WM_coinsOfMen_18 rfl (lv_at hl 0 rfl) ?_
  refine lv_ifnonnull (tgt := 26) hx hb d_WM_coinsOfMen_19 (by decide) ?_
  refine lv_aload_n hx hb d_WM_coinsOfMen_26 rfl (lv_at hl 0 rfl) ?_
  refine va_get (D := (dC, dI)) (ci := 2) (v := .int 0) (C := R_Mn) (T := F_Mn) (N := 8) hx hb htb i_Mn hown hK hP x_154 hk_156 rfl 4 (by decide) (htb (.fieldLink R_WM 152 "WaterMen$Man" "coins" "I") tw_171) (fun _ h9 => h9) rfl d_WM_coinsOfMen_27 ?_
  refine lv_iadd hx hb d_WM_coinsOfMen_30 ?_
  refine hb_ti 0 (by decide +kernel) ?_
  refine lv_istore_n (lv' := [(1, .int 0), (3, .ref q_153), (2, .int 38), (0, .ref (a 0))]) hx hb d_WM_coinsOfMen_31 rfl hl (by decide) rfl (fun ls hl => ?_)
  refine lv_iinc (v := 39) (lv' := [(2, .int 39), (1, .int 0), (3, .ref q_153), (0, .ref (a 0))]) hx hb d_WM_coinsOfMen_32 hl (k := 2) rfl (by decide +kernel) (by decide) rfl (fun ls hl => ?_)
  refine lv_goto (tgt := 4) hx hb d_WM_coinsOfMen_35 (by decide) ?_
  refine lv_iload_n hx hb d_WM_coinsOfMen_4 rfl (lv_at hl 0 rfl) ?_
  refine lv_bipush (v := 40) hx hb d_WM_coinsOfMen_5 (by decide +kernel) ?_
  refine lv_icmp_ge (tgt := 38) hx hb d_WM_coinsOfMen_7 (by decide) (fun h => absurd h (by decide +kernel)) (fun _ => ?_)
  refine lv_aload_n hx hb d_WM_coinsOfMen_10 rfl (lv_at hl 3 rfl) ?_
  refine va_get (D := (dC, dI)) (ci := 0) (v := .ref (a 6)) (C := R_WM) (T := F_WM) (N := 13) hx hb htb i_WM hown hK hP 0 rfl rfl 1 (by decide) (htb (.fieldLink R_WM 18 "WaterMen" "men" "[LWaterMen$Man;") tw_70) (fun _ h9 => h9) rfl d_WM_coinsOfMen_11 ?_
  refine lv_iload_n hx hb d_WM_coinsOfMen_14 rfl (lv_at hl 0 rfl) ?_
  refine va_aldq hx hb hK hP 6 4 rfl rfl (by unfold vp_in; decide +kernel) d_WM_coinsOfMen_15 ?_
  obtain ⟨q_157, x_158, hq_159, hk_160⟩ := xw_man (a := a) (k := k) (i := 39) hL (by unfold vp_in; decide +kernel)
  refine hb_tv (.ref q_157) (by show va_rf (L[_]?) = _; rw [hq_159]; rfl) ?_
  refine lv_astore_n (lv' := [(3, .ref q_157), (2, .int 39), (1, .int 0), (0, .ref (a 0))]) hx hb d_WM_coinsOfMen_16 rfl hl (by decide) rfl (fun ls hl => ?_)
  refine lv_iload_n hx hb d_WM_coinsOfMen_17 rfl (lv_at hl 2 rfl) ?_
  refine lv_aload_n hx hb d_WM_coinsOfMen_18 rfl (lv_at hl 0 rfl) ?_
  refine lv_ifnonnull (tgt := 26) hx hb d_WM_coinsOfMen_19 (by decide) ?_
  refine lv_aload_n hx hb d_WM_coinsOfMen_26 rfl (lv_at hl 0 rfl) ?_
  refine va_get (D := (dC, dI)) (ci := 2) (v := .int 0) (C := R_Mn) (T := F_Mn) (N := 8) hx hb htb i_Mn hown hK hP x_158 hk_160 rfl 4 (by decide) (htb (.fieldLink R_WM 152 "WaterMen$Man" "coins" "I") tw_171) (fun _ h9 => h9) rfl d_WM_coinsOfMen_27 ?_
  refine lv_iadd hx hb d_WM_coinsOfMen_30 ?_
  refine hb_ti 0 (by decide +kernel) ?_
  refine lv_istore_n (lv' := [(1, .int 0), (3, .ref q_157), (2, .int 39), (0, .ref (a 0))]) hx hb d_WM_coinsOfMen_31 rfl hl (by decide) rfl (fun ls hl => ?_)
  refine lv_iinc (v := 40) (lv' := [(2, .int 40), (1, .int 0), (3, .ref q_157), (0, .ref (a 0))]) hx hb d_WM_coinsOfMen_32 hl (k := 2) rfl (by decide +kernel) (by decide) rfl (fun ls hl => ?_)
  refine lv_goto (tgt := 4) hx hb d_WM_coinsOfMen_35 (by decide) ?_
  refine lv_iload_n hx hb d_WM_coinsOfMen_4 rfl (lv_at hl 0 rfl) ?_
  refine lv_bipush (v := 40) hx hb d_WM_coinsOfMen_5 (by decide +kernel) ?_
  refine lv_icmp_ge (tgt := 38) hx hb d_WM_coinsOfMen_7 (by decide) (fun _ => ?_) (fun h => absurd (by decide +kernel) h)
  refine lv_iload_n hx hb d_WM_coinsOfMen_38 rfl (lv_at hl 1 rfl) ?_
  exact W.iret (v := 0) hx hb hr (fun t ht hW => ⟨0, rfl, rfl, ht⟩) t_nil d_WM_coinsOfMen_39
