def f_Md_count (p_0 : Int32) : Int32 := if p_0 = 0 then (0) else (if p_0 = 1 then (0) else (if p_0 = 2 then (0) else (if p_0 = 3 then (0) else (if p_0 = 4 then (0) else (if p_0 = 5 then (0) else (if p_0 = 6 then (0) else (if p_0 = 7 then (0) else (if p_0 = 8 then (0) else (if p_0 = 9 then (0) else ((-1)))))))))))
set_option maxHeartbeats 4000000 in
set_option maxRecDepth 100000 in
theorem c_Md_count (l : Launch) (dC : Nat → ClassId) (dI : Nat → Nat → Nat) (a : Nat → Nat) (k : Nat → ClassId)  (p_0 : Int32)  : Met l y_Md_count (.code y_Md_count b_Md_count 2 (some .int) :: TB) ({ frames := 1, cells := 0, slots := 0, locals := 23 }) (va_Pc [.ref (a 0), .int p_0] (PR dC dI (MW a k) (MT k))) (vp_Si (fun r => r = f_Md_count p_0)) 0 0 (fun _ => False) := by
  refine Met.ofW (cc := b_Md_count) (maxL := 2) (ret := (some .int)) (by decide) rfl ?_
  intro p e s m args below meth c s₁ B hml hv
  obtain ⟨rfl, hP, hK, hN⟩ := hv
  have hx := B.exec
  have hb := B.bytes
  have hr := B.returns
  have hts := atoms_spec (ws := (.code y_Md_count b_Md_count 2 (some .int) :: TB)) B.pre
  have htb := fun w (h : w ∈ TB) => hts w (List.mem_cons_of_mem _ h)
  have hown : s.vm.findClass R_Md = some m.cls := findClass_of_methodNamed B.named
  have hlocks := B.notSynchronized
  have hl := lv_entry ([.ref (a 0), .int p_0]) (n := 2) (Nat.le_of_ble_eq_true rfl)
  rw [lg_entry_eq]
  generalize (lg_sl ([.ref (a 0), .int p_0]) ++ List.replicate (2 - (lg_sl ([.ref (a 0), .int p_0])).length) Slot.unset).toArray = ls at hl ⊢
  have hl : lv_has ls 2 [(0, .ref (a 0)), (1, .int p_0)] := hl
  refine lv_iload_n hx hb d_Md_count_0 rfl (lv_at hl 1 rfl) ?_
  by_cases c_1 : p_0 = 0
  · refine lv_tableIn (off := 55) (tgt := 56) hx hb d_Md_count_1 (by rw [c_1]; decide +kernel) (by rw [c_1]; decide +kernel) (by rw [c_1]; decide +kernel) (by decide) ?_
    refine lv_aload_n hx hb d_Md_count_56 rfl (lv_at hl 0 rfl) ?_
    refine va_get (D := (dC, dI)) (ci := 7) (v := .int 0) (C := R_Md) (T := F_Md) (N := 64) hx hb htb i_Md hown hK hP 0 rfl rfl 2 (by decide) (htb (.fieldLink R_Md 14 "WaterMenModel" "stairs" "I") tw_299) (fun _ h9 => h9) rfl d_Md_count_57 ?_
    exact W.iret (v := 0) hx hb hr (fun t ht hW => ⟨0, rfl, (by unfold f_Md_count; rw [if_pos c_1]), ht⟩) t_nil d_Md_count_60
  · by_cases c_2 : p_0 = 1
    · refine lv_tableIn (off := 60) (tgt := 61) hx hb d_Md_count_1 (by rw [c_2]; decide +kernel) (by rw [c_2]; decide +kernel) (by rw [c_2]; decide +kernel) (by decide) ?_
      refine lv_aload_n hx hb d_Md_count_61 rfl (lv_at hl 0 rfl) ?_
      refine va_get (D := (dC, dI)) (ci := 7) (v := .int 0) (C := R_Md) (T := F_Md) (N := 64) hx hb htb i_Md hown hK hP 0 rfl rfl 21 (by decide) (htb (.fieldLink R_Md 206 "WaterMenModel" "boats" "I") tw_331) (fun _ h9 => h9) rfl d_Md_count_62 ?_
      exact W.iret (v := 0) hx hb hr (fun t ht hW => ⟨0, rfl, (by unfold f_Md_count; rw [if_neg c_1, if_pos c_2]), ht⟩) t_nil d_Md_count_65
    · by_cases c_3 : p_0 = 2
      · refine lv_tableIn (off := 65) (tgt := 66) hx hb d_Md_count_1 (by rw [c_3]; decide +kernel) (by rw [c_3]; decide +kernel) (by rw [c_3]; decide +kernel) (by decide) ?_
        refine lv_aload_n hx hb d_Md_count_66 rfl (lv_at hl 0 rfl) ?_
        refine va_get (D := (dC, dI)) (ci := 7) (v := .int 0) (C := R_Md) (T := F_Md) (N := 64) hx hb htb i_Md hown hK hP 0 rfl rfl 47 (by decide) (htb (.fieldLink R_Md 313 "WaterMenModel" "trips" "I") tw_372) (fun _ h9 => h9) rfl d_Md_count_67 ?_
        exact W.iret (v := 0) hx hb hr (fun t ht hW => ⟨0, rfl, (by unfold f_Md_count; rw [if_neg c_1, if_neg c_2, if_pos c_3]), ht⟩) t_nil d_Md_count_70
      · by_cases c_4 : p_0 = 3
        · refine lv_tableIn (off := 70) (tgt := 71) hx hb d_Md_count_1 (by rw [c_4]; decide +kernel) (by rw [c_4]; decide +kernel) (by rw [c_4]; decide +kernel) (by decide) ?_
          refine lv_aload_n hx hb d_Md_count_71 rfl (lv_at hl 0 rfl) ?_
          refine va_get (D := (dC, dI)) (ci := 7) (v := .int 0) (C := R_Md) (T := F_Md) (N := 64) hx hb htb i_Md hown hK hP 0 rfl rfl 29 (by decide) (htb (.fieldLink R_Md 275 "WaterMenModel" "orders" "I") tw_341) (fun _ h9 => h9) rfl d_Md_count_72 ?_
          exact W.iret (v := 0) hx hb hr (fun t ht hW => ⟨0, rfl, (by unfold f_Md_count; rw [if_neg c_1, if_neg c_2, if_neg c_3, if_pos c_4]), ht⟩) t_nil d_Md_count_75
        · by_cases c_5 : p_0 = 4
          · refine lv_tableIn (off := 75) (tgt := 76) hx hb d_Md_count_1 (by rw [c_5]; decide +kernel) (by rw [c_5]; decide +kernel) (by rw [c_5]; decide +kernel) (by decide) ?_
            refine lv_aload_n hx hb d_Md_count_76 rfl (lv_at hl 0 rfl) ?_
            refine va_get (D := (dC, dI)) (ci := 7) (v := .int 0) (C := R_Md) (T := F_Md) (N := 64) hx hb htb i_Md hown hK hP 0 rfl rfl 1 (by decide) (htb (.fieldLink R_Md 7 "WaterMenModel" "time" "I") tw_311) (fun _ h9 => h9) rfl d_Md_count_77 ?_
            exact W.iret (v := 0) hx hb hr (fun t ht hW => ⟨0, rfl, (by unfold f_Md_count; rw [if_neg c_1, if_neg c_2, if_neg c_3, if_neg c_4, if_pos c_5]), ht⟩) t_nil d_Md_count_80
          · by_cases c_6 : p_0 = 5
            · refine lv_tableIn (off := 80) (tgt := 81) hx hb d_Md_count_1 (by rw [c_6]; decide +kernel) (by rw [c_6]; decide +kernel) (by rw [c_6]; decide +kernel) (by decide) ?_
              refine lv_aload_n hx hb d_Md_count_81 rfl (lv_at hl 0 rfl) ?_
              refine lv_iconst (v := 2) hx hb d_Md_count_82 (by decide +kernel) ?_
              refine vp_callSi (va_Run.run (va_runV (As := [.int 2]) (rest := []) ⟨hx, hb, hml, hown, htb⟩ (c_Md_menAs l dC dI a k 2) (cwV 1 htb (gd_V tw_382 tw_383 tw_384 tw_296 tw_381) rfl rfl rfl (by decide +kernel) ⟨Nat.le_of_ble_eq_true rfl, Nat.le_of_ble_eq_true rfl⟩) ⟨pr_blind, va_recv hK hP (ci := 7) (q0 := 0) rfl rfl, pr_pre hP hK hN⟩ rfl rfl hl.1 rfl (lv_room (Nat.le_of_ble_eq_true rfl)) d_Md_count_83 ⟨Nat.le_of_ble_eq_true rfl, Nat.le_of_ble_eq_true rfl⟩)) (fun r er => ?_)
              subst er
              refine hb_ti 0 (by unfold f_Md_menAs; rw [if_neg (by decide +kernel : ¬ ((0 : Int32) = 2))]) ?_
              exact W.iret (v := 0) hx hb hr (fun t ht hW => ⟨0, rfl, (by unfold f_Md_count; rw [if_neg c_1, if_neg c_2, if_neg c_3, if_neg c_4, if_neg c_5, if_pos c_6]), ht⟩) t_nil d_Md_count_86
            · by_cases c_7 : p_0 = 6
              · refine lv_tableIn (off := 86) (tgt := 87) hx hb d_Md_count_1 (by rw [c_7]; decide +kernel) (by rw [c_7]; decide +kernel) (by rw [c_7]; decide +kernel) (by decide) ?_
                refine lv_aload_n hx hb d_Md_count_87 rfl (lv_at hl 0 rfl) ?_
                refine lv_iconst (v := 1) hx hb d_Md_count_88 (by decide +kernel) ?_
                refine vp_callSi (va_Run.run (va_runV (As := [.int 1]) (rest := []) ⟨hx, hb, hml, hown, htb⟩ (c_Md_menAs l dC dI a k 1) (cwV 1 htb (gd_V tw_382 tw_383 tw_384 tw_296 tw_381) rfl rfl rfl (by decide +kernel) ⟨Nat.le_of_ble_eq_true rfl, Nat.le_of_ble_eq_true rfl⟩) ⟨pr_blind, va_recv hK hP (ci := 7) (q0 := 0) rfl rfl, pr_pre hP hK hN⟩ rfl rfl hl.1 rfl (lv_room (Nat.le_of_ble_eq_true rfl)) d_Md_count_89 ⟨Nat.le_of_ble_eq_true rfl, Nat.le_of_ble_eq_true rfl⟩)) (fun r er => ?_)
                subst er
                refine hb_ti 0 (by unfold f_Md_menAs; rw [if_neg (by decide +kernel : ¬ ((0 : Int32) = 1))]) ?_
                exact W.iret (v := 0) hx hb hr (fun t ht hW => ⟨0, rfl, (by unfold f_Md_count; rw [if_neg c_1, if_neg c_2, if_neg c_3, if_neg c_4, if_neg c_5, if_neg c_6, if_pos c_7]), ht⟩) t_nil d_Md_count_92
              · by_cases c_8 : p_0 = 7
                · refine lv_tableIn (off := 92) (tgt := 93) hx hb d_Md_count_1 (by rw [c_8]; decide +kernel) (by rw [c_8]; decide +kernel) (by rw [c_8]; decide +kernel) (by decide) ?_
                  refine lv_aload_n hx hb d_Md_count_93 rfl (lv_at hl 0 rfl) ?_
                  refine lv_iconst (v := 3) hx hb d_Md_count_94 (by decide +kernel) ?_
                  refine vp_callSi (va_Run.run (va_runV (As := [.int 3]) (rest := []) ⟨hx, hb, hml, hown, htb⟩ (c_Md_menAs l dC dI a k 3) (cwV 1 htb (gd_V tw_382 tw_383 tw_384 tw_296 tw_381) rfl rfl rfl (by decide +kernel) ⟨Nat.le_of_ble_eq_true rfl, Nat.le_of_ble_eq_true rfl⟩) ⟨pr_blind, va_recv hK hP (ci := 7) (q0 := 0) rfl rfl, pr_pre hP hK hN⟩ rfl rfl hl.1 rfl (lv_room (Nat.le_of_ble_eq_true rfl)) d_Md_count_95 ⟨Nat.le_of_ble_eq_true rfl, Nat.le_of_ble_eq_true rfl⟩)) (fun r er => ?_)
                  subst er
                  refine hb_ti 0 (by unfold f_Md_menAs; rw [if_neg (by decide +kernel : ¬ ((0 : Int32) = 3))]) ?_
                  exact W.iret (v := 0) hx hb hr (fun t ht hW => ⟨0, rfl, (by unfold f_Md_count; rw [if_neg c_1, if_neg c_2, if_neg c_3, if_neg c_4, if_neg c_5, if_neg c_6, if_neg c_7, if_pos c_8]), ht⟩) t_nil d_Md_count_98
                · by_cases c_9 : p_0 = 8
                  · refine lv_tableIn (off := 98) (tgt := 99) hx hb d_Md_count_1 (by rw [c_9]; decide +kernel) (by rw [c_9]; decide +kernel) (by rw [c_9]; decide +kernel) (by decide) ?_
                    refine lv_aload_n hx hb d_Md_count_99 rfl (lv_at hl 0 rfl) ?_
                    refine va_get (D := (dC, dI)) (ci := 7) (v := .int 0) (C := R_Md) (T := F_Md) (N := 64) hx hb htb i_Md hown hK hP 0 rfl rfl 60 (by decide) (htb (.fieldLink R_Md 323 "WaterMenModel" "pensioners" "I") tw_376) (fun _ h9 => h9) rfl d_Md_count_100 ?_
                    exact W.iret (v := 0) hx hb hr (fun t ht hW => ⟨0, rfl, (by unfold f_Md_count; rw [if_neg c_1, if_neg c_2, if_neg c_3, if_neg c_4, if_neg c_5, if_neg c_6, if_neg c_7, if_neg c_8, if_pos c_9]), ht⟩) t_nil d_Md_count_103
                  · by_cases c_10 : p_0 = 9
                    · refine lv_tableIn (off := 103) (tgt := 104) hx hb d_Md_count_1 (by rw [c_10]; decide +kernel) (by rw [c_10]; decide +kernel) (by rw [c_10]; decide +kernel) (by decide) ?_
                      refine lv_aload_n hx hb d_Md_count_104 rfl (lv_at hl 0 rfl) ?_
                      refine va_get (D := (dC, dI)) (ci := 7) (v := .int 0) (C := R_Md) (T := F_Md) (N := 64) hx hb htb i_Md hown hK hP 0 rfl rfl 28 (by decide) (htb (.fieldLink R_Md 212 "WaterMenModel" "taped" "I") tw_336) (fun _ h9 => h9) rfl d_Md_count_105 ?_
                      exact W.iret (v := 0) hx hb hr (fun t ht hW => ⟨0, rfl, (by unfold f_Md_count; rw [if_neg c_1, if_neg c_2, if_neg c_3, if_neg c_4, if_neg c_5, if_neg c_6, if_neg c_7, if_neg c_8, if_neg c_9, if_pos c_10]), ht⟩) t_nil d_Md_count_108
                    · refine lv_tableOut (tgt := 109) hx hb d_Md_count_1 (by have h0 := lv_neT c_1 (show (0 : Int32).toInt = 0 by decide +kernel); have h1 := lv_neT c_2 (show (1 : Int32).toInt = 1 by decide +kernel); have h2 := lv_neT c_3 (show (2 : Int32).toInt = 2 by decide +kernel); have h3 := lv_neT c_4 (show (3 : Int32).toInt = 3 by decide +kernel); have h4 := lv_neT c_5 (show (4 : Int32).toInt = 4 by decide +kernel); have h5 := lv_neT c_6 (show (5 : Int32).toInt = 5 by decide +kernel); have h6 := lv_neT c_7 (show (6 : Int32).toInt = 6 by decide +kernel); have h7 := lv_neT c_8 (show (7 : Int32).toInt = 7 by decide +kernel); have h8 := lv_neT c_9 (show (8 : Int32).toInt = 8 by decide +kernel); have h9 := lv_neT c_10 (show (9 : Int32).toInt = 9 by decide +kernel); omega) (by decide) ?_
                      refine lv_iconst (v := (-1)) hx hb d_Md_count_109 (by decide +kernel) ?_
                      exact W.iret (v := (-1)) hx hb hr (fun t ht hW => ⟨(-1), rfl, (by unfold f_Md_count; rw [if_neg c_1, if_neg c_2, if_neg c_3, if_neg c_4, if_neg c_5, if_neg c_6, if_neg c_7, if_neg c_8, if_neg c_9, if_neg c_10]), ht⟩) t_nil d_Md_count_110
def f_Md_coins (p_0 : Int32) : Int32 := if p_0 = 0 then (0) else (if p_0 = 1 then (0) else (if p_0 = 2 then (0) else (if p_0 = 3 then (0) else (if p_0 = 4 then (0) else ((-1))))))
set_option maxHeartbeats 4000000 in
set_option maxRecDepth 100000 in
theorem c_Md_coins (l : Launch) (dC : Nat → ClassId) (dI : Nat → Nat → Nat) (a : Nat → Nat) (k : Nat → ClassId)  (p_0 : Int32)  : Met l y_Md_coins (.code y_Md_coins b_Md_coins 5 (some .int) :: TB) ({ frames := 0, cells := 0, slots := 0, locals := 0 }) (va_Pc [.ref (a 0), .int p_0] (PR dC dI (MW a k) (MT k))) (vp_Si (fun r => r = f_Md_coins p_0)) 0 0 (fun _ => False) := by
  refine Met.ofW (cc := b_Md_coins) (maxL := 5) (ret := (some .int)) (by decide) rfl ?_
  intro p e s m args below meth c s₁ B hml hv
  obtain ⟨rfl, hP, hK, hN⟩ := hv
  have hx := B.exec
  have hb := B.bytes
  have hr := B.returns
  have hts := atoms_spec (ws := (.code y_Md_coins b_Md_coins 5 (some .int) :: TB)) B.pre
  have htb := fun w (h : w ∈ TB) => hts w (List.mem_cons_of_mem _ h)
  have hown : s.vm.findClass R_Md = some m.cls := findClass_of_methodNamed B.named
  have hlocks := B.notSynchronized
  have hl := lv_entry ([.ref (a 0), .int p_0]) (n := 5) (Nat.le_of_ble_eq_true rfl)
  rw [lg_entry_eq]
  generalize (lg_sl ([.ref (a 0), .int p_0]) ++ List.replicate (5 - (lg_sl ([.ref (a 0), .int p_0])).length) Slot.unset).toArray = ls at hl ⊢
  have hl : lv_has ls 5 [(0, .ref (a 0)), (1, .int p_0)] := hl
  refine lv_lconst (v := 0) hx hb d_Md_coins_0 (by decide +kernel) ?_
  refine lv_lstore_n (lv' := [(2, .long 0), (0, .ref (a 0)), (1, .int p_0)]) hx hb d_Md_coins_1 rfl hl (by decide) rfl (fun ls hl => ?_)
  refine lv_iload_n hx hb d_Md_coins_2 rfl (lv_at hl 2 rfl) ?_
  by_cases c_1 : p_0 = 0
  · refine lv_tableIn (off := 33) (tgt := 36) hx hb d_Md_coins_3 (by rw [c_1]; decide +kernel) (by rw [c_1]; decide +kernel) (by rw [c_1]; decide +kernel) (by decide) ?_
    refine lv_aload_n hx hb d_Md_coins_36 rfl (lv_at hl 1 rfl) ?_
    refine va_get (D := (dC, dI)) (ci := 7) (v := .long 0) (C := R_Md) (T := F_Md) (N := 64) hx hb htb i_Md hown hK hP 0 rfl rfl 56 (by decide) (htb (.fieldLink R_Md 316 "WaterMenModel" "box" "J") tw_366) (fun _ h9 => h9) rfl d_Md_coins_37 ?_
    refine lv_l2i hx hb d_Md_coins_40 rfl ?_
    refine hb_ti 0 (by decide +kernel) ?_
    exact W.iret (v := 0) hx hb hr (fun t ht hW => ⟨0, rfl, (by unfold f_Md_coins; rw [if_pos c_1]), ht⟩) t_nil d_Md_coins_41
  · by_cases c_2 : p_0 = 1
    · refine lv_tableIn (off := 39) (tgt := 42) hx hb d_Md_coins_3 (by rw [c_2]; decide +kernel) (by rw [c_2]; decide +kernel) (by rw [c_2]; decide +kernel) (by decide) ?_
      refine lv_aload_n hx hb d_Md_coins_42 rfl (lv_at hl 1 rfl) ?_
      refine va_get (D := (dC, dI)) (ci := 7) (v := .long 0) (C := R_Md) (T := F_Md) (N := 64) hx hb htb i_Md hown hK hP 0 rfl rfl 57 (by decide) (htb (.fieldLink R_Md 320 "WaterMenModel" "pot" "J") tw_367) (fun _ h9 => h9) rfl d_Md_coins_43 ?_
      refine lv_l2i hx hb d_Md_coins_46 rfl ?_
      refine hb_ti 0 (by decide +kernel) ?_
      exact W.iret (v := 0) hx hb hr (fun t ht hW => ⟨0, rfl, (by unfold f_Md_coins; rw [if_neg c_1, if_pos c_2]), ht⟩) t_nil d_Md_coins_47
    · by_cases c_3 : p_0 = 2
      · refine lv_tableIn (off := 45) (tgt := 48) hx hb d_Md_coins_3 (by rw [c_3]; decide +kernel) (by rw [c_3]; decide +kernel) (by rw [c_3]; decide +kernel) (by decide) ?_
        refine lv_iconst (v := 0) hx hb d_Md_coins_48 (by decide +kernel) ?_
        refine lv_istore (lv' := [(4, .int 0), (2, .long 0), (0, .ref (a 0)), (1, .int p_0)]) hx hb d_Md_coins_49 hl (by decide) rfl (fun ls hl => ?_)
        refine lv_iload hx hb d_Md_coins_51 (lv_at hl 0 rfl) ?_
        refine lv_bipush (v := 40) hx hb d_Md_coins_53 (by decide +kernel) ?_
        refine lv_icmp_ge (tgt := 75) hx hb d_Md_coins_55 (by decide) (fun h => absurd h (by decide +kernel)) (fun _ => ?_)
        refine lv_lload_n hx hb d_Md_coins_58 rfl (lv_at hl 1 rfl) ?_
        refine lv_aload_n hx hb d_Md_coins_59 rfl (lv_at hl 2 rfl) ?_
        refine va_get (D := (dC, dI)) (ci := 7) (v := .ref (a 12)) (C := R_Md) (T := F_Md) (N := 64) hx hb htb i_Md hown hK hP 0 rfl rfl 15 (by decide) (htb (.fieldLink R_Md 76 "WaterMenModel" "coins" "[I") tw_17) (fun _ h9 => h9) rfl d_Md_coins_60 ?_
        refine lv_iload hx hb d_Md_coins_63 (lv_at hl 0 rfl) ?_
        refine va_iald hx hb hK hP 12 11 rfl rfl (by unfold vp_in; decide +kernel) d_Md_coins_65 ?_
        refine hb_ti 0 rfl ?_
        refine lv_i2l hx hb d_Md_coins_66 rfl ?_
        refine hb_tl 0 (by decide +kernel) ?_
        refine lv_ladd hx hb d_Md_coins_67 ?_
        refine hb_tl 0 (by decide +kernel) ?_
        refine lv_lstore_n (lv' := [(2, .long 0), (4, .int 0), (0, .ref (a 0)), (1, .int p_0)]) hx hb d_Md_coins_68 rfl hl (by decide) rfl (fun ls hl => ?_)
        refine lv_iinc (v := 1) (lv' := [(4, .int 1), (2, .long 0), (0, .ref (a 0)), (1, .int p_0)]) hx hb d_Md_coins_69 hl (k := 1) rfl (by decide +kernel) (by decide) rfl (fun ls hl => ?_)
        refine lv_goto (tgt := 51) hx hb d_Md_coins_72 (by decide) ?_
        refine lv_iload hx hb d_Md_coins_51 (lv_at hl 0 rfl) ?_
        refine lv_bipush (v := 40) hx hb d_Md_coins_53 (by decide +kernel) ?_
        refine lv_icmp_ge (tgt := 75) hx hb d_Md_coins_55 (by decide) (fun h => absurd h (by decide +kernel)) (fun _ => ?_)
        refine lv_lload_n hx hb d_Md_coins_58 rfl (lv_at hl 1 rfl) ?_
        refine lv_aload_n hx hb d_Md_coins_59 rfl (lv_at hl 2 rfl) ?_
        refine va_get (D := (dC, dI)) (ci := 7) (v := .ref (a 12)) (C := R_Md) (T := F_Md) (N := 64) hx hb htb i_Md hown hK hP 0 rfl rfl 15 (by decide) (htb (.fieldLink R_Md 76 "WaterMenModel" "coins" "[I") tw_17) (fun _ h9 => h9) rfl d_Md_coins_60 ?_
        refine lv_iload hx hb d_Md_coins_63 (lv_at hl 0 rfl) ?_
        refine va_iald hx hb hK hP 12 11 rfl rfl (by unfold vp_in; decide +kernel) d_Md_coins_65 ?_
        refine hb_ti 0 rfl ?_
        refine lv_i2l hx hb d_Md_coins_66 rfl ?_
        refine hb_tl 0 (by decide +kernel) ?_
        refine lv_ladd hx hb d_Md_coins_67 ?_
        refine hb_tl 0 (by decide +kernel) ?_
        refine lv_lstore_n (lv' := [(2, .long 0), (4, .int 1), (0, .ref (a 0)), (1, .int p_0)]) hx hb d_Md_coins_68 rfl hl (by decide) rfl (fun ls hl => ?_)
        refine lv_iinc (v := 2) (lv' := [(4, .int 2), (2, .long 0), (0, .ref (a 0)), (1, .int p_0)]) hx hb d_Md_coins_69 hl (k := 1) rfl (by decide +kernel) (by decide) rfl (fun ls hl => ?_)
        refine lv_goto (tgt := 51) hx hb d_Md_coins_72 (by decide) ?_
        refine lv_iload hx hb d_Md_coins_51 (lv_at hl 0 rfl) ?_
        refine lv_bipush (v := 40) hx hb d_Md_coins_53 (by decide +kernel) ?_
        refine lv_icmp_ge (tgt := 75) hx hb d_Md_coins_55 (by decide) (fun h => absurd h (by decide +kernel)) (fun _ => ?_)
        refine lv_lload_n hx hb d_Md_coins_58 rfl (lv_at hl 1 rfl) ?_
        refine lv_aload_n hx hb d_Md_coins_59 rfl (lv_at hl 2 rfl) ?_
        refine va_get (D := (dC, dI)) (ci := 7) (v := .ref (a 12)) (C := R_Md) (T := F_Md) (N := 64) hx hb htb i_Md hown hK hP 0 rfl rfl 15 (by decide) (htb (.fieldLink R_Md 76 "WaterMenModel" "coins" "[I") tw_17) (fun _ h9 => h9) rfl d_Md_coins_60 ?_
        refine lv_iload hx hb d_Md_coins_63 (lv_at hl 0 rfl) ?_
        refine va_iald hx hb hK hP 12 11 rfl rfl (by unfold vp_in; decide +kernel) d_Md_coins_65 ?_
        refine hb_ti 0 rfl ?_
        refine lv_i2l hx hb d_Md_coins_66 rfl ?_
        refine hb_tl 0 (by decide +kernel) ?_
        refine lv_ladd hx hb d_Md_coins_67 ?_
        refine hb_tl 0 (by decide +kernel) ?_
        refine lv_lstore_n (lv' := [(2, .long 0), (4, .int 2), (0, .ref (a 0)), (1, .int p_0)]) hx hb d_Md_coins_68 rfl hl (by decide) rfl (fun ls hl => ?_)
        refine lv_iinc (v := 3) (lv' := [(4, .int 3), (2, .long 0), (0, .ref (a 0)), (1, .int p_0)]) hx hb d_Md_coins_69 hl (k := 1) rfl (by decide +kernel) (by decide) rfl (fun ls hl => ?_)
        refine lv_goto (tgt := 51) hx hb d_Md_coins_72 (by decide) ?_
        refine lv_iload hx hb d_Md_coins_51 (lv_at hl 0 rfl) ?_
        refine lv_bipush (v := 40) hx hb d_Md_coins_53 (by decide +kernel) ?_
        refine lv_icmp_ge (tgt := 75) hx hb d_Md_coins_55 (by decide) (fun h => absurd h (by decide +kernel)) (fun _ => ?_)
        refine lv_lload_n hx hb d_Md_coins_58 rfl (lv_at hl 1 rfl) ?_
        refine lv_aload_n hx hb d_Md_coins_59 rfl (lv_at hl 2 rfl) ?_
        refine va_get (D := (dC, dI)) (ci := 7) (v := .ref (a 12)) (C := R_Md) (T := F_Md) (N := 64) hx hb htb i_Md hown hK hP 0 rfl rfl 15 (by decide) (htb (.fieldLink R_Md 76 "WaterMenModel" "coins" "[I") tw_17) (fun _ h9 => h9) rfl d_Md_coins_60 ?_
        refine lv_iload hx hb d_Md_coins_63 (lv_at hl 0 rfl) ?_
        refine va_iald hx hb hK hP 12 11 rfl rfl (by unfold vp_in; decide +kernel) d_Md_coins_65 ?_
        refine hb_ti 0 rfl ?_
        refine lv_i2l hx hb d_Md_coins_66 rfl ?_
        refine hb_tl 0 (by decide +kernel) ?_
        refine lv_ladd hx hb d_Md_coins_67 ?_
        refine hb_tl 0 (by decide +kernel) ?_
        refine lv_lstore_n (lv' := [(2, .long 0), (4, .int 3), (0, .ref (a 0)), (1, .int p_0)]) hx hb d_Md_coins_68 rfl hl (by decide) rfl (fun ls hl => ?_)
        refine lv_iinc (v := 4) (lv' := [(4, .int 4), (2, .long 0), (0, .ref (a 0)), (1, .int p_0)]) hx hb d_Md_coins_69 hl (k := 1) rfl (by decide +kernel) (by decide) rfl (fun ls hl => ?_)
        refine lv_goto (tgt := 51) hx hb d_Md_coins_72 (by decide) ?_
        refine lv_iload hx hb d_Md_coins_51 (lv_at hl 0 rfl) ?_
        refine lv_bipush (v := 40) hx hb d_Md_coins_53 (by decide +kernel) ?_
        refine lv_icmp_ge (tgt := 75) hx hb d_Md_coins_55 (by decide) (fun h => absurd h (by decide +kernel)) (fun _ => ?_)
        refine lv_lload_n hx hb d_Md_coins_58 rfl (lv_at hl 1 rfl) ?_
        refine lv_aload_n hx hb d_Md_coins_59 rfl (lv_at hl 2 rfl) ?_
        refine va_get (D := (dC, dI)) (ci := 7) (v := .ref (a 12)) (C := R_Md) (T := F_Md) (N := 64) hx hb htb i_Md hown hK hP 0 rfl rfl 15 (by decide) (htb (.fieldLink R_Md 76 "WaterMenModel" "coins" "[I") tw_17) (fun _ h9 => h9) rfl d_Md_coins_60 ?_
        refine lv_iload hx hb d_Md_coins_63 (lv_at hl 0 rfl) ?_
        refine va_iald hx hb hK hP 12 11 rfl rfl (by unfold vp_in; decide +kernel) d_Md_coins_65 ?_
        refine hb_ti 0 rfl ?_
        refine lv_i2l hx hb d_Md_coins_66 rfl ?_
        refine hb_tl 0 (by decide +kernel) ?_
        refine lv_ladd hx hb d_Md_coins_67 ?_
        refine hb_tl 0 (by decide +kernel) ?_
        refine lv_lstore_n (lv' := [(2, .long 0), (4, .int 4), (0, .ref (a 0)), (1, .int p_0)]) hx hb d_Md_coins_68 rfl hl (by decide) rfl (fun ls hl => ?_)
        refine lv_iinc (v := 5) (lv' := [(4, .int 5), (2, .long 0), (0, .ref (a 0)), (1, .int p_0)]) hx hb d_Md_coins_69 hl (k := 1) rfl (by decide +kernel) (by decide) rfl (fun ls hl => ?_)
        refine lv_goto (tgt := 51) hx hb d_Md_coins_72 (by decide) ?_
        refine lv_iload hx hb d_Md_coins_51 (lv_at hl 0 rfl) ?_
        refine lv_bipush (v := 40) hx hb d_Md_coins_53 (by decide +kernel) ?_
        refine lv_icmp_ge (tgt := 75) hx hb d_Md_coins_55 (by decide) (fun h => absurd h (by decide +kernel)) (fun _ => ?_)
        refine lv_lload_n hx hb d_Md_coins_58 rfl (lv_at hl 1 rfl) ?_
        refine lv_aload_n hx hb d_Md_coins_59 rfl (lv_at hl 2 rfl) ?_
        refine va_get (D := (dC, dI)) (ci := 7) (v := .ref (a 12)) (C := R_Md) (T := F_Md) (N := 64) hx hb htb i_Md hown hK hP 0 rfl rfl 15 (by decide) (htb (.fieldLink R_Md 76 "WaterMenModel" "coins" "[I") tw_17) (fun _ h9 => h9) rfl d_Md_coins_60 ?_
        refine lv_iload hx hb d_Md_coins_63 (lv_at hl 0 rfl) ?_
        refine va_iald hx hb hK hP 12 11 rfl rfl (by unfold vp_in; decide +kernel) d_Md_coins_65 ?_
        refine hb_ti 0 rfl ?_
        refine lv_i2l hx hb d_Md_coins_66 rfl ?_
        refine hb_tl 0 (by decide +kernel) ?_
        refine lv_ladd hx hb d_Md_coins_67 ?_
        refine hb_tl 0 (by decide +kernel) ?_
        refine lv_lstore_n (lv' := [(2, .long 0), (4, .int 5), (0, .ref (a 0)), (1, .int p_0)]) hx hb d_Md_coins_68 rfl hl (by decide) rfl (fun ls hl => ?_)
        refine lv_iinc (v := 6) (lv' := [(4, .int 6), (2, .long 0), (0, .ref (a 0)), (1, .int p_0)]) hx hb d_Md_coins_69 hl (k := 1) rfl (by decide +kernel) (by decide) rfl (fun ls hl => ?_)
        refine lv_goto (tgt := 51) hx hb d_Md_coins_72 (by decide) ?_
        refine lv_iload hx hb d_Md_coins_51 (lv_at hl 0 rfl) ?_
        refine lv_bipush (v := 40) hx hb d_Md_coins_53 (by decide +kernel) ?_
        refine lv_icmp_ge (tgt := 75) hx hb d_Md_coins_55 (by decide) (fun h => absurd h (by decide +kernel)) (fun _ => ?_)
        refine lv_lload_n hx hb d_Md_coins_58 rfl (lv_at hl 1 rfl) ?_
        refine lv_aload_n hx hb d_Md_coins_59 rfl (lv_at hl 2 rfl) ?_
        refine va_get (D := (dC, dI)) (ci := 7) (v := .ref (a 12)) (C := R_Md) (T := F_Md) (N := 64) hx hb htb i_Md hown hK hP 0 rfl rfl 15 (by decide) (htb (.fieldLink R_Md 76 "WaterMenModel" "coins" "[I") tw_17) (fun _ h9 => h9) rfl d_Md_coins_60 ?_
        refine lv_iload hx hb d_Md_coins_63 (lv_at hl 0 rfl) ?_
        refine va_iald hx hb hK hP 12 11 rfl rfl (by unfold vp_in; decide +kernel) d_Md_coins_65 ?_
        refine hb_ti 0 rfl ?_
        refine lv_i2l hx hb d_Md_coins_66 rfl ?_
        refine hb_tl 0 (by decide +kernel) ?_
        refine lv_ladd hx hb d_Md_coins_67 ?_
        refine hb_tl 0 (by decide +kernel) ?_
        refine lv_lstore_n (lv' := [(2, .long 0), (4, .int 6), (0, .ref (a 0)), (1, .int p_0)]) hx hb d_Md_coins_68 rfl hl (by decide) rfl (fun ls hl => ?_)
        refine lv_iinc (v := 7) (lv' := [(4, .int 7), (2, .long 0), (0, .ref (a 0)), (1, .int p_0)]) hx hb d_Md_coins_69 hl (k := 1) rfl (by decide +kernel) (by decide) rfl (fun ls hl => ?_)
        refine lv_goto (tgt := 51) hx hb d_Md_coins_72 (by decide) ?_
        refine lv_iload hx hb d_Md_coins_51 (lv_at hl 0 rfl) ?_
        refine lv_bipush (v := 40) hx hb d_Md_coins_53 (by decide +kernel) ?_
        refine lv_icmp_ge (tgt := 75) hx hb d_Md_coins_55 (by decide) (fun h => absurd h (by decide +kernel)) (fun _ => ?_)
        refine lv_lload_n hx hb d_Md_coins_58 rfl (lv_at hl 1 rfl) ?_
        refine lv_aload_n hx hb d_Md_coins_59 rfl (lv_at hl 2 rfl) ?_
        refine va_get (D := (dC, dI)) (ci := 7) (v := .ref (a 12)) (C := R_Md) (T := F_Md) (N := 64) hx hb htb i_Md hown hK hP 0 rfl rfl 15 (by decide) (htb (.fieldLink R_Md 76 "WaterMenModel" "coins" "[I") tw_17) (fun _ h9 => h9) rfl d_Md_coins_60 ?_
        refine lv_iload hx hb d_Md_coins_63 (lv_at hl 0 rfl) ?_
        refine va_iald hx hb hK hP 12 11 rfl rfl (by unfold vp_in; decide +kernel) d_Md_coins_65 ?_
        refine hb_ti 0 rfl ?_
        refine lv_i2l hx hb d_Md_coins_66 rfl ?_
        refine hb_tl 0 (by decide +kernel) ?_
        refine lv_ladd hx hb d_Md_coins_67 ?_
        refine hb_tl 0 (by decide +kernel) ?_
        refine lv_lstore_n (lv' := [(2, .long 0), (4, .int 7), (0, .ref (a 0)), (1, .int p_0)]) hx hb d_Md_coins_68 rfl hl (by decide) rfl (fun ls hl => ?_)
        refine lv_iinc (v := 8) (lv' := [(4, .int 8), (2, .long 0), (0, .ref (a 0)), (1, .int p_0)]) hx hb d_Md_coins_69 hl (k := 1) rfl (by decide +kernel) (by decide) rfl (fun ls hl => ?_)
        refine lv_goto (tgt := 51) hx hb d_Md_coins_72 (by decide) ?_
        refine lv_iload hx hb d_Md_coins_51 (lv_at hl 0 rfl) ?_
        refine lv_bipush (v := 40) hx hb d_Md_coins_53 (by decide +kernel) ?_
        refine lv_icmp_ge (tgt := 75) hx hb d_Md_coins_55 (by decide) (fun h => absurd h (by decide +kernel)) (fun _ => ?_)
        refine lv_lload_n hx hb d_Md_coins_58 rfl (lv_at hl 1 rfl) ?_
        refine lv_aload_n hx hb d_Md_coins_59 rfl (lv_at hl 2 rfl) ?_
        refine va_get (D := (dC, dI)) (ci := 7) (v := .ref (a 12)) (C := R_Md) (T := F_Md) (N := 64) hx hb htb i_Md hown hK hP 0 rfl rfl 15 (by decide) (htb (.fieldLink R_Md 76 "WaterMenModel" "coins" "[I") tw_17) (fun _ h9 => h9) rfl d_Md_coins_60 ?_
        refine lv_iload hx hb d_Md_coins_63 (lv_at hl 0 rfl) ?_
        refine va_iald hx hb hK hP 12 11 rfl rfl (by unfold vp_in; decide +kernel) d_Md_coins_65 ?_
        refine hb_ti 0 rfl ?_
        refine lv_i2l hx hb d_Md_coins_66 rfl ?_
        refine hb_tl 0 (by decide +kernel) ?_
        refine lv_ladd hx hb d_Md_coins_67 ?_
        refine hb_tl 0 (by decide +kernel) ?_
        refine lv_lstore_n (lv' := [(2, .long 0), (4, .int 8), (0, .ref (a 0)), (1, .int p_0)]) hx hb d_Md_coins_68 rfl hl (by decide) rfl (fun ls hl => ?_)
        refine lv_iinc (v := 9) (lv' := [(4, .int 9), (2, .long 0), (0, .ref (a 0)), (1, .int p_0)]) hx hb d_Md_coins_69 hl (k := 1) rfl (by decide +kernel) (by decide) rfl (fun ls hl => ?_)
        refine lv_goto (tgt := 51) hx hb d_Md_coins_72 (by decide) ?_
        refine lv_iload hx hb d_Md_coins_51 (lv_at hl 0 rfl) ?_
        refine lv_bipush (v := 40) hx hb d_Md_coins_53 (by decide +kernel) ?_
        refine lv_icmp_ge (tgt := 75) hx hb d_Md_coins_55 (by decide) (fun h => absurd h (by decide +kernel)) (fun _ => ?_)
        refine lv_lload_n hx hb d_Md_coins_58 rfl (lv_at hl 1 rfl) ?_
        refine lv_aload_n hx hb d_Md_coins_59 rfl (lv_at hl 2 rfl) ?_
        refine va_get (D := (dC, dI)) (ci := 7) (v := .ref (a 12)) (C := R_Md) (T := F_Md) (N := 64) hx hb htb i_Md hown hK hP 0 rfl rfl 15 (by decide) (htb (.fieldLink R_Md 76 "WaterMenModel" "coins" "[I") tw_17) (fun _ h9 => h9) rfl d_Md_coins_60 ?_
        refine lv_iload hx hb d_Md_coins_63 (lv_at hl 0 rfl) ?_
        refine va_iald hx hb hK hP 12 11 rfl rfl (by unfold vp_in; decide +kernel) d_Md_coins_65 ?_
        refine hb_ti 0 rfl ?_
        refine lv_i2l hx hb d_Md_coins_66 rfl ?_
        refine hb_tl 0 (by decide +kernel) ?_
        refine lv_ladd hx hb d_Md_coins_67 ?_
        refine hb_tl 0 (by decide +kernel) ?_
        refine lv_lstore_n (lv' := [(2, .long 0), (4, .int 9), (0, .ref (a 0)), (1, .int p_0)]) hx hb d_Md_coins_68 rfl hl (by decide) rfl (fun ls hl => ?_)
        refine lv_iinc (v := 10) (lv' := [(4, .int 10), (2, .long 0), (0, .ref (a 0)), (1, .int p_0)]) hx hb d_Md_coins_69 hl (k := 1) rfl (by decide +kernel) (by decide) rfl (fun ls hl => ?_)
        refine lv_goto (tgt := 51) hx hb d_Md_coins_72 (by decide) ?_
        refine lv_iload hx hb d_Md_coins_51 (lv_at hl 0 rfl) ?_
        refine lv_bipush (v := 40) hx hb d_Md_coins_53 (by decide +kernel) ?_
        refine lv_icmp_ge (tgt := 75) hx hb d_Md_coins_55 (by decide) (fun h => absurd h (by decide +kernel)) (fun _ => ?_)
        refine lv_lload_n hx hb d_Md_coins_58 rfl (lv_at hl 1 rfl) ?_
        refine lv_aload_n hx hb d_Md_coins_59 rfl (lv_at hl 2 rfl) ?_
        refine va_get (D := (dC, dI)) (ci := 7) (v := .ref (a 12)) (C := R_Md) (T := F_Md) (N := 64) hx hb htb i_Md hown hK hP 0 rfl rfl 15 (by decide) (htb (.fieldLink R_Md 76 "WaterMenModel" "coins" "[I") tw_17) (fun _ h9 => h9) rfl d_Md_coins_60 ?_
        refine lv_iload hx hb d_Md_coins_63 (lv_at hl 0 rfl) ?_
        refine va_iald hx hb hK hP 12 11 rfl rfl (by unfold vp_in; decide +kernel) d_Md_coins_65 ?_
        refine hb_ti 0 rfl ?_
        refine lv_i2l hx hb d_Md_coins_66 rfl ?_
        refine hb_tl 0 (by decide +kernel) ?_
        refine lv_ladd hx hb d_Md_coins_67 ?_
        refine hb_tl 0 (by decide +kernel) ?_
        refine lv_lstore_n (lv' := [(2, .long 0), (4, .int 10), (0, .ref (a 0)), (1, .int p_0)]) hx hb d_Md_coins_68 rfl hl (by decide) rfl (fun ls hl => ?_)
        refine lv_iinc (v := 11) (lv' := [(4, .int 11), (2, .long 0), (0, .ref (a 0)), (1, .int p_0)]) hx hb d_Md_coins_69 hl (k := 1) rfl (by decide +kernel) (by decide) rfl (fun ls hl => ?_)
        refine lv_goto (tgt := 51) hx hb d_Md_coins_72 (by decide) ?_
        refine lv_iload hx hb d_Md_coins_51 (lv_at hl 0 rfl) ?_
        refine lv_bipush (v := 40) hx hb d_Md_coins_53 (by decide +kernel) ?_
        refine lv_icmp_ge (tgt := 75) hx hb d_Md_coins_55 (by decide) (fun h => absurd h (by decide +kernel)) (fun _ => ?_)
        refine lv_lload_n hx hb d_Md_coins_58 rfl (lv_at hl 1 rfl) ?_
        refine lv_aload_n hx hb d_Md_coins_59 rfl (lv_at hl 2 rfl) ?_
        refine va_get (D := (dC, dI)) (ci := 7) (v := .ref (a 12)) (C := R_Md) (T := F_Md) (N := 64) hx hb htb i_Md hown hK hP 0 rfl rfl 15 (by decide) (htb (.fieldLink R_Md 76 "WaterMenModel" "coins" "[I") tw_17) (fun _ h9 => h9) rfl d_Md_coins_60 ?_
        refine lv_iload hx hb d_Md_coins_63 (lv_at hl 0 rfl) ?_
        refine va_iald hx hb hK hP 12 11 rfl rfl (by unfold vp_in; decide +kernel) d_Md_coins_65 ?_
        refine hb_ti 0 rfl ?_
        refine lv_i2l hx hb d_Md_coins_66 rfl ?_
        refine hb_tl 0 (by decide +kernel) ?_
        refine lv_ladd hx hb d_Md_coins_67 ?_
        refine hb_tl 0 (by decide +kernel) ?_
        refine lv_lstore_n (lv' := [(2, .long 0), (4, .int 11), (0, .ref (a 0)), (1, .int p_0)]) hx hb d_Md_coins_68 rfl hl (by decide) rfl (fun ls hl => ?_)
        refine lv_iinc (v := 12) (lv' := [(4, .int 12), (2, .long 0), (0, .ref (a 0)), (1, .int p_0)]) hx hb d_Md_coins_69 hl (k := 1) rfl (by decide +kernel) (by decide) rfl (fun ls hl => ?_)
        refine lv_goto (tgt := 51) hx hb d_Md_coins_72 (by decide) ?_
        refine lv_iload hx hb d_Md_coins_51 (lv_at hl 0 rfl) ?_
        refine lv_bipush (v := 40) hx hb d_Md_coins_53 (by decide +kernel) ?_
        refine lv_icmp_ge (tgt := 75) hx hb d_Md_coins_55 (by decide) (fun h => absurd h (by decide +kernel)) (fun _ => ?_)
        refine lv_lload_n hx hb d_Md_coins_58 rfl (lv_at hl 1 rfl) ?_
        refine lv_aload_n hx hb d_Md_coins_59 rfl (lv_at hl 2 rfl) ?_
        refine va_get (D := (dC, dI)) (ci := 7) (v := .ref (a 12)) (C := R_Md) (T := F_Md) (N := 64) hx hb htb i_Md hown hK hP 0 rfl rfl 15 (by decide) (htb (.fieldLink R_Md 76 "WaterMenModel" "coins" "[I") tw_17) (fun _ h9 => h9) rfl d_Md_coins_60 ?_
        refine lv_iload hx hb d_Md_coins_63 (lv_at hl 0 rfl) ?_
        refine va_iald hx hb hK hP 12 11 rfl rfl (by unfold vp_in; decide +kernel) d_Md_coins_65 ?_
        refine hb_ti 0 rfl ?_
        refine lv_i2l hx hb d_Md_coins_66 rfl ?_
        refine hb_tl 0 (by decide +kernel) ?_
        refine lv_ladd hx hb d_Md_coins_67 ?_
        refine hb_tl 0 (by decide +kernel) ?_
        refine lv_lstore_n (lv' := [(2, .long 0), (4, .int 12), (0, .ref (a 0)), (1, .int p_0)]) hx hb d_Md_coins_68 rfl hl (by decide) rfl (fun ls hl => ?_)
        refine lv_iinc (v := 13) (lv' := [(4, .int 13), (2, .long 0), (0, .ref (a 0)), (1, .int p_0)]) hx hb d_Md_coins_69 hl (k := 1) rfl (by decide +kernel) (by decide) rfl (fun ls hl => ?_)
        refine lv_goto (tgt := 51) hx hb d_Md_coins_72 (by decide) ?_
        refine lv_iload hx hb d_Md_coins_51 (lv_at hl 0 rfl) ?_
        refine lv_bipush (v := 40) hx hb d_Md_coins_53 (by decide +kernel) ?_
        refine lv_icmp_ge (tgt := 75) hx hb d_Md_coins_55 (by decide) (fun h => absurd h (by decide +kernel)) (fun _ => ?_)
        refine lv_lload_n hx hb d_Md_coins_58 rfl (lv_at hl 1 rfl) ?_
        refine lv_aload_n hx hb d_Md_coins_59 rfl (lv_at hl 2 rfl) ?_
        refine va_get (D := (dC, dI)) (ci := 7) (v := .ref (a 12)) (C := R_Md) (T := F_Md) (N := 64) hx hb htb i_Md hown hK hP 0 rfl rfl 15 (by decide) (htb (.fieldLink R_Md 76 "WaterMenModel" "coins" "[I") tw_17) (fun _ h9 => h9) rfl d_Md_coins_60 ?_
        refine lv_iload hx hb d_Md_coins_63 (lv_at hl 0 rfl) ?_
        refine va_iald hx hb hK hP 12 11 rfl rfl (by unfold vp_in; decide +kernel) d_Md_coins_65 ?_
        refine hb_ti 0 rfl ?_
        refine lv_i2l hx hb d_Md_coins_66 rfl ?_
        refine hb_tl 0 (by decide +kernel) ?_
        refine lv_ladd hx hb d_Md_coins_67 ?_
        refine hb_tl 0 (by decide +kernel) ?_
        refine lv_lstore_n (lv' := [(2, .long 0), (4, .int 13), (0, .ref (a 0)), (1, .int p_0)]) hx hb d_Md_coins_68 rfl hl (by decide) rfl (fun ls hl => ?_)
        refine lv_iinc (v := 14) (lv' := [(4, .int 14), (2, .long 0), (0, .ref (a 0)), (1, .int p_0)]) hx hb d_Md_coins_69 hl (k := 1) rfl (by decide +kernel) (by decide) rfl (fun ls hl => ?_)
        refine lv_goto (tgt := 51) hx hb d_Md_coins_72 (by decide) ?_
        refine lv_iload hx hb d_Md_coins_51 (lv_at hl 0 rfl) ?_
        refine lv_bipush (v := 40) hx hb d_Md_coins_53 (by decide +kernel) ?_
        refine lv_icmp_ge (tgt := 75) hx hb d_Md_coins_55 (by decide) (fun h => absurd h (by decide +kernel)) (fun _ => ?_)
        refine lv_lload_n hx hb d_Md_coins_58 rfl (lv_at hl 1 rfl) ?_
        refine lv_aload_n hx hb d_Md_coins_59 rfl (lv_at hl 2 rfl) ?_
        refine va_get (D := (dC, dI)) (ci := 7) (v := .ref (a 12)) (C := R_Md) (T := F_Md) (N := 64) hx hb htb i_Md hown hK hP 0 rfl rfl 15 (by decide) (htb (.fieldLink R_Md 76 "WaterMenModel" "coins" "[I") tw_17) (fun _ h9 => h9) rfl d_Md_coins_60 ?_
        refine lv_iload hx hb d_Md_coins_63 (lv_at hl 0 rfl) ?_
        refine va_iald hx hb hK hP 12 11 rfl rfl (by unfold vp_in; decide +kernel) d_Md_coins_65 ?_
        refine hb_ti 0 rfl ?_
        refine lv_i2l hx hb d_Md_coins_66 rfl ?_
        refine hb_tl 0 (by decide +kernel) ?_
        refine lv_ladd hx hb d_Md_coins_67 ?_
        refine hb_tl 0 (by decide +kernel) ?_
        refine lv_lstore_n (lv' := [(2, .long 0), (4, .int 14), (0, .ref (a 0)), (1, .int p_0)]) hx hb d_Md_coins_68 rfl hl (by decide) rfl (fun ls hl => ?_)
        refine lv_iinc (v := 15) (lv' := [(4, .int 15), (2, .long 0), (0, .ref (a 0)), (1, .int p_0)]) hx hb d_Md_coins_69 hl (k := 1) rfl (by decide +kernel) (by decide) rfl (fun ls hl => ?_)
        refine lv_goto (tgt := 51) hx hb d_Md_coins_72 (by decide) ?_
        refine lv_iload hx hb d_Md_coins_51 (lv_at hl 0 rfl) ?_
        refine lv_bipush (v := 40) hx hb d_Md_coins_53 (by decide +kernel) ?_
        refine lv_icmp_ge (tgt := 75) hx hb d_Md_coins_55 (by decide) (fun h => absurd h (by decide +kernel)) (fun _ => ?_)
        refine lv_lload_n hx hb d_Md_coins_58 rfl (lv_at hl 1 rfl) ?_
        refine lv_aload_n hx hb d_Md_coins_59 rfl (lv_at hl 2 rfl) ?_
        refine va_get (D := (dC, dI)) (ci := 7) (v := .ref (a 12)) (C := R_Md) (T := F_Md) (N := 64) hx hb htb i_Md hown hK hP 0 rfl rfl 15 (by decide) (htb (.fieldLink R_Md 76 "WaterMenModel" "coins" "[I") tw_17) (fun _ h9 => h9) rfl d_Md_coins_60 ?_
        refine lv_iload hx hb d_Md_coins_63 (lv_at hl 0 rfl) ?_
        refine va_iald hx hb hK hP 12 11 rfl rfl (by unfold vp_in; decide +kernel) d_Md_coins_65 ?_
        refine hb_ti 0 rfl ?_
        refine lv_i2l hx hb d_Md_coins_66 rfl ?_
        refine hb_tl 0 (by decide +kernel) ?_
        refine lv_ladd hx hb d_Md_coins_67 ?_
        refine hb_tl 0 (by decide +kernel) ?_
        refine lv_lstore_n (lv' := [(2, .long 0), (4, .int 15), (0, .ref (a 0)), (1, .int p_0)]) hx hb d_Md_coins_68 rfl hl (by decide) rfl (fun ls hl => ?_)
        refine lv_iinc (v := 16) (lv' := [(4, .int 16), (2, .long 0), (0, .ref (a 0)), (1, .int p_0)]) hx hb d_Md_coins_69 hl (k := 1) rfl (by decide +kernel) (by decide) rfl (fun ls hl => ?_)
        refine lv_goto (tgt := 51) hx hb d_Md_coins_72 (by decide) ?_
        refine lv_iload hx hb d_Md_coins_51 (lv_at hl 0 rfl) ?_
        refine lv_bipush (v := 40) hx hb d_Md_coins_53 (by decide +kernel) ?_
        refine lv_icmp_ge (tgt := 75) hx hb d_Md_coins_55 (by decide) (fun h => absurd h (by decide +kernel)) (fun _ => ?_)
        refine lv_lload_n hx hb d_Md_coins_58 rfl (lv_at hl 1 rfl) ?_
        refine lv_aload_n hx hb d_Md_coins_59 rfl (lv_at hl 2 rfl) ?_
        refine va_get (D := (dC, dI)) (ci := 7) (v := .ref (a 12)) (C := R_Md) (T := F_Md) (N := 64) hx hb htb i_Md hown hK hP 0 rfl rfl 15 (by decide) (htb (.fieldLink R_Md 76 "WaterMenModel" "coins" "[I") tw_17) (fun _ h9 => h9) rfl d_Md_coins_60 ?_
        refine lv_iload hx hb d_Md_coins_63 (lv_at hl 0 rfl) ?_
        refine va_iald hx hb hK hP 12 11 rfl rfl (by unfold vp_in; decide +kernel) d_Md_coins_65 ?_
        refine hb_ti 0 rfl ?_
        refine lv_i2l hx hb d_Md_coins_66 rfl ?_
        refine hb_tl 0 (by decide +kernel) ?_
        refine lv_ladd hx hb d_Md_coins_67 ?_
        refine hb_tl 0 (by decide +kernel) ?_
        refine lv_lstore_n (lv' := [(2, .long 0), (4, .int 16), (0, .ref (a 0)), (1, .int p_0)]) hx hb d_Md_coins_68 rfl hl (by decide) rfl (fun ls hl => ?_)
        refine lv_iinc (v := 17) (lv' := [(4, .int 17), (2, .long 0), (0, .ref (a 0)), (1, .int p_0)]) hx hb d_Md_coins_69 hl (k := 1) rfl (by decide +kernel) (by decide) rfl (fun ls hl => ?_)
        refine lv_goto (tgt := 51) hx hb d_Md_coins_72 (by decide) ?_
        refine lv_iload hx hb d_Md_coins_51 (lv_at hl 0 rfl) ?_
        refine lv_bipush (v := 40) hx hb d_Md_coins_53 (by decide +kernel) ?_
        refine lv_icmp_ge (tgt := 75) hx hb d_Md_coins_55 (by decide) (fun h => absurd h (by decide +kernel)) (fun _ => ?_)
        refine lv_lload_n hx hb d_Md_coins_58 rfl (lv_at hl 1 rfl) ?_
        refine lv_aload_n hx hb d_Md_coins_59 rfl (lv_at hl 2 rfl) ?_
        refine va_get (D := (dC, dI)) (ci := 7) (v := .ref (a 12)) (C := R_Md) (T := F_Md) (N := 64) hx hb htb i_Md hown hK hP 0 rfl rfl 15 (by decide) (htb (.fieldLink R_Md 76 "WaterMenModel" "coins" "[I") tw_17) (fun _ h9 => h9) rfl d_Md_coins_60 ?_
        refine lv_iload hx hb d_Md_coins_63 (lv_at hl 0 rfl) ?_
        refine va_iald hx hb hK hP 12 11 rfl rfl (by unfold vp_in; decide +kernel) d_Md_coins_65 ?_
        refine hb_ti 0 rfl ?_
        refine lv_i2l hx hb d_Md_coins_66 rfl ?_
        refine hb_tl 0 (by decide +kernel) ?_
        refine lv_ladd hx hb d_Md_coins_67 ?_
        refine hb_tl 0 (by decide +kernel) ?_
        refine lv_lstore_n (lv' := [(2, .long 0), (4, .int 17), (0, .ref (a 0)), (1, .int p_0)]) hx hb d_Md_coins_68 rfl hl (by decide) rfl (fun ls hl => ?_)
        refine lv_iinc (v := 18) (lv' := [(4, .int 18), (2, .long 0), (0, .ref (a 0)), (1, .int p_0)]) hx hb d_Md_coins_69 hl (k := 1) rfl (by decide +kernel) (by decide) rfl (fun ls hl => ?_)
        refine lv_goto (tgt := 51) hx hb d_Md_coins_72 (by decide) ?_
        refine lv_iload hx hb d_Md_coins_51 (lv_at hl 0 rfl) ?_
        refine lv_bipush (v := 40) hx hb d_Md_coins_53 (by decide +kernel) ?_
        refine lv_icmp_ge (tgt := 75) hx hb d_Md_coins_55 (by decide) (fun h => absurd h (by decide +kernel)) (fun _ => ?_)
        refine lv_lload_n hx hb d_Md_coins_58 rfl (lv_at hl 1 rfl) ?_
        refine lv_aload_n hx hb d_Md_coins_59 rfl (lv_at hl 2 rfl) ?_
        refine va_get (D := (dC, dI)) (ci := 7) (v := .ref (a 12)) (C := R_Md) (T := F_Md) (N := 64) hx hb htb i_Md hown hK hP 0 rfl rfl 15 (by decide) (htb (.fieldLink R_Md 76 "WaterMenModel" "coins" "[I") tw_17) (fun _ h9 => h9) rfl d_Md_coins_60 ?_
        refine lv_iload hx hb d_Md_coins_63 (lv_at hl 0 rfl) ?_
        refine va_iald hx hb hK hP 12 11 rfl rfl (by unfold vp_in; decide +kernel) d_Md_coins_65 ?_
        refine hb_ti 0 rfl ?_
        refine lv_i2l hx hb d_Md_coins_66 rfl ?_
        refine hb_tl 0 (by decide +kernel) ?_
        refine lv_ladd hx hb d_Md_coins_67 ?_
        refine hb_tl 0 (by decide +kernel) ?_
        refine lv_lstore_n (lv' := [(2, .long 0), (4, .int 18), (0, .ref (a 0)), (1, .int p_0)]) hx hb d_Md_coins_68 rfl hl (by decide) rfl (fun ls hl => ?_)
        refine lv_iinc (v := 19) (lv' := [(4, .int 19), (2, .long 0), (0, .ref (a 0)), (1, .int p_0)]) hx hb d_Md_coins_69 hl (k := 1) rfl (by decide +kernel) (by decide) rfl (fun ls hl => ?_)
        refine lv_goto (tgt := 51) hx hb d_Md_coins_72 (by decide) ?_
        refine lv_iload hx hb d_Md_coins_51 (lv_at hl 0 rfl) ?_
        refine lv_bipush (v := 40) hx hb d_Md_coins_53 (by decide +kernel) ?_
        refine lv_icmp_ge (tgt := 75) hx hb d_Md_coins_55 (by decide) (fun h => absurd h (by decide +kernel)) (fun _ => ?_)
        refine lv_lload_n hx hb d_Md_coins_58 rfl (lv_at hl 1 rfl) ?_
        refine lv_aload_n hx hb d_Md_coins_59 rfl (lv_at hl 2 rfl) ?_
        refine va_get (D := (dC, dI)) (ci := 7) (v := .ref (a 12)) (C := R_Md) (T := F_Md) (N := 64) hx hb htb i_Md hown hK hP 0 rfl rfl 15 (by decide) (htb (.fieldLink R_Md 76 "WaterMenModel" "coins" "[I") tw_17) (fun _ h9 => h9) rfl d_Md_coins_60 ?_
        refine lv_iload hx hb d_Md_coins_63 (lv_at hl 0 rfl) ?_
        refine va_iald hx hb hK hP 12 11 rfl rfl (by unfold vp_in; decide +kernel) d_Md_coins_65 ?_
        refine hb_ti 0 rfl ?_
        refine lv_i2l hx hb d_Md_coins_66 rfl ?_
        refine hb_tl 0 (by decide +kernel) ?_
        refine lv_ladd hx hb d_Md_coins_67 ?_
        refine hb_tl 0 (by decide +kernel) ?_
        refine lv_lstore_n (lv' := [(2, .long 0), (4, .int 19), (0, .ref (a 0)), (1, .int p_0)]) hx hb d_Md_coins_68 rfl hl (by decide) rfl (fun ls hl => ?_)
        refine lv_iinc (v := 20) (lv' := [(4, .int 20), (2, .long 0), (0, .ref (a 0)), (1, .int p_0)]) hx hb d_Md_coins_69 hl (k := 1) rfl (by decide +kernel) (by decide) rfl (fun ls hl => ?_)
        refine lv_goto (tgt := 51) hx hb d_Md_coins_72 (by decide) ?_
        refine lv_iload hx hb d_Md_coins_51 (lv_at hl 0 rfl) ?_
        refine lv_bipush (v := 40) hx hb d_Md_coins_53 (by decide +kernel) ?_
        refine lv_icmp_ge (tgt := 75) hx hb d_Md_coins_55 (by decide) (fun h => absurd h (by decide +kernel)) (fun _ => ?_)
        refine lv_lload_n hx hb d_Md_coins_58 rfl (lv_at hl 1 rfl) ?_
        refine lv_aload_n hx hb d_Md_coins_59 rfl (lv_at hl 2 rfl) ?_
        refine va_get (D := (dC, dI)) (ci := 7) (v := .ref (a 12)) (C := R_Md) (T := F_Md) (N := 64) hx hb htb i_Md hown hK hP 0 rfl rfl 15 (by decide) (htb (.fieldLink R_Md 76 "WaterMenModel" "coins" "[I") tw_17) (fun _ h9 => h9) rfl d_Md_coins_60 ?_
        refine lv_iload hx hb d_Md_coins_63 (lv_at hl 0 rfl) ?_
        refine va_iald hx hb hK hP 12 11 rfl rfl (by unfold vp_in; decide +kernel) d_Md_coins_65 ?_
        refine hb_ti 0 rfl ?_
        refine lv_i2l hx hb d_Md_coins_66 rfl ?_
        refine hb_tl 0 (by decide +kernel) ?_
        refine lv_ladd hx hb d_Md_coins_67 ?_
        refine hb_tl 0 (by decide +kernel) ?_
        refine lv_lstore_n (lv' := [(2, .long 0), (4, .int 20), (0, .ref (a 0)), (1, .int p_0)]) hx hb d_Md_coins_68 rfl hl (by decide) rfl (fun ls hl => ?_)
        refine lv_iinc (v := 21) (lv' := [(4, .int 21), (2, .long 0), (0, .ref (a 0)), (1, .int p_0)]) hx hb d_Md_coins_69 hl (k := 1) rfl (by decide +kernel) (by decide) rfl (fun ls hl => ?_)
        refine lv_goto (tgt := 51) hx hb d_Md_coins_72 (by decide) ?_
        refine lv_iload hx hb d_Md_coins_51 (lv_at hl 0 rfl) ?_
        refine lv_bipush (v := 40) hx hb d_Md_coins_53 (by decide +kernel) ?_
        refine lv_icmp_ge (tgt := 75) hx hb d_Md_coins_55 (by decide) (fun h => absurd h (by decide +kernel)) (fun _ => ?_)
        refine lv_lload_n hx hb d_Md_coins_58 rfl (lv_at hl 1 rfl) ?_
        refine lv_aload_n hx hb d_Md_coins_59 rfl (lv_at hl 2 rfl) ?_
        refine va_get (D := (dC, dI)) (ci := 7) (v := .ref (a 12)) (C := R_Md) (T := F_Md) (N := 64) hx hb htb i_Md hown hK hP 0 rfl rfl 15 (by decide) (htb (.fieldLink R_Md 76 "WaterMenModel" "coins" "[I") tw_17) (fun _ h9 => h9) rfl d_Md_coins_60 ?_
        refine lv_iload hx hb d_Md_coins_63 (lv_at hl 0 rfl) ?_
        refine va_iald hx hb hK hP 12 11 rfl rfl (by unfold vp_in; decide +kernel) d_Md_coins_65 ?_
        refine hb_ti 0 rfl ?_
        refine lv_i2l hx hb d_Md_coins_66 rfl ?_
        refine hb_tl 0 (by decide +kernel) ?_
        refine lv_ladd hx hb d_Md_coins_67 ?_
        refine hb_tl 0 (by decide +kernel) ?_
        refine lv_lstore_n (lv' := [(2, .long 0), (4, .int 21), (0, .ref (a 0)), (1, .int p_0)]) hx hb d_Md_coins_68 rfl hl (by decide) rfl (fun ls hl => ?_)
        refine lv_iinc (v := 22) (lv' := [(4, .int 22), (2, .long 0), (0, .ref (a 0)), (1, .int p_0)]) hx hb d_Md_coins_69 hl (k := 1) rfl (by decide +kernel) (by decide) rfl (fun ls hl => ?_)
        refine lv_goto (tgt := 51) hx hb d_Md_coins_72 (by decide) ?_
        refine lv_iload hx hb d_Md_coins_51 (lv_at hl 0 rfl) ?_
        refine lv_bipush (v := 40) hx hb d_Md_coins_53 (by decide +kernel) ?_
        refine lv_icmp_ge (tgt := 75) hx hb d_Md_coins_55 (by decide) (fun h => absurd h (by decide +kernel)) (fun _ => ?_)
        refine lv_lload_n hx hb d_Md_coins_58 rfl (lv_at hl 1 rfl) ?_
        refine lv_aload_n hx hb d_Md_coins_59 rfl (lv_at hl 2 rfl) ?_
        refine va_get (D := (dC, dI)) (ci := 7) (v := .ref (a 12)) (C := R_Md) (T := F_Md) (N := 64) hx hb htb i_Md hown hK hP 0 rfl rfl 15 (by decide) (htb (.fieldLink R_Md 76 "WaterMenModel" "coins" "[I") tw_17) (fun _ h9 => h9) rfl d_Md_coins_60 ?_
        refine lv_iload hx hb d_Md_coins_63 (lv_at hl 0 rfl) ?_
        refine va_iald hx hb hK hP 12 11 rfl rfl (by unfold vp_in; decide +kernel) d_Md_coins_65 ?_
        refine hb_ti 0 rfl ?_
        refine lv_i2l hx hb d_Md_coins_66 rfl ?_
        refine hb_tl 0 (by decide +kernel) ?_
        refine lv_ladd hx hb d_Md_coins_67 ?_
        refine hb_tl 0 (by decide +kernel) ?_
        refine lv_lstore_n (lv' := [(2, .long 0), (4, .int 22), (0, .ref (a 0)), (1, .int p_0)]) hx hb d_Md_coins_68 rfl hl (by decide) rfl (fun ls hl => ?_)
        refine lv_iinc (v := 23) (lv' := [(4, .int 23), (2, .long 0), (0, .ref (a 0)), (1, .int p_0)]) hx hb d_Md_coins_69 hl (k := 1) rfl (by decide +kernel) (by decide) rfl (fun ls hl => ?_)
        refine lv_goto (tgt := 51) hx hb d_Md_coins_72 (by decide) ?_
        refine lv_iload hx hb d_Md_coins_51 (lv_at hl 0 rfl) ?_
        refine lv_bipush (v := 40) hx hb d_Md_coins_53 (by decide +kernel) ?_
        refine lv_icmp_ge (tgt := 75) hx hb d_Md_coins_55 (by decide) (fun h => absurd h (by decide +kernel)) (fun _ => ?_)
        refine lv_lload_n hx hb d_Md_coins_58 rfl (lv_at hl 1 rfl) ?_
        refine lv_aload_n hx hb d_Md_coins_59 rfl (lv_at hl 2 rfl) ?_
        refine va_get (D := (dC, dI)) (ci := 7) (v := .ref (a 12)) (C := R_Md) (T := F_Md) (N := 64) hx hb htb i_Md hown hK hP 0 rfl rfl 15 (by decide) (htb (.fieldLink R_Md 76 "WaterMenModel" "coins" "[I") tw_17) (fun _ h9 => h9) rfl d_Md_coins_60 ?_
        refine lv_iload hx hb d_Md_coins_63 (lv_at hl 0 rfl) ?_
        refine va_iald hx hb hK hP 12 11 rfl rfl (by unfold vp_in; decide +kernel) d_Md_coins_65 ?_
        refine hb_ti 0 rfl ?_
        refine lv_i2l hx hb d_Md_coins_66 rfl ?_
        refine hb_tl 0 (by decide +kernel) ?_
        refine lv_ladd hx hb d_Md_coins_67 ?_
        refine hb_tl 0 (by decide +kernel) ?_
        refine lv_lstore_n (lv' := [(2, .long 0), (4, .int 23), (0, .ref (a 0)), (1, .int p_0)]) hx hb d_Md_coins_68 rfl hl (by decide) rfl (fun ls hl => ?_)
        refine lv_iinc (v := 24) (lv' := [(4, .int 24), (2, .long 0), (0, .ref (a 0)), (1, .int p_0)]) hx hb d_Md_coins_69 hl (k := 1) rfl (by decide +kernel) (by decide) rfl (fun ls hl => ?_)
        refine lv_goto (tgt := 51) hx hb d_Md_coins_72 (by decide) ?_
        refine lv_iload hx hb d_Md_coins_51 (lv_at hl 0 rfl) ?_
        refine lv_bipush (v := 40) hx hb d_Md_coins_53 (by decide +kernel) ?_
        refine lv_icmp_ge (tgt := 75) hx hb d_Md_coins_55 (by decide) (fun h => absurd h (by decide +kernel)) (fun _ => ?_)
        refine lv_lload_n hx hb d_Md_coins_58 rfl (lv_at hl 1 rfl) ?_
        refine lv_aload_n hx hb d_Md_coins_59 rfl (lv_at hl 2 rfl) ?_
        refine va_get (D := (dC, dI)) (ci := 7) (v := .ref (a 12)) (C := R_Md) (T := F_Md) (N := 64) hx hb htb i_Md hown hK hP 0 rfl rfl 15 (by decide) (htb (.fieldLink R_Md 76 "WaterMenModel" "coins" "[I") tw_17) (fun _ h9 => h9) rfl d_Md_coins_60 ?_
        refine lv_iload hx hb d_Md_coins_63 (lv_at hl 0 rfl) ?_
        refine va_iald hx hb hK hP 12 11 rfl rfl (by unfold vp_in; decide +kernel) d_Md_coins_65 ?_
        refine hb_ti 0 rfl ?_
        refine lv_i2l hx hb d_Md_coins_66 rfl ?_
        refine hb_tl 0 (by decide +kernel) ?_
        refine lv_ladd hx hb d_Md_coins_67 ?_
        refine hb_tl 0 (by decide +kernel) ?_
        refine lv_lstore_n (lv' := [(2, .long 0), (4, .int 24), (0, .ref (a 0)), (1, .int p_0)]) hx hb d_Md_coins_68 rfl hl (by decide) rfl (fun ls hl => ?_)
        refine lv_iinc (v := 25) (lv' := [(4, .int 25), (2, .long 0), (0, .ref (a 0)), (1, .int p_0)]) hx hb d_Md_coins_69 hl (k := 1) rfl (by decide +kernel) (by decide) rfl (fun ls hl => ?_)
        refine lv_goto (tgt := 51) hx hb d_Md_coins_72 (by decide) ?_
        refine lv_iload hx hb d_Md_coins_51 (lv_at hl 0 rfl) ?_
        refine lv_bipush (v := 40) hx hb d_Md_coins_53 (by decide +kernel) ?_
        refine lv_icmp_ge (tgt := 75) hx hb d_Md_coins_55 (by decide) (fun h => absurd h (by decide +kernel)) (fun _ => ?_)
        refine lv_lload_n hx hb d_Md_coins_58 rfl (lv_at hl 1 rfl) ?_
        refine lv_aload_n hx hb d_Md_coins_59 rfl (lv_at hl 2 rfl) ?_
        refine va_get (D := (dC, dI)) (ci := 7) (v := .ref (a 12)) (C := R_Md) (T := F_Md) (N := 64) hx hb htb i_Md hown hK hP 0 rfl rfl 15 (by decide) (htb (.fieldLink R_Md 76 "WaterMenModel" "coins" "[I") tw_17) (fun _ h9 => h9) rfl d_Md_coins_60 ?_
        refine lv_iload hx hb d_Md_coins_63 (lv_at hl 0 rfl) ?_
        refine va_iald hx hb hK hP 12 11 rfl rfl (by unfold vp_in; decide +kernel) d_Md_coins_65 ?_
        refine hb_ti 0 rfl ?_
        refine lv_i2l hx hb d_Md_coins_66 rfl ?_
        refine hb_tl 0 (by decide +kernel) ?_
        refine lv_ladd hx hb d_Md_coins_67 ?_
        refine hb_tl 0 (by decide +kernel) ?_
        refine lv_lstore_n (lv' := [(2, .long 0), (4, .int 25), (0, .ref (a 0)), (1, .int p_0)]) hx hb d_Md_coins_68 rfl hl (by decide) rfl (fun ls hl => ?_)
        refine lv_iinc (v := 26) (lv' := [(4, .int 26), (2, .long 0), (0, .ref (a 0)), (1, .int p_0)]) hx hb d_Md_coins_69 hl (k := 1) rfl (by decide +kernel) (by decide) rfl (fun ls hl => ?_)
        refine lv_goto (tgt := 51) hx hb d_Md_coins_72 (by decide) ?_
        refine lv_iload hx hb d_Md_coins_51 (lv_at hl 0 rfl) ?_
        refine lv_bipush (v := 40) hx hb d_Md_coins_53 (by decide +kernel) ?_
        refine lv_icmp_ge (tgt := 75) hx hb d_Md_coins_55 (by decide) (fun h => absurd h (by decide +kernel)) (fun _ => ?_)
        refine lv_lload_n hx hb d_Md_coins_58 rfl (lv_at hl 1 rfl) ?_
        refine lv_aload_n hx hb d_Md_coins_59 rfl (lv_at hl 2 rfl) ?_
        refine va_get (D := (dC, dI)) (ci := 7) (v := .ref (a 12)) (C := R_Md) (T := F_Md) (N := 64) hx hb htb i_Md hown hK hP 0 rfl rfl 15 (by decide) (htb (.fieldLink R_Md 76 "WaterMenModel" "coins" "[I") tw_17) (fun _ h9 => h9) rfl d_Md_coins_60 ?_
        refine lv_iload hx hb d_Md_coins_63 (lv_at hl 0 rfl) ?_
        refine va_iald hx hb hK hP 12 11 rfl rfl (by unfold vp_in; decide +kernel) d_Md_coins_65 ?_
        refine hb_ti 0 rfl ?_
        refine lv_i2l hx hb d_Md_coins_66 rfl ?_
        refine hb_tl 0 (by decide +kernel) ?_
        refine lv_ladd hx hb d_Md_coins_67 ?_
        refine hb_tl 0 (by decide +kernel) ?_
        refine lv_lstore_n (lv' := [(2, .long 0), (4, .int 26), (0, .ref (a 0)), (1, .int p_0)]) hx hb d_Md_coins_68 rfl hl (by decide) rfl (fun ls hl => ?_)
        refine lv_iinc (v := 27) (lv' := [(4, .int 27), (2, .long 0), (0, .ref (a 0)), (1, .int p_0)]) hx hb d_Md_coins_69 hl (k := 1) rfl (by decide +kernel) (by decide) rfl (fun ls hl => ?_)
        refine lv_goto (tgt := 51) hx hb d_Md_coins_72 (by decide) ?_
        refine lv_iload hx hb d_Md_coins_51 (lv_at hl 0 rfl) ?_
        refine lv_bipush (v := 40) hx hb d_Md_coins_53 (by decide +kernel) ?_
        refine lv_icmp_ge (tgt := 75) hx hb d_Md_coins_55 (by decide) (fun h => absurd h (by decide +kernel)) (fun _ => ?_)
        refine lv_lload_n hx hb d_Md_coins_58 rfl (lv_at hl 1 rfl) ?_
        refine lv_aload_n hx hb d_Md_coins_59 rfl (lv_at hl 2 rfl) ?_
        refine va_get (D := (dC, dI)) (ci := 7) (v := .ref (a 12)) (C := R_Md) (T := F_Md) (N := 64) hx hb htb i_Md hown hK hP 0 rfl rfl 15 (by decide) (htb (.fieldLink R_Md 76 "WaterMenModel" "coins" "[I") tw_17) (fun _ h9 => h9) rfl d_Md_coins_60 ?_
        refine lv_iload hx hb d_Md_coins_63 (lv_at hl 0 rfl) ?_
        refine va_iald hx hb hK hP 12 11 rfl rfl (by unfold vp_in; decide +kernel) d_Md_coins_65 ?_
        refine hb_ti 0 rfl ?_
        refine lv_i2l hx hb d_Md_coins_66 rfl ?_
        refine hb_tl 0 (by decide +kernel) ?_
        refine lv_ladd hx hb d_Md_coins_67 ?_
        refine hb_tl 0 (by decide +kernel) ?_
        refine lv_lstore_n (lv' := [(2, .long 0), (4, .int 27), (0, .ref (a 0)), (1, .int p_0)]) hx hb d_Md_coins_68 rfl hl (by decide) rfl (fun ls hl => ?_)
        refine lv_iinc (v := 28) (lv' := [(4, .int 28), (2, .long 0), (0, .ref (a 0)), (1, .int p_0)]) hx hb d_Md_coins_69 hl (k := 1) rfl (by decide +kernel) (by decide) rfl (fun ls hl => ?_)
        refine lv_goto (tgt := 51) hx hb d_Md_coins_72 (by decide) ?_
        refine lv_iload hx hb d_Md_coins_51 (lv_at hl 0 rfl) ?_
        refine lv_bipush (v := 40) hx hb d_Md_coins_53 (by decide +kernel) ?_
        refine lv_icmp_ge (tgt := 75) hx hb d_Md_coins_55 (by decide) (fun h => absurd h (by decide +kernel)) (fun _ => ?_)
        refine lv_lload_n hx hb d_Md_coins_58 rfl (lv_at hl 1 rfl) ?_
        refine lv_aload_n hx hb d_Md_coins_59 rfl (lv_at hl 2 rfl) ?_
        refine va_get (D := (dC, dI)) (ci := 7) (v := .ref (a 12)) (C := R_Md) (T := F_Md) (N := 64) hx hb htb i_Md hown hK hP 0 rfl rfl 15 (by decide) (htb (.fieldLink R_Md 76 "WaterMenModel" "coins" "[I") tw_17) (fun _ h9 => h9) rfl d_Md_coins_60 ?_
        refine lv_iload hx hb d_Md_coins_63 (lv_at hl 0 rfl) ?_
        refine va_iald hx hb hK hP 12 11 rfl rfl (by unfold vp_in; decide +kernel) d_Md_coins_65 ?_
        refine hb_ti 0 rfl ?_
        refine lv_i2l hx hb d_Md_coins_66 rfl ?_
        refine hb_tl 0 (by decide +kernel) ?_
        refine lv_ladd hx hb d_Md_coins_67 ?_
        refine hb_tl 0 (by decide +kernel) ?_
        refine lv_lstore_n (lv' := [(2, .long 0), (4, .int 28), (0, .ref (a 0)), (1, .int p_0)]) hx hb d_Md_coins_68 rfl hl (by decide) rfl (fun ls hl => ?_)
        refine lv_iinc (v := 29) (lv' := [(4, .int 29), (2, .long 0), (0, .ref (a 0)), (1, .int p_0)]) hx hb d_Md_coins_69 hl (k := 1) rfl (by decide +kernel) (by decide) rfl (fun ls hl => ?_)
        refine lv_goto (tgt := 51) hx hb d_Md_coins_72 (by decide) ?_
        refine lv_iload hx hb d_Md_coins_51 (lv_at hl 0 rfl) ?_
        refine lv_bipush (v := 40) hx hb d_Md_coins_53 (by decide +kernel) ?_
        refine lv_icmp_ge (tgt := 75) hx hb d_Md_coins_55 (by decide) (fun h => absurd h (by decide +kernel)) (fun _ => ?_)
        refine lv_lload_n hx hb d_Md_coins_58 rfl (lv_at hl 1 rfl) ?_
        refine lv_aload_n hx hb d_Md_coins_59 rfl (lv_at hl 2 rfl) ?_
        refine va_get (D := (dC, dI)) (ci := 7) (v := .ref (a 12)) (C := R_Md) (T := F_Md) (N := 64) hx hb htb i_Md hown hK hP 0 rfl rfl 15 (by decide) (htb (.fieldLink R_Md 76 "WaterMenModel" "coins" "[I") tw_17) (fun _ h9 => h9) rfl d_Md_coins_60 ?_
        refine lv_iload hx hb d_Md_coins_63 (lv_at hl 0 rfl) ?_
        refine va_iald hx hb hK hP 12 11 rfl rfl (by unfold vp_in; decide +kernel) d_Md_coins_65 ?_
        refine hb_ti 0 rfl ?_
        refine lv_i2l hx hb d_Md_coins_66 rfl ?_
        refine hb_tl 0 (by decide +kernel) ?_
        refine lv_ladd hx hb d_Md_coins_67 ?_
        refine hb_tl 0 (by decide +kernel) ?_
        refine lv_lstore_n (lv' := [(2, .long 0), (4, .int 29), (0, .ref (a 0)), (1, .int p_0)]) hx hb d_Md_coins_68 rfl hl (by decide) rfl (fun ls hl => ?_)
        refine lv_iinc (v := 30) (lv' := [(4, .int 30), (2, .long 0), (0, .ref (a 0)), (1, .int p_0)]) hx hb d_Md_coins_69 hl (k := 1) rfl (by decide +kernel) (by decide) rfl (fun ls hl => ?_)
        refine lv_goto (tgt := 51) hx hb d_Md_coins_72 (by decide) ?_
        refine lv_iload hx hb d_Md_coins_51 (lv_at hl 0 rfl) ?_
        refine lv_bipush (v := 40) hx hb d_Md_coins_53 (by decide +kernel) ?_
        refine lv_icmp_ge (tgt := 75) hx hb d_Md_coins_55 (by decide) (fun h => absurd h (by decide +kernel)) (fun _ => ?_)
        refine lv_lload_n hx hb d_Md_coins_58 rfl (lv_at hl 1 rfl) ?_
        refine lv_aload_n hx hb d_Md_coins_59 rfl (lv_at hl 2 rfl) ?_
        refine va_get (D := (dC, dI)) (ci := 7) (v := .ref (a 12)) (C := R_Md) (T := F_Md) (N := 64) hx hb htb i_Md hown hK hP 0 rfl rfl 15 (by decide) (htb (.fieldLink R_Md 76 "WaterMenModel" "coins" "[I") tw_17) (fun _ h9 => h9) rfl d_Md_coins_60 ?_
        refine lv_iload hx hb d_Md_coins_63 (lv_at hl 0 rfl) ?_
        refine va_iald hx hb hK hP 12 11 rfl rfl (by unfold vp_in; decide +kernel) d_Md_coins_65 ?_
        refine hb_ti 0 rfl ?_
        refine lv_i2l hx hb d_Md_coins_66 rfl ?_
        refine hb_tl 0 (by decide +kernel) ?_
        refine lv_ladd hx hb d_Md_coins_67 ?_
        refine hb_tl 0 (by decide +kernel) ?_
        refine lv_lstore_n (lv' := [(2, .long 0), (4, .int 30), (0, .ref (a 0)), (1, .int p_0)]) hx hb d_Md_coins_68 rfl hl (by decide) rfl (fun ls hl => ?_)
        refine lv_iinc (v := 31) (lv' := [(4, .int 31), (2, .long 0), (0, .ref (a 0)), (1, .int p_0)]) hx hb d_Md_coins_69 hl (k := 1) rfl (by decide +kernel) (by decide) rfl (fun ls hl => ?_)
        refine lv_goto (tgt := 51) hx hb d_Md_coins_72 (by decide) ?_
        refine lv_iload hx hb d_Md_coins_51 (lv_at hl 0 rfl) ?_
        refine lv_bipush (v := 40) hx hb d_Md_coins_53 (by decide +kernel) ?_
        refine lv_icmp_ge (tgt := 75) hx hb d_Md_coins_55 (by decide) (fun h => absurd h (by decide +kernel)) (fun _ => ?_)
        refine lv_lload_n hx hb d_Md_coins_58 rfl (lv_at hl 1 rfl) ?_
        refine lv_aload_n hx hb d_Md_coins_59 rfl (lv_at hl 2 rfl) ?_
        refine va_get (D := (dC, dI)) (ci := 7) (v := .ref (a 12)) (C := R_Md) (T := F_Md) (N := 64) hx hb htb i_Md hown hK hP 0 rfl rfl 15 (by decide) (htb (.fieldLink R_Md 76 "WaterMenModel" "coins" "[I") tw_17) (fun _ h9 => h9) rfl d_Md_coins_60 ?_
        refine lv_iload hx hb d_Md_coins_63 (lv_at hl 0 rfl) ?_
        refine va_iald hx hb hK hP 12 11 rfl rfl (by unfold vp_in; decide +kernel) d_Md_coins_65 ?_
        refine hb_ti 0 rfl ?_
        refine lv_i2l hx hb d_Md_coins_66 rfl ?_
        refine hb_tl 0 (by decide +kernel) ?_
        refine lv_ladd hx hb d_Md_coins_67 ?_
        refine hb_tl 0 (by decide +kernel) ?_
        refine lv_lstore_n (lv' := [(2, .long 0), (4, .int 31), (0, .ref (a 0)), (1, .int p_0)]) hx hb d_Md_coins_68 rfl hl (by decide) rfl (fun ls hl => ?_)
        refine lv_iinc (v := 32) (lv' := [(4, .int 32), (2, .long 0), (0, .ref (a 0)), (1, .int p_0)]) hx hb d_Md_coins_69 hl (k := 1) rfl (by decide +kernel) (by decide) rfl (fun ls hl => ?_)
        refine lv_goto (tgt := 51) hx hb d_Md_coins_72 (by decide) ?_
        refine lv_iload hx hb d_Md_coins_51 (lv_at hl 0 rfl) ?_
        refine lv_bipush (v := 40) hx hb d_Md_coins_53 (by decide +kernel) ?_
        refine lv_icmp_ge (tgt := 75) hx hb d_Md_coins_55 (by decide) (fun h => absurd h (by decide +kernel)) (fun _ => ?_)
        refine lv_lload_n hx hb d_Md_coins_58 rfl (lv_at hl 1 rfl) ?_
        refine lv_aload_n hx hb d_Md_coins_59 rfl (lv_at hl 2 rfl) ?_
        refine va_get (D := (dC, dI)) (ci := 7) (v := .ref (a 12)) (C := R_Md) (T := F_Md) (N := 64) hx hb htb i_Md hown hK hP 0 rfl rfl 15 (by decide) (htb (.fieldLink R_Md 76 "WaterMenModel" "coins" "[I") tw_17) (fun _ h9 => h9) rfl d_Md_coins_60 ?_
        refine lv_iload hx hb d_Md_coins_63 (lv_at hl 0 rfl) ?_
        refine va_iald hx hb hK hP 12 11 rfl rfl (by unfold vp_in; decide +kernel) d_Md_coins_65 ?_
        refine hb_ti 0 rfl ?_
        refine lv_i2l hx hb d_Md_coins_66 rfl ?_
        refine hb_tl 0 (by decide +kernel) ?_
        refine lv_ladd hx hb d_Md_coins_67 ?_
        refine hb_tl 0 (by decide +kernel) ?_
        refine lv_lstore_n (lv' := [(2, .long 0), (4, .int 32), (0, .ref (a 0)), (1, .int p_0)]) hx hb d_Md_coins_68 rfl hl (by decide) rfl (fun ls hl => ?_)
        refine lv_iinc (v := 33) (lv' := [(4, .int 33), (2, .long 0), (0, .ref (a 0)), (1, .int p_0)]) hx hb d_Md_coins_69 hl (k := 1) rfl (by decide +kernel) (by decide) rfl (fun ls hl => ?_)
        refine lv_goto (tgt := 51) hx hb d_Md_coins_72 (by decide) ?_
        refine lv_iload hx hb d_Md_coins_51 (lv_at hl 0 rfl) ?_
        refine lv_bipush (v := 40) hx hb d_Md_coins_53 (by decide +kernel) ?_
        refine lv_icmp_ge (tgt := 75) hx hb d_Md_coins_55 (by decide) (fun h => absurd h (by decide +kernel)) (fun _ => ?_)
        refine lv_lload_n hx hb d_Md_coins_58 rfl (lv_at hl 1 rfl) ?_
        refine lv_aload_n hx hb d_Md_coins_59 rfl (lv_at hl 2 rfl) ?_
        refine va_get (D := (dC, dI)) (ci := 7) (v := .ref (a 12)) (C := R_Md) (T := F_Md) (N := 64) hx hb htb i_Md hown hK hP 0 rfl rfl 15 (by decide) (htb (.fieldLink R_Md 76 "WaterMenModel" "coins" "[I") tw_17) (fun _ h9 => h9) rfl d_Md_coins_60 ?_
        refine lv_iload hx hb d_Md_coins_63 (lv_at hl 0 rfl) ?_
        refine va_iald hx hb hK hP 12 11 rfl rfl (by unfold vp_in; decide +kernel) d_Md_coins_65 ?_
        refine hb_ti 0 rfl ?_
        refine lv_i2l hx hb d_Md_coins_66 rfl ?_
        refine hb_tl 0 (by decide +kernel) ?_
        refine lv_ladd hx hb d_Md_coins_67 ?_
        refine hb_tl 0 (by decide +kernel) ?_
        refine lv_lstore_n (lv' := [(2, .long 0), (4, .int 33), (0, .ref (a 0)), (1, .int p_0)]) hx hb d_Md_coins_68 rfl hl (by decide) rfl (fun ls hl => ?_)
        refine lv_iinc (v := 34) (lv' := [(4, .int 34), (2, .long 0), (0, .ref (a 0)), (1, .int p_0)]) hx hb d_Md_coins_69 hl (k := 1) rfl (by decide +kernel) (by decide) rfl (fun ls hl => ?_)
        refine lv_goto (tgt := 51) hx hb d_Md_coins_72 (by decide) ?_
        refine lv_iload hx hb d_Md_coins_51 (lv_at hl 0 rfl) ?_
        refine lv_bipush (v := 40) hx hb d_Md_coins_53 (by decide +kernel) ?_
        refine lv_icmp_ge (tgt := 75) hx hb d_Md_coins_55 (by decide) (fun h => absurd h (by decide +kernel)) (fun _ => ?_)
        refine lv_lload_n hx hb d_Md_coins_58 rfl (lv_at hl 1 rfl) ?_
        refine lv_aload_n hx hb d_Md_coins_59 rfl (lv_at hl 2 rfl) ?_
        refine va_get (D := (dC, dI)) (ci := 7) (v := .ref (a 12)) (C := R_Md) (T := F_Md) (N := 64) hx hb htb i_Md hown hK hP 0 rfl rfl 15 (by decide) (htb (.fieldLink R_Md 76 "WaterMenModel" "coins" "[I") tw_17) (fun _ h9 => h9) rfl d_Md_coins_60 ?_
        refine lv_iload hx hb d_Md_coins_63 (lv_at hl 0 rfl) ?_
        refine va_iald hx hb hK hP 12 11 rfl rfl (by unfold vp_in; decide +kernel) d_Md_coins_65 ?_
        refine hb_ti 0 rfl ?_
        refine lv_i2l hx hb d_Md_coins_66 rfl ?_
        refine hb_tl 0 (by decide +kernel) ?_
        refine lv_ladd hx hb d_Md_coins_67 ?_
        refine hb_tl 0 (by decide +kernel) ?_
        refine lv_lstore_n (lv' := [(2, .long 0), (4, .int 34), (0, .ref (a 0)), (1, .int p_0)]) hx hb d_Md_coins_68 rfl hl (by decide) rfl (fun ls hl => ?_)
        refine lv_iinc (v := 35) (lv' := [(4, .int 35), (2, .long 0), (0, .ref (a 0)), (1, .int p_0)]) hx hb d_Md_coins_69 hl (k := 1) rfl (by decide +kernel) (by decide) rfl (fun ls hl => ?_)
        refine lv_goto (tgt := 51) hx hb d_Md_coins_72 (by decide) ?_
        refine lv_iload hx hb d_Md_coins_51 (lv_at hl 0 rfl) ?_
        refine lv_bipush (v := 40) hx hb d_Md_coins_53 (by decide +kernel) ?_
        refine lv_icmp_ge (tgt := 75) hx hb d_Md_coins_55 (by decide) (fun h => absurd h (by decide +kernel)) (fun _ => ?_)
        refine lv_lload_n hx hb d_Md_coins_58 rfl (lv_at hl 1 rfl) ?_
        refine lv_aload_n hx hb d_Md_coins_59 rfl (lv_at hl 2 rfl) ?_
        refine va_get (D := (dC, dI)) (ci := 7) (v := .ref (a 12)) (C := R_Md) (T := F_Md) (N := 64) hx hb htb i_Md hown hK hP 0 rfl rfl 15 (by decide) (htb (.fieldLink R_Md 76 "WaterMenModel" "coins" "[I") tw_17) (fun _ h9 => h9) rfl d_Md_coins_60 ?_
        refine lv_iload hx hb d_Md_coins_63 (lv_at hl 0 rfl) ?_
        refine va_iald hx hb hK hP 12 11 rfl rfl (by unfold vp_in; decide +kernel) d_Md_coins_65 ?_
        refine hb_ti 0 rfl ?_
        refine lv_i2l hx hb d_Md_coins_66 rfl ?_
        refine hb_tl 0 (by decide +kernel) ?_
        refine lv_ladd hx hb d_Md_coins_67 ?_
        refine hb_tl 0 (by decide +kernel) ?_
        refine lv_lstore_n (lv' := [(2, .long 0), (4, .int 35), (0, .ref (a 0)), (1, .int p_0)]) hx hb d_Md_coins_68 rfl hl (by decide) rfl (fun ls hl => ?_)
        refine lv_iinc (v := 36) (lv' := [(4, .int 36), (2, .long 0), (0, .ref (a 0)), (1, .int p_0)]) hx hb d_Md_coins_69 hl (k := 1) rfl (by decide +kernel) (by decide) rfl (fun ls hl => ?_)
        refine lv_goto (tgt := 51) hx hb d_Md_coins_72 (by decide) ?_
        refine lv_iload hx hb d_Md_coins_51 (lv_at hl 0 rfl) ?_
        refine lv_bipush (v := 40) hx hb d_Md_coins_53 (by decide +kernel) ?_
        refine lv_icmp_ge (tgt := 75) hx hb d_Md_coins_55 (by decide) (fun h => absurd h (by decide +kernel)) (fun _ => ?_)
        refine lv_lload_n hx hb d_Md_coins_58 rfl (lv_at hl 1 rfl) ?_
        refine lv_aload_n hx hb d_Md_coins_59 rfl (lv_at hl 2 rfl) ?_
        refine va_get (D := (dC, dI)) (ci := 7) (v := .ref (a 12)) (C := R_Md) (T := F_Md) (N := 64) hx hb htb i_Md hown hK hP 0 rfl rfl 15 (by decide) (htb (.fieldLink R_Md 76 "WaterMenModel" "coins" "[I") tw_17) (fun _ h9 => h9) rfl d_Md_coins_60 ?_
        refine lv_iload hx hb d_Md_coins_63 (lv_at hl 0 rfl) ?_
        refine va_iald hx hb hK hP 12 11 rfl rfl (by unfold vp_in; decide +kernel) d_Md_coins_65 ?_
        refine hb_ti 0 rfl ?_
        refine lv_i2l hx hb d_Md_coins_66 rfl ?_
        refine hb_tl 0 (by decide +kernel) ?_
        refine lv_ladd hx hb d_Md_coins_67 ?_
        refine hb_tl 0 (by decide +kernel) ?_
        refine lv_lstore_n (lv' := [(2, .long 0), (4, .int 36), (0, .ref (a 0)), (1, .int p_0)]) hx hb d_Md_coins_68 rfl hl (by decide) rfl (fun ls hl => ?_)
        refine lv_iinc (v := 37) (lv' := [(4, .int 37), (2, .long 0), (0, .ref (a 0)), (1, .int p_0)]) hx hb d_Md_coins_69 hl (k := 1) rfl (by decide +kernel) (by decide) rfl (fun ls hl => ?_)
        refine lv_goto (tgt := 51) hx hb d_Md_coins_72 (by decide) ?_
        refine lv_iload hx hb d_Md_coins_51 (lv_at hl 0 rfl) ?_
        refine lv_bipush (v := 40) hx hb d_Md_coins_53 (by decide +kernel) ?_
        refine lv_icmp_ge (tgt := 75) hx hb d_Md_coins_55 (by decide) (fun h => absurd h (by decide +kernel)) (fun _ => ?_)
        refine lv_lload_n hx hb d_Md_coins_58 rfl (lv_at hl 1 rfl) ?_
        refine lv_aload_n hx hb d_Md_coins_59 rfl (lv_at hl 2 rfl) ?_
        refine va_get (D := (dC, dI)) (ci := 7) (v := .ref (a 12)) (C := R_Md) (T := F_Md) (N := 64) hx hb htb i_Md hown hK hP 0 rfl rfl 15 (by decide) (htb (.fieldLink R_Md 76 "WaterMenModel" "coins" "[I") tw_17) (fun _ h9 => h9) rfl d_Md_coins_60 ?_
        refine lv_iload hx hb d_Md_coins_63 (lv_at hl 0 rfl) ?_
        refine va_iald hx hb hK hP 12 11 rfl rfl (by unfold vp_in; decide +kernel) d_Md_coins_65 ?_
        refine hb_ti 0 rfl ?_
        refine lv_i2l hx hb d_Md_coins_66 rfl ?_
        refine hb_tl 0 (by decide +kernel) ?_
        refine lv_ladd hx hb d_Md_coins_67 ?_
        refine hb_tl 0 (by decide +kernel) ?_
        refine lv_lstore_n (lv' := [(2, .long 0), (4, .int 37), (0, .ref (a 0)), (1, .int p_0)]) hx hb d_Md_coins_68 rfl hl (by decide) rfl (fun ls hl => ?_)
        refine lv_iinc (v := 38) (lv' := [(4, .int 38), (2, .long 0), (0, .ref (a 0)), (1, .int p_0)]) hx hb d_Md_coins_69 hl (k := 1) rfl (by decide +kernel) (by decide) rfl (fun ls hl => ?_)
        refine lv_goto (tgt := 51) hx hb d_Md_coins_72 (by decide) ?_
        refine lv_iload hx hb d_Md_coins_51 (lv_at hl 0 rfl) ?_
        refine lv_bipush (v := 40) hx hb d_Md_coins_53 (by decide +kernel) ?_
        refine lv_icmp_ge (tgt := 75) hx hb d_Md_coins_55 (by decide) (fun h => absurd h (by decide +kernel)) (fun _ => ?_)
        refine lv_lload_n hx hb d_Md_coins_58 rfl (lv_at hl 1 rfl) ?_
        refine lv_aload_n hx hb d_Md_coins_59 rfl (lv_at hl 2 rfl) ?_
        refine va_get (D := (dC, dI)) (ci := 7) (v := .ref (a 12)) (C := R_Md) (T := F_Md) (N := 64) hx hb htb i_Md hown hK hP 0 rfl rfl 15 (by decide) (htb (.fieldLink R_Md 76 "WaterMenModel" "coins" "[I") tw_17) (fun _ h9 => h9) rfl d_Md_coins_60 ?_
        refine lv_iload hx hb d_Md_coins_63 (lv_at hl 0 rfl) ?_
        refine va_iald hx hb hK hP 12 11 rfl rfl (by unfold vp_in; decide +kernel) d_Md_coins_65 ?_
        refine hb_ti 0 rfl ?_
        refine lv_i2l hx hb d_Md_coins_66 rfl ?_
        refine hb_tl 0 (by decide +kernel) ?_
        refine lv_ladd hx hb d_Md_coins_67 ?_
        refine hb_tl 0 (by decide +kernel) ?_
        refine lv_lstore_n (lv' := [(2, .long 0), (4, .int 38), (0, .ref (a 0)), (1, .int p_0)]) hx hb d_Md_coins_68 rfl hl (by decide) rfl (fun ls hl => ?_)
        refine lv_iinc (v := 39) (lv' := [(4, .int 39), (2, .long 0), (0, .ref (a 0)), (1, .int p_0)]) hx hb d_Md_coins_69 hl (k := 1) rfl (by decide +kernel) (by decide) rfl (fun ls hl => ?_)
        refine lv_goto (tgt := 51) hx hb d_Md_coins_72 (by decide) ?_
        refine lv_iload hx hb d_Md_coins_51 (lv_at hl 0 rfl) ?_
        refine lv_bipush (v := 40) hx hb d_Md_coins_53 (by decide +kernel) ?_
        refine lv_icmp_ge (tgt := 75) hx hb d_Md_coins_55 (by decide) (fun h => absurd h (by decide +kernel)) (fun _ => ?_)
        refine lv_lload_n hx hb d_Md_coins_58 rfl (lv_at hl 1 rfl) ?_
        refine lv_aload_n hx hb d_Md_coins_59 rfl (lv_at hl 2 rfl) ?_
        refine va_get (D := (dC, dI)) (ci := 7) (v := .ref (a 12)) (C := R_Md) (T := F_Md) (N := 64) hx hb htb i_Md hown hK hP 0 rfl rfl 15 (by decide) (htb (.fieldLink R_Md 76 "WaterMenModel" "coins" "[I") tw_17) (fun _ h9 => h9) rfl d_Md_coins_60 ?_
        refine lv_iload hx hb d_Md_coins_63 (lv_at hl 0 rfl) ?_
        refine va_iald hx hb hK hP 12 11 rfl rfl (by unfold vp_in; decide +kernel) d_Md_coins_65 ?_
        refine hb_ti 0 rfl ?_
        refine lv_i2l hx hb d_Md_coins_66 rfl ?_
        refine hb_tl 0 (by decide +kernel) ?_
        refine lv_ladd hx hb d_Md_coins_67 ?_
        refine hb_tl 0 (by decide +kernel) ?_
        refine lv_lstore_n (lv' := [(2, .long 0), (4, .int 39), (0, .ref (a 0)), (1, .int p_0)]) hx hb d_Md_coins_68 rfl hl (by decide) rfl (fun ls hl => ?_)
        refine lv_iinc (v := 40) (lv' := [(4, .int 40), (2, .long 0), (0, .ref (a 0)), (1, .int p_0)]) hx hb d_Md_coins_69 hl (k := 1) rfl (by decide +kernel) (by decide) rfl (fun ls hl => ?_)
        refine lv_goto (tgt := 51) hx hb d_Md_coins_72 (by decide) ?_
        refine lv_iload hx hb d_Md_coins_51 (lv_at hl 0 rfl) ?_
        refine lv_bipush (v := 40) hx hb d_Md_coins_53 (by decide +kernel) ?_
        refine lv_icmp_ge (tgt := 75) hx hb d_Md_coins_55 (by decide) (fun _ => ?_) (fun h => absurd (by decide +kernel) h)
        refine lv_lload_n hx hb d_Md_coins_75 rfl (lv_at hl 1 rfl) ?_
        refine lv_l2i hx hb d_Md_coins_76 rfl ?_
        refine hb_ti 0 (by decide +kernel) ?_
        exact W.iret (v := 0) hx hb hr (fun t ht hW => ⟨0, rfl, (by unfold f_Md_coins; rw [if_neg c_1, if_neg c_2, if_pos c_3]), ht⟩) t_nil d_Md_coins_77
      · by_cases c_4 : p_0 = 3
        · refine lv_tableIn (off := 75) (tgt := 78) hx hb d_Md_coins_3 (by rw [c_4]; decide +kernel) (by rw [c_4]; decide +kernel) (by rw [c_4]; decide +kernel) (by decide) ?_
          refine lv_iconst (v := 0) hx hb d_Md_coins_78 (by decide +kernel) ?_
          refine lv_istore (lv' := [(4, .int 0), (2, .long 0), (0, .ref (a 0)), (1, .int p_0)]) hx hb d_Md_coins_79 hl (by decide) rfl (fun ls hl => ?_)
          refine lv_iload hx hb d_Md_coins_81 (lv_at hl 0 rfl) ?_
          refine lv_aload_n hx hb d_Md_coins_83 rfl (lv_at hl 2 rfl) ?_
          refine va_get (D := (dC, dI)) (ci := 7) (v := .int 0) (C := R_Md) (T := F_Md) (N := 64) hx hb htb i_Md hown hK hP 0 rfl rfl 47 (by decide) (htb (.fieldLink R_Md 313 "WaterMenModel" "trips" "I") tw_372) (fun _ h9 => h9) rfl d_Md_coins_84 ?_
          refine lv_icmp_ge (tgt := 107) hx hb d_Md_coins_87 (by decide) (fun _ => ?_) (fun h => absurd (by decide +kernel) h)
          refine lv_lload_n hx hb d_Md_coins_107 rfl (lv_at hl 1 rfl) ?_
          refine lv_l2i hx hb d_Md_coins_108 rfl ?_
          refine hb_ti 0 (by decide +kernel) ?_
          exact W.iret (v := 0) hx hb hr (fun t ht hW => ⟨0, rfl, (by unfold f_Md_coins; rw [if_neg c_1, if_neg c_2, if_neg c_3, if_pos c_4]), ht⟩) t_nil d_Md_coins_109
        · by_cases c_5 : p_0 = 4
          · refine lv_tableIn (off := 107) (tgt := 110) hx hb d_Md_coins_3 (by rw [c_5]; decide +kernel) (by rw [c_5]; decide +kernel) (by rw [c_5]; decide +kernel) (by decide) ?_
            refine lv_aload_n hx hb d_Md_coins_110 rfl (lv_at hl 1 rfl) ?_
            refine va_get (D := (dC, dI)) (ci := 7) (v := .long 0) (C := R_Md) (T := F_Md) (N := 64) hx hb htb i_Md hown hK hP 0 rfl rfl 58 (by decide) (htb (.fieldLink R_Md 326 "WaterMenModel" "paidOut" "J") tw_385) (fun _ h9 => h9) rfl d_Md_coins_111 ?_
            refine lv_l2i hx hb d_Md_coins_114 rfl ?_
            refine hb_ti 0 (by decide +kernel) ?_
            exact W.iret (v := 0) hx hb hr (fun t ht hW => ⟨0, rfl, (by unfold f_Md_coins; rw [if_neg c_1, if_neg c_2, if_neg c_3, if_neg c_4, if_pos c_5]), ht⟩) t_nil d_Md_coins_115
          · refine lv_tableOut (tgt := 116) hx hb d_Md_coins_3 (by have h0 := lv_neT c_1 (show (0 : Int32).toInt = 0 by decide +kernel); have h1 := lv_neT c_2 (show (1 : Int32).toInt = 1 by decide +kernel); have h2 := lv_neT c_3 (show (2 : Int32).toInt = 2 by decide +kernel); have h3 := lv_neT c_4 (show (3 : Int32).toInt = 3 by decide +kernel); have h4 := lv_neT c_5 (show (4 : Int32).toInt = 4 by decide +kernel); omega) (by decide) ?_
            refine lv_iconst (v := (-1)) hx hb d_Md_coins_116 (by decide +kernel) ?_
            exact W.iret (v := (-1)) hx hb hr (fun t ht hW => ⟨(-1), rfl, (by unfold f_Md_coins; rw [if_neg c_1, if_neg c_2, if_neg c_3, if_neg c_4, if_neg c_5]), ht⟩) t_nil d_Md_coins_117
