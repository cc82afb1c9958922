def f_WM_placeInTurns  : Int32 := (-1)
set_option maxHeartbeats 4000000 in
set_option maxRecDepth 100000 in
theorem c_WM_placeInTurns (l : Launch) (dC : Nat → ClassId) (dI : Nat → Nat → Nat) (a : Nat → Nat) (k : Nat → ClassId) (L : List Nat) (hL : L.length = 40) (pq_0 px_0 : Nat) (ph_0 : (XW a k L)[px_0]? = some (pq_0, .inr (2, manF)))   : Met l y_WM_placeInTurns (.code y_WM_placeInTurns b_WM_placeInTurns 5 (some .int) :: TB) ({ frames := 0, cells := 0, slots := 0, locals := 0 }) (va_Pc [.ref (a 0), .ref pq_0] (PR dC dI (XW a k L) (XT k))) (vp_Si (fun r => r = f_WM_placeInTurns)) 0 0 (fun _ => False) := by
  refine Met.ofW (cc := b_WM_placeInTurns) (maxL := 5) (ret := (some .int)) (by decide) rfl ?_
  intro p e s m args below meth c s₁ B hml hv
  obtain ⟨rfl, hP, hK, hN⟩ := hv
  have hx := B.exec
  have hb := B.bytes
  have hr := B.returns
  have hts := atoms_spec (ws := (.code y_WM_placeInTurns b_WM_placeInTurns 5 (some .int) :: TB)) B.pre
  have htb := fun w (h : w ∈ TB) => hts w (List.mem_cons_of_mem _ h)
  have hown : s.vm.findClass R_WM = some m.cls := findClass_of_methodNamed B.named
  have hlocks := B.notSynchronized
  have hl := lv_entry ([.ref (a 0), .ref pq_0]) (n := 5) (Nat.le_of_ble_eq_true rfl)
  rw [lg_entry_eq]
  generalize (lg_sl ([.ref (a 0), .ref pq_0]) ++ List.replicate (5 - (lg_sl ([.ref (a 0), .ref pq_0])).length) Slot.unset).toArray = ls at hl ⊢
  have hl : lv_has ls 5 [(0, .ref (a 0)), (1, .ref pq_0)] := hl
  refine lv_aload_n hx hb d_WM_placeInTurns_0 rfl (lv_at hl 1 rfl) ?_
  refine va_get (D := (dC, dI)) (ci := 2) (v := .int (-1)) (C := R_Mn) (T := F_Mn) (N := 8) hx hb htb i_Mn hown hK hP px_0 ph_0 rfl 2 (by decide) (htb (.fieldLink R_WM 145 "WaterMen$Man" "turnStairs" "I") tw_166) (fun _ h9 => h9) rfl d_WM_placeInTurns_1 ?_
  refine lv_iconst (v := (-1)) hx hb d_WM_placeInTurns_4 (by decide +kernel) ?_
  refine lv_icmp_ne (tgt := 10) hx hb d_WM_placeInTurns_5 (by decide) (fun h => absurd (by decide +kernel) h) (fun _ => ?_)
  refine lv_iconst (v := (-1)) hx hb d_WM_placeInTurns_8 (by decide +kernel) ?_
  exact W.iret (v := (-1)) hx hb hr (fun t ht hW => ⟨(-1), rfl, rfl, ht⟩) t_nil d_WM_placeInTurns_9
def f_Mn_isOnWay (p_0 : Int32) : Int32 := if 0 ≤ p_0 then (0) else (1)
set_option maxHeartbeats 4000000 in
set_option maxRecDepth 100000 in
theorem c_Mn_isOnWay (l : Launch) (dC : Nat → ClassId) (dI : Nat → Nat → Nat) (a : Nat → Nat) (k : Nat → ClassId) (L : List Nat) (hL : L.length = 40) (qq kx : Nat) (hk : (XW a k L)[kx]? = some (qq, .inr (2, manF))) (p_0 : Int32)  : Met l y_Mn_isOnWay (.code y_Mn_isOnWay b_Mn_isOnWay 2 (some .boolean) :: TB) ({ frames := 0, cells := 0, slots := 0, locals := 0 }) (va_Pc [.ref qq, .int p_0] (PR dC dI (XW a k L) (XT k))) (vp_Si (fun r => r = f_Mn_isOnWay p_0)) 0 0 (fun _ => False) := by
  refine Met.ofW (cc := b_Mn_isOnWay) (maxL := 2) (ret := (some .boolean)) (by decide) rfl ?_
  intro p e s m args below meth c s₁ B hml hv
  obtain ⟨rfl, hP, hK, hN⟩ := hv
  have hx := B.exec
  have hb := B.bytes
  have hr := B.returns
  have hts := atoms_spec (ws := (.code y_Mn_isOnWay b_Mn_isOnWay 2 (some .boolean) :: TB)) B.pre
  have htb := fun w (h : w ∈ TB) => hts w (List.mem_cons_of_mem _ h)
  have hown : s.vm.findClass R_Mn = some m.cls := findClass_of_methodNamed B.named
  have hlocks := B.notSynchronized
  have hl := lv_entry ([.ref qq, .int p_0]) (n := 2) (Nat.le_of_ble_eq_true rfl)
  rw [lg_entry_eq]
  generalize (lg_sl ([.ref qq, .int p_0]) ++ List.replicate (2 - (lg_sl ([.ref qq, .int p_0])).length) Slot.unset).toArray = ls at hl ⊢
  have hl : lv_has ls 2 [(0, .ref qq), (1, .int p_0)] := hl
  refine lv_iload_n hx hb d_Mn_isOnWay_0 rfl (lv_at hl 1 rfl) ?_
  refine lv_aload_n hx hb d_Mn_isOnWay_1 rfl (lv_at hl 0 rfl) ?_
  refine va_get (D := (dC, dI)) (ci := 2) (v := .int 0) (C := R_Mn) (T := F_Mn) (N := 8) hx hb htb i_Mn hown hK hP kx hk rfl 5 (by decide) (htb (.fieldLink R_Mn 21 "WaterMen$Man" "busyUntil" "I") tw_172) (fun _ h9 => h9) rfl d_Mn_isOnWay_2 ?_
  refine lv_icmp_ge (tgt := 12) hx hb d_Mn_isOnWay_5 (by decide) (fun c_1 => ?_) (fun c_1 => ?_)
  · refine lv_iconst (v := 0) hx hb d_Mn_isOnWay_12 (by decide +kernel) ?_
    exact W.zret (v := 0) hx hb hr (by decide +kernel) (fun t ht hW => ⟨0, rfl, (by unfold f_Mn_isOnWay; rw [if_pos c_1]), ht⟩) t_nil d_Mn_isOnWay_13
  · refine lv_iconst (v := 1) hx hb d_Mn_isOnWay_8 (by decide +kernel) ?_
    refine lv_goto (tgt := 13) hx hb d_Mn_isOnWay_9 (by decide) ?_
    exact W.zret (v := 1) hx hb hr (by decide +kernel) (fun t ht hW => ⟨1, rfl, (by unfold f_Mn_isOnWay; rw [if_neg c_1]), ht⟩) t_nil d_Mn_isOnWay_13
def f_WM_man (p_0 : Int32) (p_1 : Int32) : Int32 := if p_0 < 0 then ((-2)) else (if 40 ≤ p_0 then ((-2)) else (if p_1 = 0 then (0) else (if p_1 = 1 then ((-1)) else (if p_1 = 2 then ((-1)) else (if p_1 = 3 then ((-1)) else (if p_1 = 4 then (0) else (if p_1 = 5 then (0) else (if p_1 = 6 then (0) else ((-2))))))))))
set_option maxHeartbeats 4000000 in
set_option maxRecDepth 100000 in
theorem c_WM_man (l : Launch) (dC : Nat → ClassId) (dI : Nat → Nat → Nat) (a : Nat → Nat) (k : Nat → ClassId) (L : List Nat) (hL : L.length = 40)  (p_0 : Int32) (p_1 : Int32)  : Met l y_WM_man (.code y_WM_man b_WM_man 4 (some .int) :: TB) ({ frames := 1, cells := 0, slots := 0, locals := 24 }) (va_Pc [.ref (a 0), .int p_0, .int p_1] (PR dC dI (XW a k L) (XT k))) (vp_Si (fun r => r = f_WM_man p_0 p_1)) 0 0 (fun _ => False) := by
  refine Met.ofW (cc := b_WM_man) (maxL := 4) (ret := (some .int)) (by decide) rfl ?_
  intro p e s m args below meth c s₁ B hml hv
  obtain ⟨rfl, hP, hK, hN⟩ := hv
  have hx := B.exec
  have hb := B.bytes
  have hr := B.returns
  have hts := atoms_spec (ws := (.code y_WM_man b_WM_man 4 (some .int) :: TB)) B.pre
  have htb := fun w (h : w ∈ TB) => hts w (List.mem_cons_of_mem _ h)
  have hown : s.vm.findClass R_WM = some m.cls := findClass_of_methodNamed B.named
  have hlocks := B.notSynchronized
  have hl := lv_entry ([.ref (a 0), .int p_0, .int p_1]) (n := 4) (Nat.le_of_ble_eq_true rfl)
  rw [lg_entry_eq]
  generalize (lg_sl ([.ref (a 0), .int p_0, .int p_1]) ++ List.replicate (4 - (lg_sl ([.ref (a 0), .int p_0, .int p_1])).length) Slot.unset).toArray = ls at hl ⊢
  have hl : lv_has ls 4 [(0, .ref (a 0)), (1, .int p_0), (2, .int p_1)] := hl
  refine lv_aload_n hx hb d_WM_man_0 rfl (lv_at hl 0 rfl) ?_
  refine lv_iload_n hx hb d_WM_man_1 rfl (lv_at hl 1 rfl) ?_
  refine va_csq (va_Run.run (va_runV (As := [.int p_0]) (rest := []) ⟨hx, hb, hml, hown, htb⟩ (c_WM_manAt l dC dI a k L hL p_0) (cwV 1 htb (gd_V tw_157 tw_158 tw_159 tw_124 tw_156) rfl rfl rfl (by decide +kernel) ⟨Nat.le_of_ble_eq_true rfl, Nat.le_of_ble_eq_true rfl⟩) ⟨pr_blind, va_recv hK hP (ci := 0) (q0 := 0) rfl rfl, pr_pre hP hK hN⟩ rfl rfl hl.1 rfl (lv_room (Nat.le_of_ble_eq_true rfl)) d_WM_man_2 ⟨Nat.le_of_ble_eq_true rfl, Nat.le_of_ble_eq_true rfl⟩)) (fun rr_2 hq_1 => ?_)
  unfold f_WM_manAt at hq_1
  by_cases c_3 : p_0 < 0
  · rw [if_pos c_3] at hq_1
    subst hq_1
    refine hb_tv .null rfl ?_
    refine lv_astore_nN (lv' := [(3, .null), (0, .ref (a 0)), (1, .int p_0), (2, .int p_1)]) hx hb d_WM_man_5 rfl hl (by decide) rfl (fun ls hl => ?_)
    refine lv_aload_nN hx hb d_WM_man_6 rfl (lv_at hl 0 rfl) ?_
    refine lv_ifnonnullN hx hb d_WM_man_7 ?_
    refine lv_bipush (v := (-2)) hx hb d_WM_man_10 (by decide +kernel) ?_
    exact W.iret (v := (-2)) hx hb hr (fun t ht hW => ⟨(-2), rfl, (by unfold f_WM_man; rw [if_pos c_3]), ht⟩) t_nil d_WM_man_12
  · by_cases c_4 : 40 ≤ p_0
    · rw [if_neg c_3, if_pos c_4] at hq_1
      subst hq_1
      refine hb_tv .null rfl ?_
      refine lv_astore_nN (lv' := [(3, .null), (0, .ref (a 0)), (1, .int p_0), (2, .int p_1)]) hx hb d_WM_man_5 rfl hl (by decide) rfl (fun ls hl => ?_)
      refine lv_aload_nN hx hb d_WM_man_6 rfl (lv_at hl 0 rfl) ?_
      refine lv_ifnonnullN hx hb d_WM_man_7 ?_
      refine lv_bipush (v := (-2)) hx hb d_WM_man_10 (by decide +kernel) ?_
      exact W.iret (v := (-2)) hx hb hr (fun t ht hW => ⟨(-2), rfl, (by unfold f_WM_man; rw [if_neg c_3, if_pos c_4]), ht⟩) t_nil d_WM_man_12
    · rw [if_neg c_3, if_neg c_4] at hq_1
      obtain ⟨q_5, x_6, rfl, hk_7⟩ := hq_1
      refine hb_tv (.ref q_5) rfl ?_
      refine lv_astore_n (lv' := [(3, .ref q_5), (0, .ref (a 0)), (1, .int p_0), (2, .int p_1)]) hx hb d_WM_man_5 rfl hl (by decide) rfl (fun ls hl => ?_)
      refine lv_aload_n hx hb d_WM_man_6 rfl (lv_at hl 0 rfl) ?_
      refine lv_ifnonnull (tgt := 13) hx hb d_WM_man_7 (by decide) ?_
      refine lv_iload_n hx hb d_WM_man_13 rfl (lv_at hl 3 rfl) ?_
      by_cases c_8 : p_1 = 0
      · refine lv_tableIn (off := 42) (tgt := 56) hx hb d_WM_man_14 (by rw [c_8]; decide +kernel) (by rw [c_8]; decide +kernel) (by rw [c_8]; decide +kernel) (by decide) ?_
        refine lv_aload_n hx hb d_WM_man_56 rfl (lv_at hl 0 rfl) ?_
        refine va_get (D := (dC, dI)) (ci := 2) (v := .int 0) (C := R_Mn) (T := F_Mn) (N := 8) hx hb htb i_Mn hown hK hP x_6 hk_7 rfl 0 (by decide) (htb (.fieldLink R_WM 111 "WaterMen$Man" "state" "I") tw_160) (fun _ h9 => h9) rfl d_WM_man_57 ?_
        exact W.iret (v := 0) hx hb hr (fun t ht hW => ⟨0, rfl, (by unfold f_WM_man; rw [if_neg c_3, if_neg c_4, if_pos c_8]), ht⟩) t_nil d_WM_man_60
      · by_cases c_9 : p_1 = 1
        · refine lv_tableIn (off := 47) (tgt := 61) hx hb d_WM_man_14 (by rw [c_9]; decide +kernel) (by rw [c_9]; decide +kernel) (by rw [c_9]; decide +kernel) (by decide) ?_
          refine lv_aload_n hx hb d_WM_man_61 rfl (lv_at hl 0 rfl) ?_
          refine va_get (D := (dC, dI)) (ci := 2) (v := .null) (C := R_Mn) (T := F_Mn) (N := 8) hx hb htb i_Mn hown hK hP x_6 hk_7 rfl 1 (by decide) (htb (.fieldLink R_WM 119 "WaterMen$Man" "bond" "LWaterMen$Bond;") tw_161) (fun _ h9 => h9) rfl d_WM_man_62 ?_
          refine lv_ifnullN (tgt := 86) hx hb d_WM_man_65 (by decide) ?_
          refine lv_iconst (v := (-1)) hx hb d_WM_man_86 (by decide +kernel) ?_
          exact W.iret (v := (-1)) hx hb hr (fun t ht hW => ⟨(-1), rfl, (by unfold f_WM_man; rw [if_neg c_3, if_neg c_4, if_neg c_8, if_pos c_9]), ht⟩) t_nil d_WM_man_87
        · by_cases c_10 : p_1 = 2
          · refine lv_tableIn (off := 74) (tgt := 88) hx hb d_WM_man_14 (by rw [c_10]; decide +kernel) (by rw [c_10]; decide +kernel) (by rw [c_10]; decide +kernel) (by decide) ?_
            refine lv_aload_n hx hb d_WM_man_88 rfl (lv_at hl 0 rfl) ?_
            refine va_get (D := (dC, dI)) (ci := 2) (v := .int (-1)) (C := R_Mn) (T := F_Mn) (N := 8) hx hb htb i_Mn hown hK hP x_6 hk_7 rfl 2 (by decide) (htb (.fieldLink R_WM 145 "WaterMen$Man" "turnStairs" "I") tw_166) (fun _ h9 => h9) rfl d_WM_man_89 ?_
            exact W.iret (v := (-1)) hx hb hr (fun t ht hW => ⟨(-1), rfl, (by unfold f_WM_man; rw [if_neg c_3, if_neg c_4, if_neg c_8, if_neg c_9, if_pos c_10]), ht⟩) t_nil d_WM_man_92
          · by_cases c_11 : p_1 = 3
            · refine lv_tableIn (off := 79) (tgt := 93) hx hb d_WM_man_14 (by rw [c_11]; decide +kernel) (by rw [c_11]; decide +kernel) (by rw [c_11]; decide +kernel) (by decide) ?_
              refine lv_aload_n hx hb d_WM_man_93 rfl (lv_at hl 1 rfl) ?_
              refine lv_aload_n hx hb d_WM_man_94 rfl (lv_at hl 0 rfl) ?_
              refine vp_callSi (va_Run.run (va_runV (As := [.ref q_5]) (rest := []) ⟨hx, hb, hml, hown, htb⟩ (c_WM_placeInTurns l dC dI a k L hL q_5 x_6 hk_7) (cwV 1 htb (gd_V tw_168 tw_169 tw_170 tw_124 tw_167) rfl rfl rfl (by decide +kernel) ⟨Nat.le_of_ble_eq_true rfl, Nat.le_of_ble_eq_true rfl⟩) ⟨pr_blind, va_recv hK hP (ci := 0) (q0 := 0) rfl rfl, pr_pre hP hK hN⟩ rfl rfl hl.1 rfl (lv_room (Nat.le_of_ble_eq_true rfl)) d_WM_man_95 ⟨Nat.le_of_ble_eq_true rfl, Nat.le_of_ble_eq_true rfl⟩)) (fun r er => ?_)
              subst er
              refine hb_ti (-1) rfl ?_
              exact W.iret (v := (-1)) hx hb hr (fun t ht hW => ⟨(-1), rfl, (by unfold f_WM_man; rw [if_neg c_3, if_neg c_4, if_neg c_8, if_neg c_9, if_neg c_10, if_pos c_11]), ht⟩) t_nil d_WM_man_98
            · by_cases c_12 : p_1 = 4
              · refine lv_tableIn (off := 85) (tgt := 99) hx hb d_WM_man_14 (by rw [c_12]; decide +kernel) (by rw [c_12]; decide +kernel) (by rw [c_12]; decide +kernel) (by decide) ?_
                refine lv_aload_n hx hb d_WM_man_99 rfl (lv_at hl 0 rfl) ?_
                refine va_get (D := (dC, dI)) (ci := 2) (v := .int 0) (C := R_Mn) (T := F_Mn) (N := 8) hx hb htb i_Mn hown hK hP x_6 hk_7 rfl 4 (by decide) (htb (.fieldLink R_WM 152 "WaterMen$Man" "coins" "I") tw_171) (fun _ h9 => h9) rfl d_WM_man_100 ?_
                exact W.iret (v := 0) hx hb hr (fun t ht hW => ⟨0, rfl, (by unfold f_WM_man; rw [if_neg c_3, if_neg c_4, if_neg c_8, if_neg c_9, if_neg c_10, if_neg c_11, if_pos c_12]), ht⟩) t_nil d_WM_man_103
              · by_cases c_13 : p_1 = 5
                · refine lv_tableIn (off := 90) (tgt := 104) hx hb d_WM_man_14 (by rw [c_13]; decide +kernel) (by rw [c_13]; decide +kernel) (by rw [c_13]; decide +kernel) (by decide) ?_
                  refine lv_aload_n hx hb d_WM_man_104 rfl (lv_at hl 0 rfl) ?_
                  refine lv_aload_n hx hb d_WM_man_105 rfl (lv_at hl 1 rfl) ?_
                  refine va_get (D := (dC, dI)) (ci := 0) (v := .int 0) (C := R_WM) (T := F_WM) (N := 13) hx hb htb i_WM hown hK hP 0 rfl rfl 10 (by decide) (htb (.fieldLink R_WM 155 "WaterMen" "now" "I") tw_146) (fun _ h9 => h9) rfl d_WM_man_106 ?_
                  refine vp_callSi (va_Run.run (va_runV (As := [.int 0]) (rest := []) ⟨hx, hb, hml, hown, htb⟩ (c_Mn_isOnWay l dC dI a k L hL q_5 x_6 hk_7 0) (cwV 1 htb (gd_V tw_174 tw_175 tw_176 tw_105 tw_173) rfl rfl rfl (by decide +kernel) ⟨Nat.le_of_ble_eq_true rfl, Nat.le_of_ble_eq_true rfl⟩) ⟨pr_blind, va_recv hK hP (ci := 2) (q0 := x_6) rfl hk_7, pr_pre hP hK hN⟩ rfl rfl hl.1 rfl (lv_room (Nat.le_of_ble_eq_true rfl)) d_WM_man_109 ⟨Nat.le_of_ble_eq_true rfl, Nat.le_of_ble_eq_true rfl⟩)) (fun r er => ?_)
                  subst er
                  refine hb_ti 0 (by unfold f_Mn_isOnWay; rw [if_pos (by decide +kernel : (0 : Int32) ≤ 0)]) ?_
                  refine lv_if_eq (tgt := 119) hx hb d_WM_man_112 (by decide) (fun _ => ?_) (fun h => absurd (by decide +kernel) h)
                  refine lv_iconst (v := 0) hx hb d_WM_man_119 (by decide +kernel) ?_
                  exact W.iret (v := 0) hx hb hr (fun t ht hW => ⟨0, rfl, (by unfold f_WM_man; rw [if_neg c_3, if_neg c_4, if_neg c_8, if_neg c_9, if_neg c_10, if_neg c_11, if_neg c_12, if_pos c_13]), ht⟩) t_nil d_WM_man_120
                · by_cases c_14 : p_1 = 6
                  · refine lv_tableIn (off := 107) (tgt := 121) hx hb d_WM_man_14 (by rw [c_14]; decide +kernel) (by rw [c_14]; decide +kernel) (by rw [c_14]; decide +kernel) (by decide) ?_
                    refine lv_aload_n hx hb d_WM_man_121 rfl (lv_at hl 0 rfl) ?_
                    refine va_get (D := (dC, dI)) (ci := 2) (v := .int 0) (C := R_Mn) (T := F_Mn) (N := 8) hx hb htb i_Mn hown hK hP x_6 hk_7 rfl 6 (by decide) (htb (.fieldLink R_WM 161 "WaterMen$Man" "tripCount" "I") tw_177) (fun _ h9 => h9) rfl d_WM_man_122 ?_
                    exact W.iret (v := 0) hx hb hr (fun t ht hW => ⟨0, rfl, (by unfold f_WM_man; rw [if_neg c_3, if_neg c_4, if_neg c_8, if_neg c_9, if_neg c_10, if_neg c_11, if_neg c_12, if_neg c_13, if_pos c_14]), ht⟩) t_nil d_WM_man_125
                  · refine lv_tableOut (tgt := 126) hx hb d_WM_man_14 (by have h0 := lv_neT c_8 (show (0 : Int32).toInt = 0 by decide +kernel); have h1 := lv_neT c_9 (show (1 : Int32).toInt = 1 by decide +kernel); have h2 := lv_neT c_10 (show (2 : Int32).toInt = 2 by decide +kernel); have h3 := lv_neT c_11 (show (3 : Int32).toInt = 3 by decide +kernel); have h4 := lv_neT c_12 (show (4 : Int32).toInt = 4 by decide +kernel); have h5 := lv_neT c_13 (show (5 : Int32).toInt = 5 by decide +kernel); have h6 := lv_neT c_14 (show (6 : Int32).toInt = 6 by decide +kernel); omega) (by decide) ?_
                    refine lv_bipush (v := (-2)) hx hb d_WM_man_126 (by decide +kernel) ?_
                    exact W.iret (v := (-2)) hx hb hr (fun t ht hW => ⟨(-2), rfl, (by unfold f_WM_man; rw [if_neg c_3, if_neg c_4, if_neg c_8, if_neg c_9, if_neg c_10, if_neg c_11, if_neg c_12, if_neg c_13, if_neg c_14]), ht⟩) t_nil d_WM_man_128
def f_WM_isOars (p_0 : Int32) : Int32 := if p_0 = 1 then (1) else (if p_0 = 2 then (1) else (0))
set_option maxHeartbeats 4000000 in
set_option maxRecDepth 100000 in
theorem c_WM_isOars (l : Launch)  (p_0 : Int32)  : Met l y_WM_isOars (.code y_WM_isOars b_WM_isOars 1 (some .boolean) :: TB) ({ frames := 0, cells := 0, slots := 0, locals := 0 }) (va_Pc [.int p_0] (fun _ => True)) (vp_Si (fun r => r = f_WM_isOars p_0)) 0 0 (fun _ => False) := by
  refine Met.ofW (cc := b_WM_isOars) (maxL := 1) (ret := (some .boolean)) (by decide) rfl ?_
  intro p e s m args below meth c s₁ B hml hv
  obtain ⟨rfl, -⟩ := hv
  have hx := B.exec
  have hb := B.bytes
  have hr := B.returns
  have hts := atoms_spec (ws := (.code y_WM_isOars b_WM_isOars 1 (some .boolean) :: TB)) B.pre
  have htb := fun w (h : w ∈ TB) => hts w (List.mem_cons_of_mem _ h)
  have hown : s.vm.findClass R_WM = some m.cls := findClass_of_methodNamed B.named
  have hlocks := B.notSynchronized
  have hl := lv_entry ([.int p_0]) (n := 1) (Nat.le_of_ble_eq_true rfl)
  rw [lg_entry_eq]
  generalize (lg_sl ([.int p_0]) ++ List.replicate (1 - (lg_sl ([.int p_0])).length) Slot.unset).toArray = ls at hl ⊢
  have hl : lv_has ls 1 [(0, .int p_0)] := hl
  refine lv_iload_n hx hb d_WM_isOars_0 rfl (lv_at hl 0 rfl) ?_
  refine lv_iconst (v := 1) hx hb d_WM_isOars_1 (by decide +kernel) ?_
  refine lv_icmp_eq (tgt := 10) hx hb d_WM_isOars_2 (by decide) (fun c_1 => ?_) (fun c_1 => ?_)
  · refine lv_iconst (v := 1) hx hb d_WM_isOars_10 (by decide +kernel) ?_
    refine lv_goto (tgt := 15) hx hb d_WM_isOars_11 (by decide) ?_
    exact W.zret (v := 1) hx hb hr (by decide +kernel) (fun t ht hW => ⟨1, rfl, (by unfold f_WM_isOars; rw [if_pos c_1]), ht⟩) t_nil d_WM_isOars_15
  · refine lv_iload_n hx hb d_WM_isOars_5 rfl (lv_at hl 0 rfl) ?_
    refine lv_iconst (v := 2) hx hb d_WM_isOars_6 (by decide +kernel) ?_
    refine lv_icmp_ne (tgt := 14) hx hb d_WM_isOars_7 (by decide) (fun c_2 => ?_) (fun c_2 => ?_)
    · refine lv_iconst (v := 0) hx hb d_WM_isOars_14 (by decide +kernel) ?_
      exact W.zret (v := 0) hx hb hr (by decide +kernel) (fun t ht hW => ⟨0, rfl, (by unfold f_WM_isOars; rw [if_neg c_1, if_neg c_2]), ht⟩) t_nil d_WM_isOars_15
    · refine lv_iconst (v := 1) hx hb d_WM_isOars_10 (by decide +kernel) ?_
      refine lv_goto (tgt := 15) hx hb d_WM_isOars_11 (by decide) ?_
      exact W.zret (v := 1) hx hb hr (by decide +kernel) (fun t ht hW => ⟨1, rfl, (by unfold f_WM_isOars; rw [if_neg c_1, if_pos c_2]), ht⟩) t_nil d_WM_isOars_15
def f_Rv_hasStairs (p_0 : Int32) : Int32 := if p_0 < 0 then (0) else (0)
set_option maxHeartbeats 4000000 in
set_option maxRecDepth 100000 in
theorem c_Rv_hasStairs (l : Launch) (dC : Nat → ClassId) (dI : Nat → Nat → Nat) (a : Nat → Nat) (k : Nat → ClassId) (L : List Nat) (hL : L.length = 40)  (p_0 : Int32)  : Met l y_Rv_hasStairs (.code y_Rv_hasStairs b_Rv_hasStairs 2 (some .boolean) :: TB) ({ frames := 0, cells := 0, slots := 0, locals := 0 }) (va_Pc [.ref (a 1), .int p_0] (PR dC dI (XW a k L) (XT k))) (vp_Si (fun r => r = f_Rv_hasStairs p_0)) 0 0 (fun _ => False) := by
  refine Met.ofW (cc := b_Rv_hasStairs) (maxL := 2) (ret := (some .boolean)) (by decide) rfl ?_
  intro p e s m args below meth c s₁ B hml hv
  obtain ⟨rfl, hP, hK, hN⟩ := hv
  have hx := B.exec
  have hb := B.bytes
  have hr := B.returns
  have hts := atoms_spec (ws := (.code y_Rv_hasStairs b_Rv_hasStairs 2 (some .boolean) :: TB)) B.pre
  have htb := fun w (h : w ∈ TB) => hts w (List.mem_cons_of_mem _ h)
  have hown : s.vm.findClass R_Rv = some m.cls := findClass_of_methodNamed B.named
  have hlocks := B.notSynchronized
  have hl := lv_entry ([.ref (a 1), .int p_0]) (n := 2) (Nat.le_of_ble_eq_true rfl)
  rw [lg_entry_eq]
  generalize (lg_sl ([.ref (a 1), .int p_0]) ++ List.replicate (2 - (lg_sl ([.ref (a 1), .int p_0])).length) Slot.unset).toArray = ls at hl ⊢
  have hl : lv_has ls 2 [(0, .ref (a 1)), (1, .int p_0)] := hl
  refine lv_iload_n hx hb d_Rv_hasStairs_0 rfl (lv_at hl 1 rfl) ?_
  refine lv_if_lt (tgt := 16) hx hb d_Rv_hasStairs_1 (by decide) (fun c_1 => ?_) (fun c_1 => ?_)
  · refine lv_iconst (v := 0) hx hb d_Rv_hasStairs_16 (by decide +kernel) ?_
    exact W.zret (v := 0) hx hb hr (by decide +kernel) (fun t ht hW => ⟨0, rfl, (by unfold f_Rv_hasStairs; rw [if_pos c_1]), ht⟩) t_nil d_Rv_hasStairs_17
  · refine lv_iload_n hx hb d_Rv_hasStairs_4 rfl (lv_at hl 1 rfl) ?_
    refine lv_aload_n hx hb d_Rv_hasStairs_5 rfl (lv_at hl 0 rfl) ?_
    refine va_get (D := (dC, dI)) (ci := 1) (v := .int 0) (C := R_Rv) (T := F_Rv) (N := 6) hx hb htb i_Rv hown hK hP 1 rfl rfl 4 (by decide) (htb (.fieldLink R_Rv 35 "WaterMen$River" "stairCount" "I") tw_112) (fun _ h9 => h9) rfl d_Rv_hasStairs_6 ?_
    refine lv_icmp_ge (tgt := 16) hx hb d_Rv_hasStairs_9 (by decide) (fun _ => ?_) (fun h => absurd (show 0 ≤ p_0 from by have e0 := c_1; rw [Int32.lt_iff_toInt_lt] at e0; have z0 : (0 : Int32).toInt = 0 := (by decide +kernel); rw [Int32.le_iff_toInt_le]; omega) h)
    refine lv_iconst (v := 0) hx hb d_Rv_hasStairs_16 (by decide +kernel) ?_
    exact W.zret (v := 0) hx hb hr (by decide +kernel) (fun t ht hW => ⟨0, rfl, (by unfold f_Rv_hasStairs; rw [if_neg c_1]), ht⟩) t_nil d_Rv_hasStairs_17
def f_WM_boat (p_0 : Int32) (p_1 : Int32) : Int32 := if p_0 = 1 then (if p_1 < 0 then ((-1)) else ((-1))) else (if p_0 = 2 then (if p_1 < 0 then ((-1)) else ((-1))) else ((-1)))
set_option maxHeartbeats 4000000 in
set_option maxRecDepth 100000 in
theorem c_WM_boat (l : Launch) (dC : Nat → ClassId) (dI : Nat → Nat → Nat) (a : Nat → Nat) (k : Nat → ClassId) (L : List Nat) (hL : L.length = 40)  (p_0 : Int32) (p_1 : Int32)  : Met l y_WM_boat (.code y_WM_boat b_WM_boat 3 (some .int) :: TB) ({ frames := 1, cells := 0, slots := 0, locals := 21 }) (va_Pc [.ref (a 0), .int p_0, .int p_1] (PR dC dI (XW a k L) (XT k))) (vp_Si (fun r => r = f_WM_boat p_0 p_1)) 0 0 (fun _ => False) := by
  refine Met.ofW (cc := b_WM_boat) (maxL := 3) (ret := (some .int)) (by decide) rfl ?_
  intro p e s m args below meth c s₁ B hml hv
  obtain ⟨rfl, hP, hK, hN⟩ := hv
  have hx := B.exec
  have hb := B.bytes
  have hr := B.returns
  have hts := atoms_spec (ws := (.code y_WM_boat b_WM_boat 3 (some .int) :: TB)) B.pre
  have htb := fun w (h : w ∈ TB) => hts w (List.mem_cons_of_mem _ h)
  have hown : s.vm.findClass R_WM = some m.cls := findClass_of_methodNamed B.named
  have hlocks := B.notSynchronized
  have hl := lv_entry ([.ref (a 0), .int p_0, .int p_1]) (n := 3) (Nat.le_of_ble_eq_true rfl)
  rw [lg_entry_eq]
  generalize (lg_sl ([.ref (a 0), .int p_0, .int p_1]) ++ List.replicate (3 - (lg_sl ([.ref (a 0), .int p_0, .int p_1])).length) Slot.unset).toArray = ls at hl ⊢
  have hl : lv_has ls 3 [(0, .ref (a 0)), (1, .int p_0), (2, .int p_1)] := hl
  refine lv_iload_n hx hb d_WM_boat_0 rfl (lv_at hl 1 rfl) ?_
  refine vp_callSi (va_Run.run (va_runS (As := [.int p_0]) (rest := []) ⟨hx, hb, hml, hown, htb⟩ (c_WM_isOars l p_0) (cwS 1 htb (gd_S tw_179 tw_180 tw_124 tw_178) rfl rfl rfl (by decide +kernel) ⟨Nat.le_of_ble_eq_true rfl, Nat.le_of_ble_eq_true rfl⟩) ⟨fun _ _ _ _ h => h, fun U _ _ => ⟨rfl, trivial⟩⟩ rfl rfl hl.1 rfl (lv_room (Nat.le_of_ble_eq_true rfl)) d_WM_boat_1 ⟨Nat.le_of_ble_eq_true rfl, Nat.le_of_ble_eq_true rfl⟩)) (fun r er => ?_)
  subst er
  by_cases c_1 : p_0 = 1
  · refine hb_ti 1 (by unfold f_WM_isOars; rw [if_pos c_1]) ?_
    refine lv_if_eq (tgt := 18) hx hb d_WM_boat_4 (by decide) (fun h => absurd h (by decide +kernel)) (fun _ => ?_)
    refine lv_aload_n hx hb d_WM_boat_7 rfl (lv_at hl 0 rfl) ?_
    refine va_get (D := (dC, dI)) (ci := 0) (v := .ref (a 1)) (C := R_WM) (T := F_WM) (N := 13) hx hb htb i_WM hown hK hP 0 rfl rfl 0 (by decide) (htb (.fieldLink R_WM 12 "WaterMen" "river" "LWaterMen$River;") tw_68) (fun _ h9 => h9) rfl d_WM_boat_8 ?_
    refine lv_iload_n hx hb d_WM_boat_11 rfl (lv_at hl 2 rfl) ?_
    refine vp_callSi (va_Run.run (va_runV (As := [.int p_1]) (rest := []) ⟨hx, hb, hml, hown, htb⟩ (c_Rv_hasStairs l dC dI a k L hL p_1) (cwV 1 htb (gd_V tw_182 tw_183 tw_184 tw_58 tw_181) rfl rfl rfl (by decide +kernel) ⟨Nat.le_of_ble_eq_true rfl, Nat.le_of_ble_eq_true rfl⟩) ⟨pr_blind, va_recv hK hP (ci := 1) (q0 := 1) rfl rfl, pr_pre hP hK hN⟩ rfl rfl hl.1 rfl (lv_room (Nat.le_of_ble_eq_true rfl)) d_WM_boat_12 ⟨Nat.le_of_ble_eq_true rfl, Nat.le_of_ble_eq_true rfl⟩)) (fun r er => ?_)
    subst er
    by_cases c_2 : p_1 < 0
    · refine hb_ti 0 (by unfold f_Rv_hasStairs; rw [if_pos c_2]) ?_
      refine lv_if_ne (tgt := 20) hx hb d_WM_boat_15 (by decide) (fun h => absurd (by decide +kernel) h) (fun _ => ?_)
      refine lv_iconst (v := (-1)) hx hb d_WM_boat_18 (by decide +kernel) ?_
      exact W.iret (v := (-1)) hx hb hr (fun t ht hW => ⟨(-1), rfl, (by unfold f_WM_boat; rw [if_pos c_1, if_pos c_2]), ht⟩) t_nil d_WM_boat_19
    · refine hb_ti 0 (by unfold f_Rv_hasStairs; rw [if_neg c_2]) ?_
      refine lv_if_ne (tgt := 20) hx hb d_WM_boat_15 (by decide) (fun h => absurd (by decide +kernel) h) (fun _ => ?_)
      refine lv_iconst (v := (-1)) hx hb d_WM_boat_18 (by decide +kernel) ?_
      exact W.iret (v := (-1)) hx hb hr (fun t ht hW => ⟨(-1), rfl, (by unfold f_WM_boat; rw [if_pos c_1, if_neg c_2]), ht⟩) t_nil d_WM_boat_19
  · by_cases c_3 : p_0 = 2
    · refine hb_ti 1 (by unfold f_WM_isOars; rw [if_neg c_1, if_pos c_3]) ?_
      refine lv_if_eq (tgt := 18) hx hb d_WM_boat_4 (by decide) (fun h => absurd h (by decide +kernel)) (fun _ => ?_)
      refine lv_aload_n hx hb d_WM_boat_7 rfl (lv_at hl 0 rfl) ?_
      refine va_get (D := (dC, dI)) (ci := 0) (v := .ref (a 1)) (C := R_WM) (T := F_WM) (N := 13) hx hb htb i_WM hown hK hP 0 rfl rfl 0 (by decide) (htb (.fieldLink R_WM 12 "WaterMen" "river" "LWaterMen$River;") tw_68) (fun _ h9 => h9) rfl d_WM_boat_8 ?_
      refine lv_iload_n hx hb d_WM_boat_11 rfl (lv_at hl 2 rfl) ?_
      refine vp_callSi (va_Run.run (va_runV (As := [.int p_1]) (rest := []) ⟨hx, hb, hml, hown, htb⟩ (c_Rv_hasStairs l dC dI a k L hL p_1) (cwV 1 htb (gd_V tw_182 tw_183 tw_184 tw_58 tw_181) rfl rfl rfl (by decide +kernel) ⟨Nat.le_of_ble_eq_true rfl, Nat.le_of_ble_eq_true rfl⟩) ⟨pr_blind, va_recv hK hP (ci := 1) (q0 := 1) rfl rfl, pr_pre hP hK hN⟩ rfl rfl hl.1 rfl (lv_room (Nat.le_of_ble_eq_true rfl)) d_WM_boat_12 ⟨Nat.le_of_ble_eq_true rfl, Nat.le_of_ble_eq_true rfl⟩)) (fun r er => ?_)
      subst er
      by_cases c_4 : p_1 < 0
      · refine hb_ti 0 (by unfold f_Rv_hasStairs; rw [if_pos c_4]) ?_
        refine lv_if_ne (tgt := 20) hx hb d_WM_boat_15 (by decide) (fun h => absurd (by decide +kernel) h) (fun _ => ?_)
        refine lv_iconst (v := (-1)) hx hb d_WM_boat_18 (by decide +kernel) ?_
        exact W.iret (v := (-1)) hx hb hr (fun t ht hW => ⟨(-1), rfl, (by unfold f_WM_boat; rw [if_neg c_1, if_pos c_3, if_pos c_4]), ht⟩) t_nil d_WM_boat_19
      · refine hb_ti 0 (by unfold f_Rv_hasStairs; rw [if_neg c_4]) ?_
        refine lv_if_ne (tgt := 20) hx hb d_WM_boat_15 (by decide) (fun h => absurd (by decide +kernel) h) (fun _ => ?_)
        refine lv_iconst (v := (-1)) hx hb d_WM_boat_18 (by decide +kernel) ?_
        exact W.iret (v := (-1)) hx hb hr (fun t ht hW => ⟨(-1), rfl, (by unfold f_WM_boat; rw [if_neg c_1, if_pos c_3, if_neg c_4]), ht⟩) t_nil d_WM_boat_19
    · refine hb_ti 0 (by unfold f_WM_isOars; rw [if_neg c_1, if_neg c_3]) ?_
      refine lv_if_eq (tgt := 18) hx hb d_WM_boat_4 (by decide) (fun _ => ?_) (fun h => absurd (by decide +kernel) h)
      refine lv_iconst (v := (-1)) hx hb d_WM_boat_18 (by decide +kernel) ?_
      exact W.iret (v := (-1)) hx hb hr (fun t ht hW => ⟨(-1), rfl, (by unfold f_WM_boat; rw [if_neg c_1, if_neg c_3]), ht⟩) t_nil d_WM_boat_19
def f_WM_boatAt (a : Nat → Nat) (k : Nat → ClassId) (L : List Nat) (p_0 : Int32) (r : Option Nat) : Prop := if p_0 < 0 then (r = none) else (r = none)
set_option maxHeartbeats 4000000 in
set_option maxRecDepth 100000 in
theorem c_WM_boatAt (l : Launch) (dC : Nat → ClassId) (dI : Nat → Nat → Nat) (a : Nat → Nat) (k : Nat → ClassId) (L : List Nat) (hL : L.length = 40) (p_0 : Int32) : Met l y_WM_boatAt (.code y_WM_boatAt b_WM_boatAt 2 (some (.object "WaterMen$Boat")) :: TB) ({ frames := 0, cells := 0, slots := 0, locals := 0 }) (va_Pc [.ref (a 0), .int p_0] (PR dC dI (XW a k L) (XT k))) (va_Sq (fun r => f_WM_boatAt a k L p_0 r)) 0 0 (fun _ => False) := by
  refine Met.ofW (cc := b_WM_boatAt) (maxL := 2) (ret := (some (.object "WaterMen$Boat"))) (by decide) rfl ?_
  intro p e s m args below meth c s₁ B hml hv
  obtain ⟨rfl, hP, hK, hN⟩ := hv
  have hx := B.exec
  have hb := B.bytes
  have hr := B.returns
  have hts := atoms_spec (ws := (.code y_WM_boatAt b_WM_boatAt 2 (some (.object "WaterMen$Boat")) :: TB)) B.pre
  have htb := fun w (h : w ∈ TB) => hts w (List.mem_cons_of_mem _ h)
  have hown : s.vm.findClass R_WM = some m.cls := findClass_of_methodNamed B.named
  have hlocks := B.notSynchronized
  have hl := lv_entry ([.ref (a 0), .int p_0]) (n := 2) (Nat.le_of_ble_eq_true rfl)
  rw [lg_entry_eq]
  generalize (lg_sl ([.ref (a 0), .int p_0]) ++ List.replicate (2 - (lg_sl ([.ref (a 0), .int p_0])).length) Slot.unset).toArray = ls at hl ⊢
  have hl : lv_has ls 2 [(0, .ref (a 0)), (1, .int p_0)] := hl
  refine lv_iload_n hx hb d_WM_boatAt_0 rfl (lv_at hl 1 rfl) ?_
  refine lv_if_lt (tgt := 21) hx hb d_WM_boatAt_1 (by decide) (fun c_1 => ?_) (fun c_1 => ?_)
  · refine lv_null hx hb d_WM_boatAt_21 ?_
    exact W.aret (v := .null) (rt := .object "WaterMen$Boat") hx hb hr (Or.inl ⟨_, rfl⟩) (Or.inl rfl) (fun t ht hW => ⟨none, rfl, (by show f_WM_boatAt a k L p_0 none; unfold f_WM_boatAt; rw [if_pos c_1]), ht⟩) t_nil d_WM_boatAt_22
  · refine lv_iload_n hx hb d_WM_boatAt_4 rfl (lv_at hl 1 rfl) ?_
    refine lv_aload_n hx hb d_WM_boatAt_5 rfl (lv_at hl 0 rfl) ?_
    refine va_get (D := (dC, dI)) (ci := 0) (v := .int 0) (C := R_WM) (T := F_WM) (N := 13) hx hb htb i_WM hown hK hP 0 rfl rfl 7 (by decide) (htb (.fieldLink R_WM 170 "WaterMen" "boatCount" "I") tw_185) (fun _ h9 => h9) rfl d_WM_boatAt_6 ?_
    refine lv_icmp_ge (tgt := 21) hx hb d_WM_boatAt_9 (by decide) (fun _ => ?_) (fun h => absurd (show 0 ≤ p_0 from by have e0 := c_1; rw [Int32.lt_iff_toInt_lt] at e0; have z0 : (0 : Int32).toInt = 0 := (by decide +kernel); rw [Int32.le_iff_toInt_le]; omega) h)
    refine lv_null hx hb d_WM_boatAt_21 ?_
    exact W.aret (v := .null) (rt := .object "WaterMen$Boat") hx hb hr (Or.inl ⟨_, rfl⟩) (Or.inl rfl) (fun t ht hW => ⟨none, rfl, (by show f_WM_boatAt a k L p_0 none; unfold f_WM_boatAt; rw [if_neg c_1]), ht⟩) t_nil d_WM_boatAt_22
def f_WM_craft (p_0 : Int32) (p_1 : Int32) : Int32 := if p_0 < 0 then ((-1)) else ((-1))
set_option maxHeartbeats 4000000 in
set_option maxRecDepth 100000 in
theorem c_WM_craft (l : Launch) (dC : Nat → ClassId) (dI : Nat → Nat → Nat) (a : Nat → Nat) (k : Nat → ClassId) (L : List Nat) (hL : L.length = 40)  (p_0 : Int32) (p_1 : Int32)  : Met l y_WM_craft (.code y_WM_craft b_WM_craft 4 (some .int) :: TB) ({ frames := 1, cells := 0, slots := 0, locals := 21 }) (va_Pc [.ref (a 0), .int p_0, .int p_1] (PR dC dI (XW a k L) (XT k))) (vp_Si (fun r => r = f_WM_craft p_0 p_1)) 0 0 (fun _ => False) := by
  refine Met.ofW (cc := b_WM_craft) (maxL := 4) (ret := (some .int)) (by decide) rfl ?_
  intro p e s m args below meth c s₁ B hml hv
  obtain ⟨rfl, hP, hK, hN⟩ := hv
  have hx := B.exec
  have hb := B.bytes
  have hr := B.returns
  have hts := atoms_spec (ws := (.code y_WM_craft b_WM_craft 4 (some .int) :: TB)) B.pre
  have htb := fun w (h : w ∈ TB) => hts w (List.mem_cons_of_mem _ h)
  have hown : s.vm.findClass R_WM = some m.cls := findClass_of_methodNamed B.named
  have hlocks := B.notSynchronized
  have hl := lv_entry ([.ref (a 0), .int p_0, .int p_1]) (n := 4) (Nat.le_of_ble_eq_true rfl)
  rw [lg_entry_eq]
  generalize (lg_sl ([.ref (a 0), .int p_0, .int p_1]) ++ List.replicate (4 - (lg_sl ([.ref (a 0), .int p_0, .int p_1])).length) Slot.unset).toArray = ls at hl ⊢
  have hl : lv_has ls 4 [(0, .ref (a 0)), (1, .int p_0), (2, .int p_1)] := hl
  refine lv_aload_n hx hb d_WM_craft_0 rfl (lv_at hl 0 rfl) ?_
  refine lv_iload_n hx hb d_WM_craft_1 rfl (lv_at hl 1 rfl) ?_
  refine va_csq (va_Run.run (va_runV (As := [.int p_0]) (rest := []) ⟨hx, hb, hml, hown, htb⟩ (c_WM_boatAt l dC dI a k L hL p_0) (cwV 1 htb (gd_V tw_187 tw_188 tw_189 tw_124 tw_186) rfl rfl rfl (by decide +kernel) ⟨Nat.le_of_ble_eq_true rfl, Nat.le_of_ble_eq_true rfl⟩) ⟨pr_blind, va_recv hK hP (ci := 0) (q0 := 0) rfl rfl, pr_pre hP hK hN⟩ rfl rfl hl.1 rfl (lv_room (Nat.le_of_ble_eq_true rfl)) d_WM_craft_2 ⟨Nat.le_of_ble_eq_true rfl, Nat.le_of_ble_eq_true rfl⟩)) (fun rr_2 hq_1 => ?_)
  unfold f_WM_boatAt at hq_1
  by_cases c_3 : p_0 < 0
  · rw [if_pos c_3] at hq_1
    subst hq_1
    refine hb_tv .null rfl ?_
    refine lv_astore_nN (lv' := [(3, .null), (0, .ref (a 0)), (1, .int p_0), (2, .int p_1)]) hx hb d_WM_craft_5 rfl hl (by decide) rfl (fun ls hl => ?_)
    refine lv_aload_nN hx hb d_WM_craft_6 rfl (lv_at hl 0 rfl) ?_
    refine lv_ifnonnullN hx hb d_WM_craft_7 ?_
    refine lv_iconst (v := (-1)) hx hb d_WM_craft_10 (by decide +kernel) ?_
    exact W.iret (v := (-1)) hx hb hr (fun t ht hW => ⟨(-1), rfl, (by unfold f_WM_craft; rw [if_pos c_3]), ht⟩) t_nil d_WM_craft_11
  · rw [if_neg c_3] at hq_1
    subst hq_1
    refine hb_tv .null rfl ?_
    refine lv_astore_nN (lv' := [(3, .null), (0, .ref (a 0)), (1, .int p_0), (2, .int p_1)]) hx hb d_WM_craft_5 rfl hl (by decide) rfl (fun ls hl => ?_)
    refine lv_aload_nN hx hb d_WM_craft_6 rfl (lv_at hl 0 rfl) ?_
    refine lv_ifnonnullN hx hb d_WM_craft_7 ?_
    refine lv_iconst (v := (-1)) hx hb d_WM_craft_10 (by decide +kernel) ?_
    exact W.iret (v := (-1)) hx hb hr (fun t ht hW => ⟨(-1), rfl, (by unfold f_WM_craft; rw [if_neg c_3]), ht⟩) t_nil d_WM_craft_11
def f_WM_join (p_0 : Int32) (p_1 : Int32) : Int32 := if p_1 < 0 then ((-1)) else (if 40 ≤ p_1 then ((-1)) else (if p_0 < 0 then ((-1)) else ((-1))))
set_option maxHeartbeats 4000000 in
set_option maxRecDepth 100000 in
theorem c_WM_join (l : Launch) (dC : Nat → ClassId) (dI : Nat → Nat → Nat) (a : Nat → Nat) (k : Nat → ClassId) (L : List Nat) (hL : L.length = 40)  (p_0 : Int32) (p_1 : Int32)  : Met l y_WM_join (.code y_WM_join b_WM_join 4 (some .int) :: TB) ({ frames := 1, cells := 0, slots := 0, locals := 21 }) (va_Pc [.ref (a 0), .int p_0, .int p_1] (PR dC dI (XW a k L) (XT k))) (vp_Si (fun r => r = f_WM_join p_0 p_1)) 0 0 (fun _ => False) := by
  refine Met.ofW (cc := b_WM_join) (maxL := 4) (ret := (some .int)) (by decide) rfl ?_
  intro p e s m args below meth c s₁ B hml hv
  obtain ⟨rfl, hP, hK, hN⟩ := hv
  have hx := B.exec
  have hb := B.bytes
  have hr := B.returns
  have hts := atoms_spec (ws := (.code y_WM_join b_WM_join 4 (some .int) :: TB)) B.pre
  have htb := fun w (h : w ∈ TB) => hts w (List.mem_cons_of_mem _ h)
  have hown : s.vm.findClass R_WM = some m.cls := findClass_of_methodNamed B.named
  have hlocks := B.notSynchronized
  have hl := lv_entry ([.ref (a 0), .int p_0, .int p_1]) (n := 4) (Nat.le_of_ble_eq_true rfl)
  rw [lg_entry_eq]
  generalize (lg_sl ([.ref (a 0), .int p_0, .int p_1]) ++ List.replicate (4 - (lg_sl ([.ref (a 0), .int p_0, .int p_1])).length) Slot.unset).toArray = ls at hl ⊢
  have hl : lv_has ls 4 [(0, .ref (a 0)), (1, .int p_0), (2, .int p_1)] := hl
  refine lv_aload_n hx hb d_WM_join_0 rfl (lv_at hl 0 rfl) ?_
  refine lv_iload_n hx hb d_WM_join_1 rfl (lv_at hl 2 rfl) ?_
  refine va_csq (va_Run.run (va_runV (As := [.int p_1]) (rest := []) ⟨hx, hb, hml, hown, htb⟩ (c_WM_manAt l dC dI a k L hL p_1) (cwV 1 htb (gd_V tw_157 tw_158 tw_159 tw_124 tw_156) rfl rfl rfl (by decide +kernel) ⟨Nat.le_of_ble_eq_true rfl, Nat.le_of_ble_eq_true rfl⟩) ⟨pr_blind, va_recv hK hP (ci := 0) (q0 := 0) rfl rfl, pr_pre hP hK hN⟩ rfl rfl hl.1 rfl (lv_room (Nat.le_of_ble_eq_true rfl)) d_WM_join_2 ⟨Nat.le_of_ble_eq_true rfl, Nat.le_of_ble_eq_true rfl⟩)) (fun rr_2 hq_1 => ?_)
  unfold f_WM_manAt at hq_1
  by_cases c_3 : p_1 < 0
  · rw [if_pos c_3] at hq_1
    subst hq_1
    refine hb_tv .null rfl ?_
    refine lv_astore_nN (lv' := [(3, .null), (0, .ref (a 0)), (1, .int p_0), (2, .int p_1)]) hx hb d_WM_join_5 rfl hl (by decide) rfl (fun ls hl => ?_)
    refine lv_aload_nN hx hb d_WM_join_6 rfl (lv_at hl 0 rfl) ?_
    refine lv_ifnullN (tgt := 21) hx hb d_WM_join_7 (by decide) ?_
    refine lv_iconst (v := (-1)) hx hb d_WM_join_21 (by decide +kernel) ?_
    exact W.iret (v := (-1)) hx hb hr (fun t ht hW => ⟨(-1), rfl, (by unfold f_WM_join; rw [if_pos c_3]), ht⟩) t_nil d_WM_join_22
  · by_cases c_4 : 40 ≤ p_1
    · rw [if_neg c_3, if_pos c_4] at hq_1
      subst hq_1
      refine hb_tv .null rfl ?_
      refine lv_astore_nN (lv' := [(3, .null), (0, .ref (a 0)), (1, .int p_0), (2, .int p_1)]) hx hb d_WM_join_5 rfl hl (by decide) rfl (fun ls hl => ?_)
      refine lv_aload_nN hx hb d_WM_join_6 rfl (lv_at hl 0 rfl) ?_
      refine lv_ifnullN (tgt := 21) hx hb d_WM_join_7 (by decide) ?_
      refine lv_iconst (v := (-1)) hx hb d_WM_join_21 (by decide +kernel) ?_
      exact W.iret (v := (-1)) hx hb hr (fun t ht hW => ⟨(-1), rfl, (by unfold f_WM_join; rw [if_neg c_3, if_pos c_4]), ht⟩) t_nil d_WM_join_22
    · rw [if_neg c_3, if_neg c_4] at hq_1
      obtain ⟨q_5, x_6, rfl, hk_7⟩ := hq_1
      refine hb_tv (.ref q_5) rfl ?_
      refine lv_astore_n (lv' := [(3, .ref q_5), (0, .ref (a 0)), (1, .int p_0), (2, .int p_1)]) hx hb d_WM_join_5 rfl hl (by decide) rfl (fun ls hl => ?_)
      refine lv_aload_n hx hb d_WM_join_6 rfl (lv_at hl 0 rfl) ?_
      refine lv_ifnull hx hb d_WM_join_7 ?_
      refine lv_aload_n hx hb d_WM_join_10 rfl (lv_at hl 1 rfl) ?_
      refine va_get (D := (dC, dI)) (ci := 0) (v := .ref (a 1)) (C := R_WM) (T := F_WM) (N := 13) hx hb htb i_WM hown hK hP 0 rfl rfl 0 (by decide) (htb (.fieldLink R_WM 12 "WaterMen" "river" "LWaterMen$River;") tw_68) (fun _ h9 => h9) rfl d_WM_join_11 ?_
      refine lv_iload_n hx hb d_WM_join_14 rfl (lv_at hl 2 rfl) ?_
      refine vp_callSi (va_Run.run (va_runV (As := [.int p_0]) (rest := []) ⟨hx, hb, hml, hown, htb⟩ (c_Rv_hasStairs l dC dI a k L hL p_0) (cwV 1 htb (gd_V tw_182 tw_183 tw_184 tw_58 tw_181) rfl rfl rfl (by decide +kernel) ⟨Nat.le_of_ble_eq_true rfl, Nat.le_of_ble_eq_true rfl⟩) ⟨pr_blind, va_recv hK hP (ci := 1) (q0 := 1) rfl rfl, pr_pre hP hK hN⟩ rfl rfl hl.1 rfl (lv_room (Nat.le_of_ble_eq_true rfl)) d_WM_join_15 ⟨Nat.le_of_ble_eq_true rfl, Nat.le_of_ble_eq_true rfl⟩)) (fun r er => ?_)
      subst er
      by_cases c_8 : p_0 < 0
      · refine hb_ti 0 (by unfold f_Rv_hasStairs; rw [if_pos c_8]) ?_
        refine lv_if_ne (tgt := 23) hx hb d_WM_join_18 (by decide) (fun h => absurd (by decide +kernel) h) (fun _ => ?_)
        refine lv_iconst (v := (-1)) hx hb d_WM_join_21 (by decide +kernel) ?_
        exact W.iret (v := (-1)) hx hb hr (fun t ht hW => ⟨(-1), rfl, (by unfold f_WM_join; rw [if_neg c_3, if_neg c_4, if_pos c_8]), ht⟩) t_nil d_WM_join_22
      · refine hb_ti 0 (by unfold f_Rv_hasStairs; rw [if_neg c_8]) ?_
        refine lv_if_ne (tgt := 23) hx hb d_WM_join_18 (by decide) (fun h => absurd (by decide +kernel) h) (fun _ => ?_)
        refine lv_iconst (v := (-1)) hx hb d_WM_join_21 (by decide +kernel) ?_
        exact W.iret (v := (-1)) hx hb hr (fun t ht hW => ⟨(-1), rfl, (by unfold f_WM_join; rw [if_neg c_3, if_neg c_4, if_neg c_8]), ht⟩) t_nil d_WM_join_22
def f_WM_leave (p_0 : Int32) : Int32 := if p_0 < 0 then ((-1)) else (if 40 ≤ p_0 then ((-1)) else ((-2)))
set_option maxHeartbeats 4000000 in
set_option maxRecDepth 100000 in
theorem c_WM_leave (l : Launch) (dC : Nat → ClassId) (dI : Nat → Nat → Nat) (a : Nat → Nat) (k : Nat → ClassId) (L : List Nat) (hL : L.length = 40)  (p_0 : Int32)  : Met l y_WM_leave (.code y_WM_leave b_WM_leave 3 (some .int) :: TB) ({ frames := 1, cells := 0, slots := 0, locals := 21 }) (va_Pc [.ref (a 0), .int p_0] (PR dC dI (XW a k L) (XT k))) (vp_Si (fun r => r = f_WM_leave p_0)) 0 0 (fun _ => False) := by
  refine Met.ofW (cc := b_WM_leave) (maxL := 3) (ret := (some .int)) (by decide) rfl ?_
  intro p e s m args below meth c s₁ B hml hv
  obtain ⟨rfl, hP, hK, hN⟩ := hv
  have hx := B.exec
  have hb := B.bytes
  have hr := B.returns
  have hts := atoms_spec (ws := (.code y_WM_leave b_WM_leave 3 (some .int) :: TB)) B.pre
  have htb := fun w (h : w ∈ TB) => hts w (List.mem_cons_of_mem _ h)
  have hown : s.vm.findClass R_WM = some m.cls := findClass_of_methodNamed B.named
  have hlocks := B.notSynchronized
  have hl := lv_entry ([.ref (a 0), .int p_0]) (n := 3) (Nat.le_of_ble_eq_true rfl)
  rw [lg_entry_eq]
  generalize (lg_sl ([.ref (a 0), .int p_0]) ++ List.replicate (3 - (lg_sl ([.ref (a 0), .int p_0])).length) Slot.unset).toArray = ls at hl ⊢
  have hl : lv_has ls 3 [(0, .ref (a 0)), (1, .int p_0)] := hl
  refine lv_aload_n hx hb d_WM_leave_0 rfl (lv_at hl 0 rfl) ?_
  refine lv_iload_n hx hb d_WM_leave_1 rfl (lv_at hl 1 rfl) ?_
  refine va_csq (va_Run.run (va_runV (As := [.int p_0]) (rest := []) ⟨hx, hb, hml, hown, htb⟩ (c_WM_manAt l dC dI a k L hL p_0) (cwV 1 htb (gd_V tw_157 tw_158 tw_159 tw_124 tw_156) rfl rfl rfl (by decide +kernel) ⟨Nat.le_of_ble_eq_true rfl, Nat.le_of_ble_eq_true rfl⟩) ⟨pr_blind, va_recv hK hP (ci := 0) (q0 := 0) rfl rfl, pr_pre hP hK hN⟩ rfl rfl hl.1 rfl (lv_room (Nat.le_of_ble_eq_true rfl)) d_WM_leave_2 ⟨Nat.le_of_ble_eq_true rfl, Nat.le_of_ble_eq_true rfl⟩)) (fun rr_2 hq_1 => ?_)
  unfold f_WM_manAt at hq_1
  by_cases c_3 : p_0 < 0
  · rw [if_pos c_3] at hq_1
    subst hq_1
    refine hb_tv .null rfl ?_
    refine lv_astore_nN (lv' := [(2, .null), (0, .ref (a 0)), (1, .int p_0)]) hx hb d_WM_leave_5 rfl hl (by decide) rfl (fun ls hl => ?_)
    refine lv_aload_nN hx hb d_WM_leave_6 rfl (lv_at hl 0 rfl) ?_
    refine lv_ifnonnullN hx hb d_WM_leave_7 ?_
    refine lv_iconst (v := (-1)) hx hb d_WM_leave_10 (by decide +kernel) ?_
    exact W.iret (v := (-1)) hx hb hr (fun t ht hW => ⟨(-1), rfl, (by unfold f_WM_leave; rw [if_pos c_3]), ht⟩) t_nil d_WM_leave_11
  · by_cases c_4 : 40 ≤ p_0
    · rw [if_neg c_3, if_pos c_4] at hq_1
      subst hq_1
      refine hb_tv .null rfl ?_
      refine lv_astore_nN (lv' := [(2, .null), (0, .ref (a 0)), (1, .int p_0)]) hx hb d_WM_leave_5 rfl hl (by decide) rfl (fun ls hl => ?_)
      refine lv_aload_nN hx hb d_WM_leave_6 rfl (lv_at hl 0 rfl) ?_
      refine lv_ifnonnullN hx hb d_WM_leave_7 ?_
      refine lv_iconst (v := (-1)) hx hb d_WM_leave_10 (by decide +kernel) ?_
      exact W.iret (v := (-1)) hx hb hr (fun t ht hW => ⟨(-1), rfl, (by unfold f_WM_leave; rw [if_neg c_3, if_pos c_4]), ht⟩) t_nil d_WM_leave_11
    · rw [if_neg c_3, if_neg c_4] at hq_1
      obtain ⟨q_5, x_6, rfl, hk_7⟩ := hq_1
      refine hb_tv (.ref q_5) rfl ?_
      refine lv_astore_n (lv' := [(2, .ref q_5), (0, .ref (a 0)), (1, .int p_0)]) hx hb d_WM_leave_5 rfl hl (by decide) rfl (fun ls hl => ?_)
      refine lv_aload_n hx hb d_WM_leave_6 rfl (lv_at hl 0 rfl) ?_
      refine lv_ifnonnull (tgt := 12) hx hb d_WM_leave_7 (by decide) ?_
      refine lv_aload_n hx hb d_WM_leave_12 rfl (lv_at hl 0 rfl) ?_
      refine va_get (D := (dC, dI)) (ci := 2) (v := .int (-1)) (C := R_Mn) (T := F_Mn) (N := 8) hx hb htb i_Mn hown hK hP x_6 hk_7 rfl 2 (by decide) (htb (.fieldLink R_WM 145 "WaterMen$Man" "turnStairs" "I") tw_166) (fun _ h9 => h9) rfl d_WM_leave_13 ?_
      refine lv_iconst (v := (-1)) hx hb d_WM_leave_16 (by decide +kernel) ?_
      refine lv_icmp_ne (tgt := 23) hx hb d_WM_leave_17 (by decide) (fun h => absurd (by decide +kernel) h) (fun _ => ?_)
      refine lv_bipush (v := (-2)) hx hb d_WM_leave_20 (by decide +kernel) ?_
      exact W.iret (v := (-2)) hx hb hr (fun t ht hW => ⟨(-2), rfl, (by unfold f_WM_leave; rw [if_neg c_3, if_neg c_4]), ht⟩) t_nil d_WM_leave_22
def f_Tp_hasRoomForFive  : Int32 := 1
set_option maxHeartbeats 4000000 in
set_option maxRecDepth 100000 in
theorem c_Tp_hasRoomForFive (l : Launch) (dC : Nat → ClassId) (dI : Nat → Nat → Nat) (a : Nat → Nat) (k : Nat → ClassId) (L : List Nat) (hL : L.length = 40)    : Met l y_Tp_hasRoomForFive (.code y_Tp_hasRoomForFive b_Tp_hasRoomForFive 1 (some .boolean) :: TB) ({ frames := 0, cells := 0, slots := 0, locals := 0 }) (va_Pc [.ref (a 10)] (PR dC dI (XW a k L) (XT k))) (vp_Si (fun r => r = f_Tp_hasRoomForFive)) 0 0 (fun _ => False) := by
  refine Met.ofW (cc := b_Tp_hasRoomForFive) (maxL := 1) (ret := (some .boolean)) (by decide) rfl ?_
  intro p e s m args below meth c s₁ B hml hv
  obtain ⟨rfl, hP, hK, hN⟩ := hv
  have hx := B.exec
  have hb := B.bytes
  have hr := B.returns
  have hts := atoms_spec (ws := (.code y_Tp_hasRoomForFive b_Tp_hasRoomForFive 1 (some .boolean) :: TB)) B.pre
  have htb := fun w (h : w ∈ TB) => hts w (List.mem_cons_of_mem _ h)
  have hown : s.vm.findClass R_Tp = some m.cls := findClass_of_methodNamed B.named
  have hlocks := B.notSynchronized
  have hl := lv_entry ([.ref (a 10)]) (n := 1) (Nat.le_of_ble_eq_true rfl)
  rw [lg_entry_eq]
  generalize (lg_sl ([.ref (a 10)]) ++ List.replicate (1 - (lg_sl ([.ref (a 10)])).length) Slot.unset).toArray = ls at hl ⊢
  have hl : lv_has ls 1 [(0, .ref (a 10))] := hl
  refine lv_aload_n hx hb d_Tp_hasRoomForFive_0 rfl (lv_at hl 0 rfl) ?_
  refine va_get (D := (dC, dI)) (ci := 4) (v := .int 0) (C := R_Tp) (T := F_Tp) (N := 6) hx hb htb i_Tp hown hK hP 10 rfl rfl 1 (by decide) (htb (.fieldLink R_Tp 15 "WaterMen$Tape" "length" "I") tw_190) (fun _ h9 => h9) rfl d_Tp_hasRoomForFive_1 ?_
  refine lv_sipush (v := 380) hx hb d_Tp_hasRoomForFive_4 (by decide +kernel) ?_
  refine lv_icmp_gt (tgt := 14) hx hb d_Tp_hasRoomForFive_7 (by decide) (fun h => absurd h (by decide +kernel)) (fun _ => ?_)
  refine lv_iconst (v := 1) hx hb d_Tp_hasRoomForFive_10 (by decide +kernel) ?_
  refine lv_goto (tgt := 15) hx hb d_Tp_hasRoomForFive_11 (by decide) ?_
  exact W.zret (v := 1) hx hb hr (by decide +kernel) (fun t ht hW => ⟨1, rfl, rfl, ht⟩) t_nil d_Tp_hasRoomForFive_15
set_option maxHeartbeats 4000000 in
set_option maxRecDepth 100000 in
theorem c_Tp_append_c5 (l : Launch) (dC : Nat → ClassId) (dI : Nat → Nat → Nat) (h_0 h_1 : Nat) (kk_1 : ClassId) (sz : Nat) (p_0 : Int32)  : Met l y_Tp_append (.code y_Tp_append b_Tp_append 2 none :: TB) ({ frames := 0, cells := 0, slots := 0, locals := 0 }) (va_Pc [.ref h_0, .int p_0] (PC dC dI [(h_0, .inr (4, [.ref h_1, .int 0, .int 0, .int 0, .int 0, .int 0])), (h_1, .inl (kk_1, 400, .inl (fun _ => 0)))] [(kk_1, .byte)] sz)) (va_Qv (fun (_ : Unit) => True) (fun (_ : Unit) t => ∃ (g_1 : Nat → Int32) , va_P (dC, dI) vwCl [(h_0, .inr (4, [.ref h_1, .int 4, .int 0, .int 0, .int 0, .int 0])), (h_1, .inl (kk_1, 400, .inl g_1))] t.heap ∧ va_K (dC, dI) vwCl [(kk_1, .byte)] t ∧ va_D (va_A [(h_0, .inr (4, [.ref h_1, .int 0, .int 0, .int 0, .int 0, .int 0])), (h_1, .inl (kk_1, 400, .inl (fun _ => 0)))] sz) [(h_0, .inr (4, [.ref h_1, .int 4, .int 0, .int 0, .int 0, .int 0])), (h_1, .inl (kk_1, 400, .inl g_1))]) (va_A [(h_0, .inr (4, [.ref h_1, .int 0, .int 0, .int 0, .int 0, .int 0])), (h_1, .inl (kk_1, 400, .inl (fun _ => 0)))] sz)) 0 0 (va_A [(h_0, .inr (4, [.ref h_1, .int 0, .int 0, .int 0, .int 0, .int 0])), (h_1, .inl (kk_1, 400, .inl (fun _ => 0)))] sz) := by
  refine Met.ofW (cc := b_Tp_append) (maxL := 2) (ret := none) (by decide) rfl ?_
  intro p e s m args below meth c s₁ B hml hv
  obtain ⟨rfl, hsz, hP, hK, hD0, hN⟩ := hv
  have hx := B.exec
  have hb := B.bytes
  have hr := B.returns
  have hts := atoms_spec (ws := (.code y_Tp_append b_Tp_append 2 none :: TB)) B.pre
  have htb := fun w (h : w ∈ TB) => hts w (List.mem_cons_of_mem _ h)
  have hown : s.vm.findClass R_Tp = some m.cls := findClass_of_methodNamed B.named
  have hlocks := B.notSynchronized
  have hl := lv_entry ([.ref h_0, .int p_0]) (n := 2) (Nat.le_of_ble_eq_true rfl)
  rw [lg_entry_eq]
  generalize (lg_sl ([.ref h_0, .int p_0]) ++ List.replicate (2 - (lg_sl ([.ref h_0, .int p_0])).length) Slot.unset).toArray = ls at hl ⊢
  have hl : lv_has ls 2 [(0, .ref h_0), (1, .int p_0)] := hl
  subst hsz
  have hD := hD0.self (sz := s.heap.size)
  obtain ⟨A, hAe⟩ : ∃ A, va_A [(h_0, .inr (4, [.ref h_1, .int 0, .int 0, .int 0, .int 0, .int 0])), (h_1, .inl (kk_1, 400, .inl (fun _ => 0)))] s.heap.size = A := ⟨_, rfl⟩
  rw [hAe] at hD
  have hA : ∀ q : Nat, s.heap.size ≤ q → A q := fun q h => by rw [← hAe]; exact Or.inr h
  have hS : va_S A s.heap s.heap [] := va_S.rf
  have hP := hP
  refine lv_aload_n hx hb d_Tp_append_0 rfl (lv_at hl 0 rfl) ?_
  refine va_get (D := (dC, dI)) (ci := 4) (v := .int 0) (C := R_Tp) (T := F_Tp) (N := 6) hx hb htb i_Tp hown hK hP 0 rfl rfl 1 (by decide) (htb (.fieldLink R_Tp 15 "WaterMen$Tape" "length" "I") tw_190) (fun _ h9 => h9) rfl d_Tp_append_1 ?_
  refine lv_sipush (v := 396) hx hb d_Tp_append_4 (by decide +kernel) ?_
  refine lv_icmp_le (tgt := 11) hx hb d_Tp_append_7 (by decide) (fun _ => ?_) (fun h => absurd (by decide +kernel) h)
  refine lv_aload_n hx hb d_Tp_append_11 rfl (lv_at hl 0 rfl) ?_
  refine va_get (D := (dC, dI)) (ci := 4) (v := .ref h_1) (C := R_Tp) (T := F_Tp) (N := 6) hx hb htb i_Tp hown hK hP 0 rfl rfl 0 (by decide) (htb (.fieldLink R_Tp 9 "WaterMen$Tape" "bytes" "[B") tw_81) (fun _ h9 => h9) rfl d_Tp_append_12 ?_
  refine lv_aload_n hx hb d_Tp_append_15 rfl (lv_at hl 0 rfl) ?_
  refine va_get (D := (dC, dI)) (ci := 4) (v := .int 0) (C := R_Tp) (T := F_Tp) (N := 6) hx hb htb i_Tp hown hK hP 0 rfl rfl 1 (by decide) (htb (.fieldLink R_Tp 15 "WaterMen$Tape" "length" "I") tw_190) (fun _ h9 => h9) rfl d_Tp_append_16 ?_
  refine lv_iload_n hx hb d_Tp_append_19 rfl (lv_at hl 1 rfl) ?_
  refine lv_bipush (v := 24) hx hb d_Tp_append_20 (by decide +kernel) ?_
  refine lv_iushr hx hb d_Tp_append_22 rfl ?_
  refine lv_i2b hx hb d_Tp_append_23 rfl ?_
  refine va_bast hx hb hK hP hD hS 1 0 rfl rfl (by unfold vp_in; decide +kernel) d_Tp_append_24 (fun H locs hP hD hS => ?_)
  have hP : va_P (dC, dI) vwCl [(h_0, .inr (4, [.ref h_1, .int 0, .int 0, .int 0, .int 0, .int 0])), (h_1, .inl (kk_1, 400, .inl (upd (fun _ => 0) (0 : Int32).toNatClampNeg (vp_nar .byte ((((p_0).toUInt32 >>> ((24 : Int32).toUInt32 &&& Int32.toUInt32 31)).toInt32).toInt8.toInt32)))))] H := hP
  have hD : va_D A [(h_0, .inr (4, [.ref h_1, .int 0, .int 0, .int 0, .int 0, .int 0])), (h_1, .inl (kk_1, 400, .inl (upd (fun _ => 0) (0 : Int32).toNatClampNeg (vp_nar .byte ((((p_0).toUInt32 >>> ((24 : Int32).toUInt32 &&& Int32.toUInt32 31)).toInt32).toInt8.toInt32)))))] := hD
  refine lv_aload_n hx hb d_Tp_append_25 rfl (lv_at hl 0 rfl) ?_
  refine va_get (D := (dC, dI)) (ci := 4) (v := .ref h_1) (C := R_Tp) (T := F_Tp) (N := 6) hx hb htb i_Tp hown hK hP 0 rfl rfl 0 (by decide) (htb (.fieldLink R_Tp 9 "WaterMen$Tape" "bytes" "[B") tw_81) (fun _ h9 => h9) rfl d_Tp_append_26 ?_
  refine lv_aload_n hx hb d_Tp_append_29 rfl (lv_at hl 0 rfl) ?_
  refine va_get (D := (dC, dI)) (ci := 4) (v := .int 0) (C := R_Tp) (T := F_Tp) (N := 6) hx hb htb i_Tp hown hK hP 0 rfl rfl 1 (by decide) (htb (.fieldLink R_Tp 15 "WaterMen$Tape" "length" "I") tw_190) (fun _ h9 => h9) rfl d_Tp_append_30 ?_
  refine lv_iconst (v := 1) hx hb d_Tp_append_33 (by decide +kernel) ?_
  refine lv_iadd hx hb d_Tp_append_34 ?_
  refine hb_ti 1 (by decide +kernel) ?_
  refine lv_iload_n hx hb d_Tp_append_35 rfl (lv_at hl 1 rfl) ?_
  refine lv_bipush (v := 16) hx hb d_Tp_append_36 (by decide +kernel) ?_
  refine lv_iushr hx hb d_Tp_append_38 rfl ?_
  refine lv_i2b hx hb d_Tp_append_39 rfl ?_
  refine va_bast hx hb hK hP hD hS 1 0 rfl rfl (by unfold vp_in; decide +kernel) d_Tp_append_40 (fun H locs hP hD hS => ?_)
  have hP : va_P (dC, dI) vwCl [(h_0, .inr (4, [.ref h_1, .int 0, .int 0, .int 0, .int 0, .int 0])), (h_1, .inl (kk_1, 400, .inl (upd (upd (fun _ => 0) (0 : Int32).toNatClampNeg (vp_nar .byte ((((p_0).toUInt32 >>> ((24 : Int32).toUInt32 &&& Int32.toUInt32 31)).toInt32).toInt8.toInt32))) (1 : Int32).toNatClampNeg (vp_nar .byte ((((p_0).toUInt32 >>> ((16 : Int32).toUInt32 &&& Int32.toUInt32 31)).toInt32).toInt8.toInt32)))))] H := hP
  have hD : va_D A [(h_0, .inr (4, [.ref h_1, .int 0, .int 0, .int 0, .int 0, .int 0])), (h_1, .inl (kk_1, 400, .inl (upd (upd (fun _ => 0) (0 : Int32).toNatClampNeg (vp_nar .byte ((((p_0).toUInt32 >>> ((24 : Int32).toUInt32 &&& Int32.toUInt32 31)).toInt32).toInt8.toInt32))) (1 : Int32).toNatClampNeg (vp_nar .byte ((((p_0).toUInt32 >>> ((16 : Int32).toUInt32 &&& Int32.toUInt32 31)).toInt32).toInt8.toInt32)))))] := hD
  refine lv_aload_n hx hb d_Tp_append_41 rfl (lv_at hl 0 rfl) ?_
  refine va_get (D := (dC, dI)) (ci := 4) (v := .ref h_1) (C := R_Tp) (T := F_Tp) (N := 6) hx hb htb i_Tp hown hK hP 0 rfl rfl 0 (by decide) (htb (.fieldLink R_Tp 9 "WaterMen$Tape" "bytes" "[B") tw_81) (fun _ h9 => h9) rfl d_Tp_append_42 ?_
  refine lv_aload_n hx hb d_Tp_append_45 rfl (lv_at hl 0 rfl) ?_
  refine va_get (D := (dC, dI)) (ci := 4) (v := .int 0) (C := R_Tp) (T := F_Tp) (N := 6) hx hb htb i_Tp hown hK hP 0 rfl rfl 1 (by decide) (htb (.fieldLink R_Tp 15 "WaterMen$Tape" "length" "I") tw_190) (fun _ h9 => h9) rfl d_Tp_append_46 ?_
  refine lv_iconst (v := 2) hx hb d_Tp_append_49 (by decide +kernel) ?_
  refine lv_iadd hx hb d_Tp_append_50 ?_
  refine hb_ti 2 (by decide +kernel) ?_
  refine lv_iload_n hx hb d_Tp_append_51 rfl (lv_at hl 1 rfl) ?_
  refine lv_bipush (v := 8) hx hb d_Tp_append_52 (by decide +kernel) ?_
  refine lv_iushr hx hb d_Tp_append_54 rfl ?_
  refine lv_i2b hx hb d_Tp_append_55 rfl ?_
  refine va_bast hx hb hK hP hD hS 1 0 rfl rfl (by unfold vp_in; decide +kernel) d_Tp_append_56 (fun H locs hP hD hS => ?_)
  have hP : va_P (dC, dI) vwCl [(h_0, .inr (4, [.ref h_1, .int 0, .int 0, .int 0, .int 0, .int 0])), (h_1, .inl (kk_1, 400, .inl (upd (upd (upd (fun _ => 0) (0 : Int32).toNatClampNeg (vp_nar .byte ((((p_0).toUInt32 >>> ((24 : Int32).toUInt32 &&& Int32.toUInt32 31)).toInt32).toInt8.toInt32))) (1 : Int32).toNatClampNeg (vp_nar .byte ((((p_0).toUInt32 >>> ((16 : Int32).toUInt32 &&& Int32.toUInt32 31)).toInt32).toInt8.toInt32))) (2 : Int32).toNatClampNeg (vp_nar .byte ((((p_0).toUInt32 >>> ((8 : Int32).toUInt32 &&& Int32.toUInt32 31)).toInt32).toInt8.toInt32)))))] H := hP
  have hD : va_D A [(h_0, .inr (4, [.ref h_1, .int 0, .int 0, .int 0, .int 0, .int 0])), (h_1, .inl (kk_1, 400, .inl (upd (upd (upd (fun _ => 0) (0 : Int32).toNatClampNeg (vp_nar .byte ((((p_0).toUInt32 >>> ((24 : Int32).toUInt32 &&& Int32.toUInt32 31)).toInt32).toInt8.toInt32))) (1 : Int32).toNatClampNeg (vp_nar .byte ((((p_0).toUInt32 >>> ((16 : Int32).toUInt32 &&& Int32.toUInt32 31)).toInt32).toInt8.toInt32))) (2 : Int32).toNatClampNeg (vp_nar .byte ((((p_0).toUInt32 >>> ((8 : Int32).toUInt32 &&& Int32.toUInt32 31)).toInt32).toInt8.toInt32)))))] := hD
  refine lv_aload_n hx hb d_Tp_append_57 rfl (lv_at hl 0 rfl) ?_
  refine va_get (D := (dC, dI)) (ci := 4) (v := .ref h_1) (C := R_Tp) (T := F_Tp) (N := 6) hx hb htb i_Tp hown hK hP 0 rfl rfl 0 (by decide) (htb (.fieldLink R_Tp 9 "WaterMen$Tape" "bytes" "[B") tw_81) (fun _ h9 => h9) rfl d_Tp_append_58 ?_
  refine lv_aload_n hx hb d_Tp_append_61 rfl (lv_at hl 0 rfl) ?_
  refine va_get (D := (dC, dI)) (ci := 4) (v := .int 0) (C := R_Tp) (T := F_Tp) (N := 6) hx hb htb i_Tp hown hK hP 0 rfl rfl 1 (by decide) (htb (.fieldLink R_Tp 15 "WaterMen$Tape" "length" "I") tw_190) (fun _ h9 => h9) rfl d_Tp_append_62 ?_
  refine lv_iconst (v := 3) hx hb d_Tp_append_65 (by decide +kernel) ?_
  refine lv_iadd hx hb d_Tp_append_66 ?_
  refine hb_ti 3 (by decide +kernel) ?_
  refine lv_iload_n hx hb d_Tp_append_67 rfl (lv_at hl 1 rfl) ?_
  refine lv_i2b hx hb d_Tp_append_68 rfl ?_
  refine va_bast hx hb hK hP hD hS 1 0 rfl rfl (by unfold vp_in; decide +kernel) d_Tp_append_69 (fun H locs hP hD hS => ?_)
  have hP : va_P (dC, dI) vwCl [(h_0, .inr (4, [.ref h_1, .int 0, .int 0, .int 0, .int 0, .int 0])), (h_1, .inl (kk_1, 400, .inl (upd (upd (upd (upd (fun _ => 0) (0 : Int32).toNatClampNeg (vp_nar .byte ((((p_0).toUInt32 >>> ((24 : Int32).toUInt32 &&& Int32.toUInt32 31)).toInt32).toInt8.toInt32))) (1 : Int32).toNatClampNeg (vp_nar .byte ((((p_0).toUInt32 >>> ((16 : Int32).toUInt32 &&& Int32.toUInt32 31)).toInt32).toInt8.toInt32))) (2 : Int32).toNatClampNeg (vp_nar .byte ((((p_0).toUInt32 >>> ((8 : Int32).toUInt32 &&& Int32.toUInt32 31)).toInt32).toInt8.toInt32))) (3 : Int32).toNatClampNeg (vp_nar .byte ((p_0).toInt8.toInt32)))))] H := hP
  have hD : va_D A [(h_0, .inr (4, [.ref h_1, .int 0, .int 0, .int 0, .int 0, .int 0])), (h_1, .inl (kk_1, 400, .inl (upd (upd (upd (upd (fun _ => 0) (0 : Int32).toNatClampNeg (vp_nar .byte ((((p_0).toUInt32 >>> ((24 : Int32).toUInt32 &&& Int32.toUInt32 31)).toInt32).toInt8.toInt32))) (1 : Int32).toNatClampNeg (vp_nar .byte ((((p_0).toUInt32 >>> ((16 : Int32).toUInt32 &&& Int32.toUInt32 31)).toInt32).toInt8.toInt32))) (2 : Int32).toNatClampNeg (vp_nar .byte ((((p_0).toUInt32 >>> ((8 : Int32).toUInt32 &&& Int32.toUInt32 31)).toInt32).toInt8.toInt32))) (3 : Int32).toNatClampNeg (vp_nar .byte ((p_0).toInt8.toInt32)))))] := hD
  refine lv_aload_n hx hb d_Tp_append_70 rfl (lv_at hl 0 rfl) ?_
  refine lv_dup hx hb d_Tp_append_71 rfl ?_
  refine va_get (D := (dC, dI)) (ci := 4) (v := .int 0) (C := R_Tp) (T := F_Tp) (N := 6) hx hb htb i_Tp hown hK hP 0 rfl rfl 1 (by decide) (htb (.fieldLink R_Tp 15 "WaterMen$Tape" "length" "I") tw_190) (fun _ h9 => h9) rfl d_Tp_append_72 ?_
  refine lv_iconst (v := 4) hx hb d_Tp_append_75 (by decide +kernel) ?_
  refine lv_iadd hx hb d_Tp_append_76 ?_
  refine hb_ti 4 (by decide +kernel) ?_
  refine va_put (D := (dC, dI)) (ci := 4) (v := .int 4) (ty := .int) (C := R_Tp) (T := F_Tp) (N := 6) hx hb htb i_Tp t_Tp t_Tp_ok n_Tp hown hK hP hD hS 0 rfl rfl 1 (by decide) (htb (.fieldLink R_Tp 15 "WaterMen$Tape" "length" "I") tw_190) (fun _ h9 => h9) rfl (by decide +kernel) rfl rfl (Nat.le_of_ble_eq_true rfl) d_Tp_append_77 (fun H locs hP hD hS => ?_)
  have hP : va_P (dC, dI) vwCl [(h_0, .inr (4, [.ref h_1, .int 4, .int 0, .int 0, .int 0, .int 0])), (h_1, .inl (kk_1, 400, .inl (upd (upd (upd (upd (fun _ => 0) (0 : Int32).toNatClampNeg (vp_nar .byte ((((p_0).toUInt32 >>> ((24 : Int32).toUInt32 &&& Int32.toUInt32 31)).toInt32).toInt8.toInt32))) (1 : Int32).toNatClampNeg (vp_nar .byte ((((p_0).toUInt32 >>> ((16 : Int32).toUInt32 &&& Int32.toUInt32 31)).toInt32).toInt8.toInt32))) (2 : Int32).toNatClampNeg (vp_nar .byte ((((p_0).toUInt32 >>> ((8 : Int32).toUInt32 &&& Int32.toUInt32 31)).toInt32).toInt8.toInt32))) (3 : Int32).toNatClampNeg (vp_nar .byte ((p_0).toInt8.toInt32)))))] H := hP
  have hD : va_D A [(h_0, .inr (4, [.ref h_1, .int 4, .int 0, .int 0, .int 0, .int 0])), (h_1, .inl (kk_1, 400, .inl (upd (upd (upd (upd (fun _ => 0) (0 : Int32).toNatClampNeg (vp_nar .byte ((((p_0).toUInt32 >>> ((24 : Int32).toUInt32 &&& Int32.toUInt32 31)).toInt32).toInt8.toInt32))) (1 : Int32).toNatClampNeg (vp_nar .byte ((((p_0).toUInt32 >>> ((16 : Int32).toUInt32 &&& Int32.toUInt32 31)).toInt32).toInt8.toInt32))) (2 : Int32).toNatClampNeg (vp_nar .byte ((((p_0).toUInt32 >>> ((8 : Int32).toUInt32 &&& Int32.toUInt32 31)).toInt32).toInt8.toInt32))) (3 : Int32).toNatClampNeg (vp_nar .byte ((p_0).toInt8.toInt32)))))] := hD
  refine W.widen (k := 0) (n := 0) (Nat.le_of_ble_eq_true rfl) (Nat.le_of_ble_eq_true rfl) ?_
  exact W.vret hx hb hr (fun t ht hW => ⟨⟨(), rfl, trivial, upd (upd (upd (upd (fun _ => 0) (0 : Int32).toNatClampNeg (vp_nar .byte ((((p_0).toUInt32 >>> ((24 : Int32).toUInt32 &&& Int32.toUInt32 31)).toInt32).toInt8.toInt32))) (1 : Int32).toNatClampNeg (vp_nar .byte ((((p_0).toUInt32 >>> ((16 : Int32).toUInt32 &&& Int32.toUInt32 31)).toInt32).toInt8.toInt32))) (2 : Int32).toNatClampNeg (vp_nar .byte ((((p_0).toUInt32 >>> ((8 : Int32).toUInt32 &&& Int32.toUInt32 31)).toInt32).toInt8.toInt32))) (3 : Int32).toNatClampNeg (vp_nar .byte ((p_0).toInt8.toInt32)), by rw [ht]; exact hP, va_K.moved hW.alike hK, by rw [hAe]; exact hD⟩, by rw [hAe]; exact hS.F ht⟩) (by rw [hAe]; exact hS.2.2) d_Tp_append_80
set_option maxHeartbeats 4000000 in
set_option maxRecDepth 100000 in
theorem c_Tp_append_c6 (l : Launch) (dC : Nat → ClassId) (dI : Nat → Nat → Nat) (h_0 h_1 : Nat) (kk_1 : ClassId) (gg_1 : Nat → Int32) (sz : Nat) (p_0 : Int32)  : Met l y_Tp_append (.code y_Tp_append b_Tp_append 2 none :: TB) ({ frames := 0, cells := 0, slots := 0, locals := 0 }) (va_Pc [.ref h_0, .int p_0] (PC dC dI [(h_0, .inr (4, [.ref h_1, .int 4, .int 0, .int 0, .int 0, .int 0])), (h_1, .inl (kk_1, 400, .inl gg_1))] [(kk_1, .byte)] sz)) (va_Qv (fun (_ : Unit) => True) (fun (_ : Unit) t => ∃ (g_1 : Nat → Int32) , va_P (dC, dI) vwCl [(h_0, .inr (4, [.ref h_1, .int 8, .int 0, .int 0, .int 0, .int 0])), (h_1, .inl (kk_1, 400, .inl g_1))] t.heap ∧ va_K (dC, dI) vwCl [(kk_1, .byte)] t ∧ va_D (va_A [(h_0, .inr (4, [.ref h_1, .int 4, .int 0, .int 0, .int 0, .int 0])), (h_1, .inl (kk_1, 400, .inl gg_1))] sz) [(h_0, .inr (4, [.ref h_1, .int 8, .int 0, .int 0, .int 0, .int 0])), (h_1, .inl (kk_1, 400, .inl g_1))]) (va_A [(h_0, .inr (4, [.ref h_1, .int 4, .int 0, .int 0, .int 0, .int 0])), (h_1, .inl (kk_1, 400, .inl gg_1))] sz)) 0 0 (va_A [(h_0, .inr (4, [.ref h_1, .int 4, .int 0, .int 0, .int 0, .int 0])), (h_1, .inl (kk_1, 400, .inl gg_1))] sz) := by
  refine Met.ofW (cc := b_Tp_append) (maxL := 2) (ret := none) (by decide) rfl ?_
  intro p e s m args below meth c s₁ B hml hv
  obtain ⟨rfl, hsz, hP, hK, hD0, hN⟩ := hv
  have hx := B.exec
  have hb := B.bytes
  have hr := B.returns
  have hts := atoms_spec (ws := (.code y_Tp_append b_Tp_append 2 none :: TB)) B.pre
  have htb := fun w (h : w ∈ TB) => hts w (List.mem_cons_of_mem _ h)
  have hown : s.vm.findClass R_Tp = some m.cls := findClass_of_methodNamed B.named
  have hlocks := B.notSynchronized
  have hl := lv_entry ([.ref h_0, .int p_0]) (n := 2) (Nat.le_of_ble_eq_true rfl)
  rw [lg_entry_eq]
  generalize (lg_sl ([.ref h_0, .int p_0]) ++ List.replicate (2 - (lg_sl ([.ref h_0, .int p_0])).length) Slot.unset).toArray = ls at hl ⊢
  have hl : lv_has ls 2 [(0, .ref h_0), (1, .int p_0)] := hl
  subst hsz
  have hD := hD0.self (sz := s.heap.size)
  obtain ⟨A, hAe⟩ : ∃ A, va_A [(h_0, .inr (4, [.ref h_1, .int 4, .int 0, .int 0, .int 0, .int 0])), (h_1, .inl (kk_1, 400, .inl gg_1))] s.heap.size = A := ⟨_, rfl⟩
  rw [hAe] at hD
  have hA : ∀ q : Nat, s.heap.size ≤ q → A q := fun q h => by rw [← hAe]; exact Or.inr h
  have hS : va_S A s.heap s.heap [] := va_S.rf
  have hP := hP
  refine lv_aload_n hx hb d_Tp_append_0 rfl (lv_at hl 0 rfl) ?_
  refine va_get (D := (dC, dI)) (ci := 4) (v := .int 4) (C := R_Tp) (T := F_Tp) (N := 6) hx hb htb i_Tp hown hK hP 0 rfl rfl 1 (by decide) (htb (.fieldLink R_Tp 15 "WaterMen$Tape" "length" "I") tw_190) (fun _ h9 => h9) rfl d_Tp_append_1 ?_
  refine lv_sipush (v := 396) hx hb d_Tp_append_4 (by decide +kernel) ?_
  refine lv_icmp_le (tgt := 11) hx hb d_Tp_append_7 (by decide) (fun _ => ?_) (fun h => absurd (by decide +kernel) h)
  refine lv_aload_n hx hb d_Tp_append_11 rfl (lv_at hl 0 rfl) ?_
  refine va_get (D := (dC, dI)) (ci := 4) (v := .ref h_1) (C := R_Tp) (T := F_Tp) (N := 6) hx hb htb i_Tp hown hK hP 0 rfl rfl 0 (by decide) (htb (.fieldLink R_Tp 9 "WaterMen$Tape" "bytes" "[B") tw_81) (fun _ h9 => h9) rfl d_Tp_append_12 ?_
  refine lv_aload_n hx hb d_Tp_append_15 rfl (lv_at hl 0 rfl) ?_
  refine va_get (D := (dC, dI)) (ci := 4) (v := .int 4) (C := R_Tp) (T := F_Tp) (N := 6) hx hb htb i_Tp hown hK hP 0 rfl rfl 1 (by decide) (htb (.fieldLink R_Tp 15 "WaterMen$Tape" "length" "I") tw_190) (fun _ h9 => h9) rfl d_Tp_append_16 ?_
  refine lv_iload_n hx hb d_Tp_append_19 rfl (lv_at hl 1 rfl) ?_
  refine lv_bipush (v := 24) hx hb d_Tp_append_20 (by decide +kernel) ?_
  refine lv_iushr hx hb d_Tp_append_22 rfl ?_
  refine lv_i2b hx hb d_Tp_append_23 rfl ?_
  refine va_bast hx hb hK hP hD hS 1 0 rfl rfl (by unfold vp_in; decide +kernel) d_Tp_append_24 (fun H locs hP hD hS => ?_)
  have hP : va_P (dC, dI) vwCl [(h_0, .inr (4, [.ref h_1, .int 4, .int 0, .int 0, .int 0, .int 0])), (h_1, .inl (kk_1, 400, .inl (upd gg_1 (4 : Int32).toNatClampNeg (vp_nar .byte ((((p_0).toUInt32 >>> ((24 : Int32).toUInt32 &&& Int32.toUInt32 31)).toInt32).toInt8.toInt32)))))] H := hP
  have hD : va_D A [(h_0, .inr (4, [.ref h_1, .int 4, .int 0, .int 0, .int 0, .int 0])), (h_1, .inl (kk_1, 400, .inl (upd gg_1 (4 : Int32).toNatClampNeg (vp_nar .byte ((((p_0).toUInt32 >>> ((24 : Int32).toUInt32 &&& Int32.toUInt32 31)).toInt32).toInt8.toInt32)))))] := hD
  refine lv_aload_n hx hb d_Tp_append_25 rfl (lv_at hl 0 rfl) ?_
  refine va_get (D := (dC, dI)) (ci := 4) (v := .ref h_1) (C := R_Tp) (T := F_Tp) (N := 6) hx hb htb i_Tp hown hK hP 0 rfl rfl 0 (by decide) (htb (.fieldLink R_Tp 9 "WaterMen$Tape" "bytes" "[B") tw_81) (fun _ h9 => h9) rfl d_Tp_append_26 ?_
  refine lv_aload_n hx hb d_Tp_append_29 rfl (lv_at hl 0 rfl) ?_
  refine va_get (D := (dC, dI)) (ci := 4) (v := .int 4) (C := R_Tp) (T := F_Tp) (N := 6) hx hb htb i_Tp hown hK hP 0 rfl rfl 1 (by decide) (htb (.fieldLink R_Tp 15 "WaterMen$Tape" "length" "I") tw_190) (fun _ h9 => h9) rfl d_Tp_append_30 ?_
  refine lv_iconst (v := 1) hx hb d_Tp_append_33 (by decide +kernel) ?_
  refine lv_iadd hx hb d_Tp_append_34 ?_
  refine hb_ti 5 (by decide +kernel) ?_
  refine lv_iload_n hx hb d_Tp_append_35 rfl (lv_at hl 1 rfl) ?_
  refine lv_bipush (v := 16) hx hb d_Tp_append_36 (by decide +kernel) ?_
  refine lv_iushr hx hb d_Tp_append_38 rfl ?_
  refine lv_i2b hx hb d_Tp_append_39 rfl ?_
  refine va_bast hx hb hK hP hD hS 1 0 rfl rfl (by unfold vp_in; decide +kernel) d_Tp_append_40 (fun H locs hP hD hS => ?_)
  have hP : va_P (dC, dI) vwCl [(h_0, .inr (4, [.ref h_1, .int 4, .int 0, .int 0, .int 0, .int 0])), (h_1, .inl (kk_1, 400, .inl (upd (upd gg_1 (4 : Int32).toNatClampNeg (vp_nar .byte ((((p_0).toUInt32 >>> ((24 : Int32).toUInt32 &&& Int32.toUInt32 31)).toInt32).toInt8.toInt32))) (5 : Int32).toNatClampNeg (vp_nar .byte ((((p_0).toUInt32 >>> ((16 : Int32).toUInt32 &&& Int32.toUInt32 31)).toInt32).toInt8.toInt32)))))] H := hP
  have hD : va_D A [(h_0, .inr (4, [.ref h_1, .int 4, .int 0, .int 0, .int 0, .int 0])), (h_1, .inl (kk_1, 400, .inl (upd (upd gg_1 (4 : Int32).toNatClampNeg (vp_nar .byte ((((p_0).toUInt32 >>> ((24 : Int32).toUInt32 &&& Int32.toUInt32 31)).toInt32).toInt8.toInt32))) (5 : Int32).toNatClampNeg (vp_nar .byte ((((p_0).toUInt32 >>> ((16 : Int32).toUInt32 &&& Int32.toUInt32 31)).toInt32).toInt8.toInt32)))))] := hD
  refine lv_aload_n hx hb d_Tp_append_41 rfl (lv_at hl 0 rfl) ?_
  refine va_get (D := (dC, dI)) (ci := 4) (v := .ref h_1) (C := R_Tp) (T := F_Tp) (N := 6) hx hb htb i_Tp hown hK hP 0 rfl rfl 0 (by decide) (htb (.fieldLink R_Tp 9 "WaterMen$Tape" "bytes" "[B") tw_81) (fun _ h9 => h9) rfl d_Tp_append_42 ?_
  refine lv_aload_n hx hb d_Tp_append_45 rfl (lv_at hl 0 rfl) ?_
  refine va_get (D := (dC, dI)) (ci := 4) (v := .int 4) (C := R_Tp) (T := F_Tp) (N := 6) hx hb htb i_Tp hown hK hP 0 rfl rfl 1 (by decide) (htb (.fieldLink R_Tp 15 "WaterMen$Tape" "length" "I") tw_190) (fun _ h9 => h9) rfl d_Tp_append_46 ?_
  refine lv_iconst (v := 2) hx hb d_Tp_append_49 (by decide +kernel) ?_
  refine lv_iadd hx hb d_Tp_append_50 ?_
  refine hb_ti 6 (by decide +kernel) ?_
  refine lv_iload_n hx hb d_Tp_append_51 rfl (lv_at hl 1 rfl) ?_
  refine lv_bipush (v := 8) hx hb d_Tp_append_52 (by decide +kernel) ?_
  refine lv_iushr hx hb d_Tp_append_54 rfl ?_
  refine lv_i2b hx hb d_Tp_append_55 rfl ?_
  refine va_bast hx hb hK hP hD hS 1 0 rfl rfl (by unfold vp_in; decide +kernel) d_Tp_append_56 (fun H locs hP hD hS => ?_)
  have hP : va_P (dC, dI) vwCl [(h_0, .inr (4, [.ref h_1, .int 4, .int 0, .int 0, .int 0, .int 0])), (h_1, .inl (kk_1, 400, .inl (upd (upd (upd gg_1 (4 : Int32).toNatClampNeg (vp_nar .byte ((((p_0).toUInt32 >>> ((24 : Int32).toUInt32 &&& Int32.toUInt32 31)).toInt32).toInt8.toInt32))) (5 : Int32).toNatClampNeg (vp_nar .byte ((((p_0).toUInt32 >>> ((16 : Int32).toUInt32 &&& Int32.toUInt32 31)).toInt32).toInt8.toInt32))) (6 : Int32).toNatClampNeg (vp_nar .byte ((((p_0).toUInt32 >>> ((8 : Int32).toUInt32 &&& Int32.toUInt32 31)).toInt32).toInt8.toInt32)))))] H := hP
  have hD : va_D A [(h_0, .inr (4, [.ref h_1, .int 4, .int 0, .int 0, .int 0, .int 0])), (h_1, .inl (kk_1, 400, .inl (upd (upd (upd gg_1 (4 : Int32).toNatClampNeg (vp_nar .byte ((((p_0).toUInt32 >>> ((24 : Int32).toUInt32 &&& Int32.toUInt32 31)).toInt32).toInt8.toInt32))) (5 : Int32).toNatClampNeg (vp_nar .byte ((((p_0).toUInt32 >>> ((16 : Int32).toUInt32 &&& Int32.toUInt32 31)).toInt32).toInt8.toInt32))) (6 : Int32).toNatClampNeg (vp_nar .byte ((((p_0).toUInt32 >>> ((8 : Int32).toUInt32 &&& Int32.toUInt32 31)).toInt32).toInt8.toInt32)))))] := hD
  refine lv_aload_n hx hb d_Tp_append_57 rfl (lv_at hl 0 rfl) ?_
  refine va_get (D := (dC, dI)) (ci := 4) (v := .ref h_1) (C := R_Tp) (T := F_Tp) (N := 6) hx hb htb i_Tp hown hK hP 0 rfl rfl 0 (by decide) (htb (.fieldLink R_Tp 9 "WaterMen$Tape" "bytes" "[B") tw_81) (fun _ h9 => h9) rfl d_Tp_append_58 ?_
  refine lv_aload_n hx hb d_Tp_append_61 rfl (lv_at hl 0 rfl) ?_
  refine va_get (D := (dC, dI)) (ci := 4) (v := .int 4) (C := R_Tp) (T := F_Tp) (N := 6) hx hb htb i_Tp hown hK hP 0 rfl rfl 1 (by decide) (htb (.fieldLink R_Tp 15 "WaterMen$Tape" "length" "I") tw_190) (fun _ h9 => h9) rfl d_Tp_append_62 ?_
  refine lv_iconst (v := 3) hx hb d_Tp_append_65 (by decide +kernel) ?_
  refine lv_iadd hx hb d_Tp_append_66 ?_
  refine hb_ti 7 (by decide +kernel) ?_
  refine lv_iload_n hx hb d_Tp_append_67 rfl (lv_at hl 1 rfl) ?_
  refine lv_i2b hx hb d_Tp_append_68 rfl ?_
  refine va_bast hx hb hK hP hD hS 1 0 rfl rfl (by unfold vp_in; decide +kernel) d_Tp_append_69 (fun H locs hP hD hS => ?_)
  have hP : va_P (dC, dI) vwCl [(h_0, .inr (4, [.ref h_1, .int 4, .int 0, .int 0, .int 0, .int 0])), (h_1, .inl (kk_1, 400, .inl (upd (upd (upd (upd gg_1 (4 : Int32).toNatClampNeg (vp_nar .byte ((((p_0).toUInt32 >>> ((24 : Int32).toUInt32 &&& Int32.toUInt32 31)).toInt32).toInt8.toInt32))) (5 : Int32).toNatClampNeg (vp_nar .byte ((((p_0).toUInt32 >>> ((16 : Int32).toUInt32 &&& Int32.toUInt32 31)).toInt32).toInt8.toInt32))) (6 : Int32).toNatClampNeg (vp_nar .byte ((((p_0).toUInt32 >>> ((8 : Int32).toUInt32 &&& Int32.toUInt32 31)).toInt32).toInt8.toInt32))) (7 : Int32).toNatClampNeg (vp_nar .byte ((p_0).toInt8.toInt32)))))] H := hP
  have hD : va_D A [(h_0, .inr (4, [.ref h_1, .int 4, .int 0, .int 0, .int 0, .int 0])), (h_1, .inl (kk_1, 400, .inl (upd (upd (upd (upd gg_1 (4 : Int32).toNatClampNeg (vp_nar .byte ((((p_0).toUInt32 >>> ((24 : Int32).toUInt32 &&& Int32.toUInt32 31)).toInt32).toInt8.toInt32))) (5 : Int32).toNatClampNeg (vp_nar .byte ((((p_0).toUInt32 >>> ((16 : Int32).toUInt32 &&& Int32.toUInt32 31)).toInt32).toInt8.toInt32))) (6 : Int32).toNatClampNeg (vp_nar .byte ((((p_0).toUInt32 >>> ((8 : Int32).toUInt32 &&& Int32.toUInt32 31)).toInt32).toInt8.toInt32))) (7 : Int32).toNatClampNeg (vp_nar .byte ((p_0).toInt8.toInt32)))))] := hD
  refine lv_aload_n hx hb d_Tp_append_70 rfl (lv_at hl 0 rfl) ?_
  refine lv_dup hx hb d_Tp_append_71 rfl ?_
  refine va_get (D := (dC, dI)) (ci := 4) (v := .int 4) (C := R_Tp) (T := F_Tp) (N := 6) hx hb htb i_Tp hown hK hP 0 rfl rfl 1 (by decide) (htb (.fieldLink R_Tp 15 "WaterMen$Tape" "length" "I") tw_190) (fun _ h9 => h9) rfl d_Tp_append_72 ?_
  refine lv_iconst (v := 4) hx hb d_Tp_append_75 (by decide +kernel) ?_
  refine lv_iadd hx hb d_Tp_append_76 ?_
  refine hb_ti 8 (by decide +kernel) ?_
  refine va_put (D := (dC, dI)) (ci := 4) (v := .int 8) (ty := .int) (C := R_Tp) (T := F_Tp) (N := 6) hx hb htb i_Tp t_Tp t_Tp_ok n_Tp hown hK hP hD hS 0 rfl rfl 1 (by decide) (htb (.fieldLink R_Tp 15 "WaterMen$Tape" "length" "I") tw_190) (fun _ h9 => h9) rfl (by decide +kernel) rfl rfl (Nat.le_of_ble_eq_true rfl) d_Tp_append_77 (fun H locs hP hD hS => ?_)
  have hP : va_P (dC, dI) vwCl [(h_0, .inr (4, [.ref h_1, .int 8, .int 0, .int 0, .int 0, .int 0])), (h_1, .inl (kk_1, 400, .inl (upd (upd (upd (upd gg_1 (4 : Int32).toNatClampNeg (vp_nar .byte ((((p_0).toUInt32 >>> ((24 : Int32).toUInt32 &&& Int32.toUInt32 31)).toInt32).toInt8.toInt32))) (5 : Int32).toNatClampNeg (vp_nar .byte ((((p_0).toUInt32 >>> ((16 : Int32).toUInt32 &&& Int32.toUInt32 31)).toInt32).toInt8.toInt32))) (6 : Int32).toNatClampNeg (vp_nar .byte ((((p_0).toUInt32 >>> ((8 : Int32).toUInt32 &&& Int32.toUInt32 31)).toInt32).toInt8.toInt32))) (7 : Int32).toNatClampNeg (vp_nar .byte ((p_0).toInt8.toInt32)))))] H := hP
  have hD : va_D A [(h_0, .inr (4, [.ref h_1, .int 8, .int 0, .int 0, .int 0, .int 0])), (h_1, .inl (kk_1, 400, .inl (upd (upd (upd (upd gg_1 (4 : Int32).toNatClampNeg (vp_nar .byte ((((p_0).toUInt32 >>> ((24 : Int32).toUInt32 &&& Int32.toUInt32 31)).toInt32).toInt8.toInt32))) (5 : Int32).toNatClampNeg (vp_nar .byte ((((p_0).toUInt32 >>> ((16 : Int32).toUInt32 &&& Int32.toUInt32 31)).toInt32).toInt8.toInt32))) (6 : Int32).toNatClampNeg (vp_nar .byte ((((p_0).toUInt32 >>> ((8 : Int32).toUInt32 &&& Int32.toUInt32 31)).toInt32).toInt8.toInt32))) (7 : Int32).toNatClampNeg (vp_nar .byte ((p_0).toInt8.toInt32)))))] := hD
  refine W.widen (k := 0) (n := 0) (Nat.le_of_ble_eq_true rfl) (Nat.le_of_ble_eq_true rfl) ?_
  exact W.vret hx hb hr (fun t ht hW => ⟨⟨(), rfl, trivial, upd (upd (upd (upd gg_1 (4 : Int32).toNatClampNeg (vp_nar .byte ((((p_0).toUInt32 >>> ((24 : Int32).toUInt32 &&& Int32.toUInt32 31)).toInt32).toInt8.toInt32))) (5 : Int32).toNatClampNeg (vp_nar .byte ((((p_0).toUInt32 >>> ((16 : Int32).toUInt32 &&& Int32.toUInt32 31)).toInt32).toInt8.toInt32))) (6 : Int32).toNatClampNeg (vp_nar .byte ((((p_0).toUInt32 >>> ((8 : Int32).toUInt32 &&& Int32.toUInt32 31)).toInt32).toInt8.toInt32))) (7 : Int32).toNatClampNeg (vp_nar .byte ((p_0).toInt8.toInt32)), by rw [ht]; exact hP, va_K.moved hW.alike hK, by rw [hAe]; exact hD⟩, by rw [hAe]; exact hS.F ht⟩) (by rw [hAe]; exact hS.2.2) d_Tp_append_80
set_option maxHeartbeats 4000000 in
set_option maxRecDepth 100000 in
theorem c_Tp_append_c7 (l : Launch) (dC : Nat → ClassId) (dI : Nat → Nat → Nat) (h_0 h_1 : Nat) (kk_1 : ClassId) (gg_1 : Nat → Int32) (sz : Nat) (p_0 : Int32)  : Met l y_Tp_append (.code y_Tp_append b_Tp_append 2 none :: TB) ({ frames := 0, cells := 0, slots := 0, locals := 0 }) (va_Pc [.ref h_0, .int p_0] (PC dC dI [(h_0, .inr (4, [.ref h_1, .int 8, .int 0, .int 0, .int 0, .int 0])), (h_1, .inl (kk_1, 400, .inl gg_1))] [(kk_1, .byte)] sz)) (va_Qv (fun (_ : Unit) => True) (fun (_ : Unit) t => ∃ (g_1 : Nat → Int32) , va_P (dC, dI) vwCl [(h_0, .inr (4, [.ref h_1, .int 12, .int 0, .int 0, .int 0, .int 0])), (h_1, .inl (kk_1, 400, .inl g_1))] t.heap ∧ va_K (dC, dI) vwCl [(kk_1, .byte)] t ∧ va_D (va_A [(h_0, .inr (4, [.ref h_1, .int 8, .int 0, .int 0, .int 0, .int 0])), (h_1, .inl (kk_1, 400, .inl gg_1))] sz) [(h_0, .inr (4, [.ref h_1, .int 12, .int 0, .int 0, .int 0, .int 0])), (h_1, .inl (kk_1, 400, .inl g_1))]) (va_A [(h_0, .inr (4, [.ref h_1, .int 8, .int 0, .int 0, .int 0, .int 0])), (h_1, .inl (kk_1, 400, .inl gg_1))] sz)) 0 0 (va_A [(h_0, .inr (4, [.ref h_1, .int 8, .int 0, .int 0, .int 0, .int 0])), (h_1, .inl (kk_1, 400, .inl gg_1))] sz) := by
  refine Met.ofW (cc := b_Tp_append) (maxL := 2) (ret := none) (by decide) rfl ?_
  intro p e s m args below meth c s₁ B hml hv
  obtain ⟨rfl, hsz, hP, hK, hD0, hN⟩ := hv
  have hx := B.exec
  have hb := B.bytes
  have hr := B.returns
  have hts := atoms_spec (ws := (.code y_Tp_append b_Tp_append 2 none :: TB)) B.pre
  have htb := fun w (h : w ∈ TB) => hts w (List.mem_cons_of_mem _ h)
  have hown : s.vm.findClass R_Tp = some m.cls := findClass_of_methodNamed B.named
  have hlocks := B.notSynchronized
  have hl := lv_entry ([.ref h_0, .int p_0]) (n := 2) (Nat.le_of_ble_eq_true rfl)
  rw [lg_entry_eq]
  generalize (lg_sl ([.ref h_0, .int p_0]) ++ List.replicate (2 - (lg_sl ([.ref h_0, .int p_0])).length) Slot.unset).toArray = ls at hl ⊢
  have hl : lv_has ls 2 [(0, .ref h_0), (1, .int p_0)] := hl
  subst hsz
  have hD := hD0.self (sz := s.heap.size)
  obtain ⟨A, hAe⟩ : ∃ A, va_A [(h_0, .inr (4, [.ref h_1, .int 8, .int 0, .int 0, .int 0, .int 0])), (h_1, .inl (kk_1, 400, .inl gg_1))] s.heap.size = A := ⟨_, rfl⟩
  rw [hAe] at hD
  have hA : ∀ q : Nat, s.heap.size ≤ q → A q := fun q h => by rw [← hAe]; exact Or.inr h
  have hS : va_S A s.heap s.heap [] := va_S.rf
  have hP := hP
  refine lv_aload_n hx hb d_Tp_append_0 rfl (lv_at hl 0 rfl) ?_
  refine va_get (D := (dC, dI)) (ci := 4) (v := .int 8) (C := R_Tp) (T := F_Tp) (N := 6) hx hb htb i_Tp hown hK hP 0 rfl rfl 1 (by decide) (htb (.fieldLink R_Tp 15 "WaterMen$Tape" "length" "I") tw_190) (fun _ h9 => h9) rfl d_Tp_append_1 ?_
  refine lv_sipush (v := 396) hx hb d_Tp_append_4 (by decide +kernel) ?_
  refine lv_icmp_le (tgt := 11) hx hb d_Tp_append_7 (by decide) (fun _ => ?_) (fun h => absurd (by decide +kernel) h)
  refine lv_aload_n hx hb d_Tp_append_11 rfl (lv_at hl 0 rfl) ?_
  refine va_get (D := (dC, dI)) (ci := 4) (v := .ref h_1) (C := R_Tp) (T := F_Tp) (N := 6) hx hb htb i_Tp hown hK hP 0 rfl rfl 0 (by decide) (htb (.fieldLink R_Tp 9 "WaterMen$Tape" "bytes" "[B") tw_81) (fun _ h9 => h9) rfl d_Tp_append_12 ?_
  refine lv_aload_n hx hb d_Tp_append_15 rfl (lv_at hl 0 rfl) ?_
  refine va_get (D := (dC, dI)) (ci := 4) (v := .int 8) (C := R_Tp) (T := F_Tp) (N := 6) hx hb htb i_Tp hown hK hP 0 rfl rfl 1 (by decide) (htb (.fieldLink R_Tp 15 "WaterMen$Tape" "length" "I") tw_190) (fun _ h9 => h9) rfl d_Tp_append_16 ?_
  refine lv_iload_n hx hb d_Tp_append_19 rfl (lv_at hl 1 rfl) ?_
  refine lv_bipush (v := 24) hx hb d_Tp_append_20 (by decide +kernel) ?_
  refine lv_iushr hx hb d_Tp_append_22 rfl ?_
  refine lv_i2b hx hb d_Tp_append_23 rfl ?_
  refine va_bast hx hb hK hP hD hS 1 0 rfl rfl (by unfold vp_in; decide +kernel) d_Tp_append_24 (fun H locs hP hD hS => ?_)
  have hP : va_P (dC, dI) vwCl [(h_0, .inr (4, [.ref h_1, .int 8, .int 0, .int 0, .int 0, .int 0])), (h_1, .inl (kk_1, 400, .inl (upd gg_1 (8 : Int32).toNatClampNeg (vp_nar .byte ((((p_0).toUInt32 >>> ((24 : Int32).toUInt32 &&& Int32.toUInt32 31)).toInt32).toInt8.toInt32)))))] H := hP
  have hD : va_D A [(h_0, .inr (4, [.ref h_1, .int 8, .int 0, .int 0, .int 0, .int 0])), (h_1, .inl (kk_1, 400, .inl (upd gg_1 (8 : Int32).toNatClampNeg (vp_nar .byte ((((p_0).toUInt32 >>> ((24 : Int32).toUInt32 &&& Int32.toUInt32 31)).toInt32).toInt8.toInt32)))))] := hD
  refine lv_aload_n hx hb d_Tp_append_25 rfl (lv_at hl 0 rfl) ?_
  refine va_get (D := (dC, dI)) (ci := 4) (v := .ref h_1) (C := R_Tp) (T := F_Tp) (N := 6) hx hb htb i_Tp hown hK hP 0 rfl rfl 0 (by decide) (htb (.fieldLink R_Tp 9 "WaterMen$Tape" "bytes" "[B") tw_81) (fun _ h9 => h9) rfl d_Tp_append_26 ?_
  refine lv_aload_n hx hb d_Tp_append_29 rfl (lv_at hl 0 rfl) ?_
  refine va_get (D := (dC, dI)) (ci := 4) (v := .int 8) (C := R_Tp) (T := F_Tp) (N := 6) hx hb htb i_Tp hown hK hP 0 rfl rfl 1 (by decide) (htb (.fieldLink R_Tp 15 "WaterMen$Tape" "length" "I") tw_190) (fun _ h9 => h9) rfl d_Tp_append_30 ?_
  refine lv_iconst (v := 1) hx hb d_Tp_append_33 (by decide +kernel) ?_
  refine lv_iadd hx hb d_Tp_append_34 ?_
  refine hb_ti 9 (by decide +kernel) ?_
  refine lv_iload_n hx hb d_Tp_append_35 rfl (lv_at hl 1 rfl) ?_
  refine lv_bipush (v := 16) hx hb d_Tp_append_36 (by decide +kernel) ?_
  refine lv_iushr hx hb d_Tp_append_38 rfl ?_
  refine lv_i2b hx hb d_Tp_append_39 rfl ?_
  refine va_bast hx hb hK hP hD hS 1 0 rfl rfl (by unfold vp_in; decide +kernel) d_Tp_append_40 (fun H locs hP hD hS => ?_)
  have hP : va_P (dC, dI) vwCl [(h_0, .inr (4, [.ref h_1, .int 8, .int 0, .int 0, .int 0, .int 0])), (h_1, .inl (kk_1, 400, .inl (upd (upd gg_1 (8 : Int32).toNatClampNeg (vp_nar .byte ((((p_0).toUInt32 >>> ((24 : Int32).toUInt32 &&& Int32.toUInt32 31)).toInt32).toInt8.toInt32))) (9 : Int32).toNatClampNeg (vp_nar .byte ((((p_0).toUInt32 >>> ((16 : Int32).toUInt32 &&& Int32.toUInt32 31)).toInt32).toInt8.toInt32)))))] H := hP
  have hD : va_D A [(h_0, .inr (4, [.ref h_1, .int 8, .int 0, .int 0, .int 0, .int 0])), (h_1, .inl (kk_1, 400, .inl (upd (upd gg_1 (8 : Int32).toNatClampNeg (vp_nar .byte ((((p_0).toUInt32 >>> ((24 : Int32).toUInt32 &&& Int32.toUInt32 31)).toInt32).toInt8.toInt32))) (9 : Int32).toNatClampNeg (vp_nar .byte ((((p_0).toUInt32 >>> ((16 : Int32).toUInt32 &&& Int32.toUInt32 31)).toInt32).toInt8.toInt32)))))] := hD
  refine lv_aload_n hx hb d_Tp_append_41 rfl (lv_at hl 0 rfl) ?_
  refine va_get (D := (dC, dI)) (ci := 4) (v := .ref h_1) (C := R_Tp) (T := F_Tp) (N := 6) hx hb htb i_Tp hown hK hP 0 rfl rfl 0 (by decide) (htb (.fieldLink R_Tp 9 "WaterMen$Tape" "bytes" "[B") tw_81) (fun _ h9 => h9) rfl d_Tp_append_42 ?_
  refine lv_aload_n hx hb d_Tp_append_45 rfl (lv_at hl 0 rfl) ?_
  refine va_get (D := (dC, dI)) (ci := 4) (v := .int 8) (C := R_Tp) (T := F_Tp) (N := 6) hx hb htb i_Tp hown hK hP 0 rfl rfl 1 (by decide) (htb (.fieldLink R_Tp 15 "WaterMen$Tape" "length" "I") tw_190) (fun _ h9 => h9) rfl d_Tp_append_46 ?_
  refine lv_iconst (v := 2) hx hb d_Tp_append_49 (by decide +kernel) ?_
  refine lv_iadd hx hb d_Tp_append_50 ?_
  refine hb_ti 10 (by decide +kernel) ?_
  refine lv_iload_n hx hb d_Tp_append_51 rfl (lv_at hl 1 rfl) ?_
  refine lv_bipush (v := 8) hx hb d_Tp_append_52 (by decide +kernel) ?_
  refine lv_iushr hx hb d_Tp_append_54 rfl ?_
  refine lv_i2b hx hb d_Tp_append_55 rfl ?_
  refine va_bast hx hb hK hP hD hS 1 0 rfl rfl (by unfold vp_in; decide +kernel) d_Tp_append_56 (fun H locs hP hD hS => ?_)
  have hP : va_P (dC, dI) vwCl [(h_0, .inr (4, [.ref h_1, .int 8, .int 0, .int 0, .int 0, .int 0])), (h_1, .inl (kk_1, 400, .inl (upd (upd (upd gg_1 (8 : Int32).toNatClampNeg (vp_nar .byte ((((p_0).toUInt32 >>> ((24 : Int32).toUInt32 &&& Int32.toUInt32 31)).toInt32).toInt8.toInt32))) (9 : Int32).toNatClampNeg (vp_nar .byte ((((p_0).toUInt32 >>> ((16 : Int32).toUInt32 &&& Int32.toUInt32 31)).toInt32).toInt8.toInt32))) (10 : Int32).toNatClampNeg (vp_nar .byte ((((p_0).toUInt32 >>> ((8 : Int32).toUInt32 &&& Int32.toUInt32 31)).toInt32).toInt8.toInt32)))))] H := hP
  have hD : va_D A [(h_0, .inr (4, [.ref h_1, .int 8, .int 0, .int 0, .int 0, .int 0])), (h_1, .inl (kk_1, 400, .inl (upd (upd (upd gg_1 (8 : Int32).toNatClampNeg (vp_nar .byte ((((p_0).toUInt32 >>> ((24 : Int32).toUInt32 &&& Int32.toUInt32 31)).toInt32).toInt8.toInt32))) (9 : Int32).toNatClampNeg (vp_nar .byte ((((p_0).toUInt32 >>> ((16 : Int32).toUInt32 &&& Int32.toUInt32 31)).toInt32).toInt8.toInt32))) (10 : Int32).toNatClampNeg (vp_nar .byte ((((p_0).toUInt32 >>> ((8 : Int32).toUInt32 &&& Int32.toUInt32 31)).toInt32).toInt8.toInt32)))))] := hD
  refine lv_aload_n hx hb d_Tp_append_57 rfl (lv_at hl 0 rfl) ?_
  refine va_get (D := (dC, dI)) (ci := 4) (v := .ref h_1) (C := R_Tp) (T := F_Tp) (N := 6) hx hb htb i_Tp hown hK hP 0 rfl rfl 0 (by decide) (htb (.fieldLink R_Tp 9 "WaterMen$Tape" "bytes" "[B") tw_81) (fun _ h9 => h9) rfl d_Tp_append_58 ?_
  refine lv_aload_n hx hb d_Tp_append_61 rfl (lv_at hl 0 rfl) ?_
  refine va_get (D := (dC, dI)) (ci := 4) (v := .int 8) (C := R_Tp) (T := F_Tp) (N := 6) hx hb htb i_Tp hown hK hP 0 rfl rfl 1 (by decide) (htb (.fieldLink R_Tp 15 "WaterMen$Tape" "length" "I") tw_190) (fun _ h9 => h9) rfl d_Tp_append_62 ?_
  refine lv_iconst (v := 3) hx hb d_Tp_append_65 (by decide +kernel) ?_
  refine lv_iadd hx hb d_Tp_append_66 ?_
  refine hb_ti 11 (by decide +kernel) ?_
  refine lv_iload_n hx hb d_Tp_append_67 rfl (lv_at hl 1 rfl) ?_
  refine lv_i2b hx hb d_Tp_append_68 rfl ?_
  refine va_bast hx hb hK hP hD hS 1 0 rfl rfl (by unfold vp_in; decide +kernel) d_Tp_append_69 (fun H locs hP hD hS => ?_)
  have hP : va_P (dC, dI) vwCl [(h_0, .inr (4, [.ref h_1, .int 8, .int 0, .int 0, .int 0, .int 0])), (h_1, .inl (kk_1, 400, .inl (upd (upd (upd (upd gg_1 (8 : Int32).toNatClampNeg (vp_nar .byte ((((p_0).toUInt32 >>> ((24 : Int32).toUInt32 &&& Int32.toUInt32 31)).toInt32).toInt8.toInt32))) (9 : Int32).toNatClampNeg (vp_nar .byte ((((p_0).toUInt32 >>> ((16 : Int32).toUInt32 &&& Int32.toUInt32 31)).toInt32).toInt8.toInt32))) (10 : Int32).toNatClampNeg (vp_nar .byte ((((p_0).toUInt32 >>> ((8 : Int32).toUInt32 &&& Int32.toUInt32 31)).toInt32).toInt8.toInt32))) (11 : Int32).toNatClampNeg (vp_nar .byte ((p_0).toInt8.toInt32)))))] H := hP
  have hD : va_D A [(h_0, .inr (4, [.ref h_1, .int 8, .int 0, .int 0, .int 0, .int 0])), (h_1, .inl (kk_1, 400, .inl (upd (upd (upd (upd gg_1 (8 : Int32).toNatClampNeg (vp_nar .byte ((((p_0).toUInt32 >>> ((24 : Int32).toUInt32 &&& Int32.toUInt32 31)).toInt32).toInt8.toInt32))) (9 : Int32).toNatClampNeg (vp_nar .byte ((((p_0).toUInt32 >>> ((16 : Int32).toUInt32 &&& Int32.toUInt32 31)).toInt32).toInt8.toInt32))) (10 : Int32).toNatClampNeg (vp_nar .byte ((((p_0).toUInt32 >>> ((8 : Int32).toUInt32 &&& Int32.toUInt32 31)).toInt32).toInt8.toInt32))) (11 : Int32).toNatClampNeg (vp_nar .byte ((p_0).toInt8.toInt32)))))] := hD
  refine lv_aload_n hx hb d_Tp_append_70 rfl (lv_at hl 0 rfl) ?_
  refine lv_dup hx hb d_Tp_append_71 rfl ?_
  refine va_get (D := (dC, dI)) (ci := 4) (v := .int 8) (C := R_Tp) (T := F_Tp) (N := 6) hx hb htb i_Tp hown hK hP 0 rfl rfl 1 (by decide) (htb (.fieldLink R_Tp 15 "WaterMen$Tape" "length" "I") tw_190) (fun _ h9 => h9) rfl d_Tp_append_72 ?_
  refine lv_iconst (v := 4) hx hb d_Tp_append_75 (by decide +kernel) ?_
  refine lv_iadd hx hb d_Tp_append_76 ?_
  refine hb_ti 12 (by decide +kernel) ?_
  refine va_put (D := (dC, dI)) (ci := 4) (v := .int 12) (ty := .int) (C := R_Tp) (T := F_Tp) (N := 6) hx hb htb i_Tp t_Tp t_Tp_ok n_Tp hown hK hP hD hS 0 rfl rfl 1 (by decide) (htb (.fieldLink R_Tp 15 "WaterMen$Tape" "length" "I") tw_190) (fun _ h9 => h9) rfl (by decide +kernel) rfl rfl (Nat.le_of_ble_eq_true rfl) d_Tp_append_77 (fun H locs hP hD hS => ?_)
  have hP : va_P (dC, dI) vwCl [(h_0, .inr (4, [.ref h_1, .int 12, .int 0, .int 0, .int 0, .int 0])), (h_1, .inl (kk_1, 400, .inl (upd (upd (upd (upd gg_1 (8 : Int32).toNatClampNeg (vp_nar .byte ((((p_0).toUInt32 >>> ((24 : Int32).toUInt32 &&& Int32.toUInt32 31)).toInt32).toInt8.toInt32))) (9 : Int32).toNatClampNeg (vp_nar .byte ((((p_0).toUInt32 >>> ((16 : Int32).toUInt32 &&& Int32.toUInt32 31)).toInt32).toInt8.toInt32))) (10 : Int32).toNatClampNeg (vp_nar .byte ((((p_0).toUInt32 >>> ((8 : Int32).toUInt32 &&& Int32.toUInt32 31)).toInt32).toInt8.toInt32))) (11 : Int32).toNatClampNeg (vp_nar .byte ((p_0).toInt8.toInt32)))))] H := hP
  have hD : va_D A [(h_0, .inr (4, [.ref h_1, .int 12, .int 0, .int 0, .int 0, .int 0])), (h_1, .inl (kk_1, 400, .inl (upd (upd (upd (upd gg_1 (8 : Int32).toNatClampNeg (vp_nar .byte ((((p_0).toUInt32 >>> ((24 : Int32).toUInt32 &&& Int32.toUInt32 31)).toInt32).toInt8.toInt32))) (9 : Int32).toNatClampNeg (vp_nar .byte ((((p_0).toUInt32 >>> ((16 : Int32).toUInt32 &&& Int32.toUInt32 31)).toInt32).toInt8.toInt32))) (10 : Int32).toNatClampNeg (vp_nar .byte ((((p_0).toUInt32 >>> ((8 : Int32).toUInt32 &&& Int32.toUInt32 31)).toInt32).toInt8.toInt32))) (11 : Int32).toNatClampNeg (vp_nar .byte ((p_0).toInt8.toInt32)))))] := hD
  refine W.widen (k := 0) (n := 0) (Nat.le_of_ble_eq_true rfl) (Nat.le_of_ble_eq_true rfl) ?_
  exact W.vret hx hb hr (fun t ht hW => ⟨⟨(), rfl, trivial, upd (upd (upd (upd gg_1 (8 : Int32).toNatClampNeg (vp_nar .byte ((((p_0).toUInt32 >>> ((24 : Int32).toUInt32 &&& Int32.toUInt32 31)).toInt32).toInt8.toInt32))) (9 : Int32).toNatClampNeg (vp_nar .byte ((((p_0).toUInt32 >>> ((16 : Int32).toUInt32 &&& Int32.toUInt32 31)).toInt32).toInt8.toInt32))) (10 : Int32).toNatClampNeg (vp_nar .byte ((((p_0).toUInt32 >>> ((8 : Int32).toUInt32 &&& Int32.toUInt32 31)).toInt32).toInt8.toInt32))) (11 : Int32).toNatClampNeg (vp_nar .byte ((p_0).toInt8.toInt32)), by rw [ht]; exact hP, va_K.moved hW.alike hK, by rw [hAe]; exact hD⟩, by rw [hAe]; exact hS.F ht⟩) (by rw [hAe]; exact hS.2.2) d_Tp_append_80
set_option maxHeartbeats 4000000 in
set_option maxRecDepth 100000 in
theorem c_Tp_append_c8 (l : Launch) (dC : Nat → ClassId) (dI : Nat → Nat → Nat) (h_0 h_1 : Nat) (kk_1 : ClassId) (gg_1 : Nat → Int32) (sz : Nat) (p_0 : Int32)  : Met l y_Tp_append (.code y_Tp_append b_Tp_append 2 none :: TB) ({ frames := 0, cells := 0, slots := 0, locals := 0 }) (va_Pc [.ref h_0, .int p_0] (PC dC dI [(h_0, .inr (4, [.ref h_1, .int 12, .int 0, .int 0, .int 0, .int 0])), (h_1, .inl (kk_1, 400, .inl gg_1))] [(kk_1, .byte)] sz)) (va_Qv (fun (_ : Unit) => True) (fun (_ : Unit) t => ∃ (g_1 : Nat → Int32) , va_P (dC, dI) vwCl [(h_0, .inr (4, [.ref h_1, .int 16, .int 0, .int 0, .int 0, .int 0])), (h_1, .inl (kk_1, 400, .inl g_1))] t.heap ∧ va_K (dC, dI) vwCl [(kk_1, .byte)] t ∧ va_D (va_A [(h_0, .inr (4, [.ref h_1, .int 12, .int 0, .int 0, .int 0, .int 0])), (h_1, .inl (kk_1, 400, .inl gg_1))] sz) [(h_0, .inr (4, [.ref h_1, .int 16, .int 0, .int 0, .int 0, .int 0])), (h_1, .inl (kk_1, 400, .inl g_1))]) (va_A [(h_0, .inr (4, [.ref h_1, .int 12, .int 0, .int 0, .int 0, .int 0])), (h_1, .inl (kk_1, 400, .inl gg_1))] sz)) 0 0 (va_A [(h_0, .inr (4, [.ref h_1, .int 12, .int 0, .int 0, .int 0, .int 0])), (h_1, .inl (kk_1, 400, .inl gg_1))] sz) := by
  refine Met.ofW (cc := b_Tp_append) (maxL := 2) (ret := none) (by decide) rfl ?_
  intro p e s m args below meth c s₁ B hml hv
  obtain ⟨rfl, hsz, hP, hK, hD0, hN⟩ := hv
  have hx := B.exec
  have hb := B.bytes
  have hr := B.returns
  have hts := atoms_spec (ws := (.code y_Tp_append b_Tp_append 2 none :: TB)) B.pre
  have htb := fun w (h : w ∈ TB) => hts w (List.mem_cons_of_mem _ h)
  have hown : s.vm.findClass R_Tp = some m.cls := findClass_of_methodNamed B.named
  have hlocks := B.notSynchronized
  have hl := lv_entry ([.ref h_0, .int p_0]) (n := 2) (Nat.le_of_ble_eq_true rfl)
  rw [lg_entry_eq]
  generalize (lg_sl ([.ref h_0, .int p_0]) ++ List.replicate (2 - (lg_sl ([.ref h_0, .int p_0])).length) Slot.unset).toArray = ls at hl ⊢
  have hl : lv_has ls 2 [(0, .ref h_0), (1, .int p_0)] := hl
  subst hsz
  have hD := hD0.self (sz := s.heap.size)
  obtain ⟨A, hAe⟩ : ∃ A, va_A [(h_0, .inr (4, [.ref h_1, .int 12, .int 0, .int 0, .int 0, .int 0])), (h_1, .inl (kk_1, 400, .inl gg_1))] s.heap.size = A := ⟨_, rfl⟩
  rw [hAe] at hD
  have hA : ∀ q : Nat, s.heap.size ≤ q → A q := fun q h => by rw [← hAe]; exact Or.inr h
  have hS : va_S A s.heap s.heap [] := va_S.rf
  have hP := hP
  refine lv_aload_n hx hb d_Tp_append_0 rfl (lv_at hl 0 rfl) ?_
  refine va_get (D := (dC, dI)) (ci := 4) (v := .int 12) (C := R_Tp) (T := F_Tp) (N := 6) hx hb htb i_Tp hown hK hP 0 rfl rfl 1 (by decide) (htb (.fieldLink R_Tp 15 "WaterMen$Tape" "length" "I") tw_190) (fun _ h9 => h9) rfl d_Tp_append_1 ?_
  refine lv_sipush (v := 396) hx hb d_Tp_append_4 (by decide +kernel) ?_
  refine lv_icmp_le (tgt := 11) hx hb d_Tp_append_7 (by decide) (fun _ => ?_) (fun h => absurd (by decide +kernel) h)
  refine lv_aload_n hx hb d_Tp_append_11 rfl (lv_at hl 0 rfl) ?_
  refine va_get (D := (dC, dI)) (ci := 4) (v := .ref h_1) (C := R_Tp) (T := F_Tp) (N := 6) hx hb htb i_Tp hown hK hP 0 rfl rfl 0 (by decide) (htb (.fieldLink R_Tp 9 "WaterMen$Tape" "bytes" "[B") tw_81) (fun _ h9 => h9) rfl d_Tp_append_12 ?_
  refine lv_aload_n hx hb d_Tp_append_15 rfl (lv_at hl 0 rfl) ?_
  refine va_get (D := (dC, dI)) (ci := 4) (v := .int 12) (C := R_Tp) (T := F_Tp) (N := 6) hx hb htb i_Tp hown hK hP 0 rfl rfl 1 (by decide) (htb (.fieldLink R_Tp 15 "WaterMen$Tape" "length" "I") tw_190) (fun _ h9 => h9) rfl d_Tp_append_16 ?_
  refine lv_iload_n hx hb d_Tp_append_19 rfl (lv_at hl 1 rfl) ?_
  refine lv_bipush (v := 24) hx hb d_Tp_append_20 (by decide +kernel) ?_
  refine lv_iushr hx hb d_Tp_append_22 rfl ?_
  refine lv_i2b hx hb d_Tp_append_23 rfl ?_
  refine va_bast hx hb hK hP hD hS 1 0 rfl rfl (by unfold vp_in; decide +kernel) d_Tp_append_24 (fun H locs hP hD hS => ?_)
  have hP : va_P (dC, dI) vwCl [(h_0, .inr (4, [.ref h_1, .int 12, .int 0, .int 0, .int 0, .int 0])), (h_1, .inl (kk_1, 400, .inl (upd gg_1 (12 : Int32).toNatClampNeg (vp_nar .byte ((((p_0).toUInt32 >>> ((24 : Int32).toUInt32 &&& Int32.toUInt32 31)).toInt32).toInt8.toInt32)))))] H := hP
  have hD : va_D A [(h_0, .inr (4, [.ref h_1, .int 12, .int 0, .int 0, .int 0, .int 0])), (h_1, .inl (kk_1, 400, .inl (upd gg_1 (12 : Int32).toNatClampNeg (vp_nar .byte ((((p_0).toUInt32 >>> ((24 : Int32).toUInt32 &&& Int32.toUInt32 31)).toInt32).toInt8.toInt32)))))] := hD
  refine lv_aload_n hx hb d_Tp_append_25 rfl (lv_at hl 0 rfl) ?_
  refine va_get (D := (dC, dI)) (ci := 4) (v := .ref h_1) (C := R_Tp) (T := F_Tp) (N := 6) hx hb htb i_Tp hown hK hP 0 rfl rfl 0 (by decide) (htb (.fieldLink R_Tp 9 "WaterMen$Tape" "bytes" "[B") tw_81) (fun _ h9 => h9) rfl d_Tp_append_26 ?_
  refine lv_aload_n hx hb d_Tp_append_29 rfl (lv_at hl 0 rfl) ?_
  refine va_get (D := (dC, dI)) (ci := 4) (v := .int 12) (C := R_Tp) (T := F_Tp) (N := 6) hx hb htb i_Tp hown hK hP 0 rfl rfl 1 (by decide) (htb (.fieldLink R_Tp 15 "WaterMen$Tape" "length" "I") tw_190) (fun _ h9 => h9) rfl d_Tp_append_30 ?_
  refine lv_iconst (v := 1) hx hb d_Tp_append_33 (by decide +kernel) ?_
  refine lv_iadd hx hb d_Tp_append_34 ?_
  refine hb_ti 13 (by decide +kernel) ?_
  refine lv_iload_n hx hb d_Tp_append_35 rfl (lv_at hl 1 rfl) ?_
  refine lv_bipush (v := 16) hx hb d_Tp_append_36 (by decide +kernel) ?_
  refine lv_iushr hx hb d_Tp_append_38 rfl ?_
  refine lv_i2b hx hb d_Tp_append_39 rfl ?_
  refine va_bast hx hb hK hP hD hS 1 0 rfl rfl (by unfold vp_in; decide +kernel) d_Tp_append_40 (fun H locs hP hD hS => ?_)
  have hP : va_P (dC, dI) vwCl [(h_0, .inr (4, [.ref h_1, .int 12, .int 0, .int 0, .int 0, .int 0])), (h_1, .inl (kk_1, 400, .inl (upd (upd gg_1 (12 : Int32).toNatClampNeg (vp_nar .byte ((((p_0).toUInt32 >>> ((24 : Int32).toUInt32 &&& Int32.toUInt32 31)).toInt32).toInt8.toInt32))) (13 : Int32).toNatClampNeg (vp_nar .byte ((((p_0).toUInt32 >>> ((16 : Int32).toUInt32 &&& Int32.toUInt32 31)).toInt32).toInt8.toInt32)))))] H := hP
  have hD : va_D A [(h_0, .inr (4, [.ref h_1, .int 12, .int 0, .int 0, .int 0, .int 0])), (h_1, .inl (kk_1, 400, .inl (upd (upd gg_1 (12 : Int32).toNatClampNeg (vp_nar .byte ((((p_0).toUInt32 >>> ((24 : Int32).toUInt32 &&& Int32.toUInt32 31)).toInt32).toInt8.toInt32))) (13 : Int32).toNatClampNeg (vp_nar .byte ((((p_0).toUInt32 >>> ((16 : Int32).toUInt32 &&& Int32.toUInt32 31)).toInt32).toInt8.toInt32)))))] := hD
  refine lv_aload_n hx hb d_Tp_append_41 rfl (lv_at hl 0 rfl) ?_
  refine va_get (D := (dC, dI)) (ci := 4) (v := .ref h_1) (C := R_Tp) (T := F_Tp) (N := 6) hx hb htb i_Tp hown hK hP 0 rfl rfl 0 (by decide) (htb (.fieldLink R_Tp 9 "WaterMen$Tape" "bytes" "[B") tw_81) (fun _ h9 => h9) rfl d_Tp_append_42 ?_
  refine lv_aload_n hx hb d_Tp_append_45 rfl (lv_at hl 0 rfl) ?_
  refine va_get (D := (dC, dI)) (ci := 4) (v := .int 12) (C := R_Tp) (T := F_Tp) (N := 6) hx hb htb i_Tp hown hK hP 0 rfl rfl 1 (by decide) (htb (.fieldLink R_Tp 15 "WaterMen$Tape" "length" "I") tw_190) (fun _ h9 => h9) rfl d_Tp_append_46 ?_
  refine lv_iconst (v := 2) hx hb d_Tp_append_49 (by decide +kernel) ?_
  refine lv_iadd hx hb d_Tp_append_50 ?_
  refine hb_ti 14 (by decide +kernel) ?_
  refine lv_iload_n hx hb d_Tp_append_51 rfl (lv_at hl 1 rfl) ?_
  refine lv_bipush (v := 8) hx hb d_Tp_append_52 (by decide +kernel) ?_
  refine lv_iushr hx hb d_Tp_append_54 rfl ?_
  refine lv_i2b hx hb d_Tp_append_55 rfl ?_
  refine va_bast hx hb hK hP hD hS 1 0 rfl rfl (by unfold vp_in; decide +kernel) d_Tp_append_56 (fun H locs hP hD hS => ?_)
  have hP : va_P (dC, dI) vwCl [(h_0, .inr (4, [.ref h_1, .int 12, .int 0, .int 0, .int 0, .int 0])), (h_1, .inl (kk_1, 400, .inl (upd (upd (upd gg_1 (12 : Int32).toNatClampNeg (vp_nar .byte ((((p_0).toUInt32 >>> ((24 : Int32).toUInt32 &&& Int32.toUInt32 31)).toInt32).toInt8.toInt32))) (13 : Int32).toNatClampNeg (vp_nar .byte ((((p_0).toUInt32 >>> ((16 : Int32).toUInt32 &&& Int32.toUInt32 31)).toInt32).toInt8.toInt32))) (14 : Int32).toNatClampNeg (vp_nar .byte ((((p_0).toUInt32 >>> ((8 : Int32).toUInt32 &&& Int32.toUInt32 31)).toInt32).toInt8.toInt32)))))] H := hP
  have hD : va_D A [(h_0, .inr (4, [.ref h_1, .int 12, .int 0, .int 0, .int 0, .int 0])), (h_1, .inl (kk_1, 400, .inl (upd (upd (upd gg_1 (12 : Int32).toNatClampNeg (vp_nar .byte ((((p_0).toUInt32 >>> ((24 : Int32).toUInt32 &&& Int32.toUInt32 31)).toInt32).toInt8.toInt32))) (13 : Int32).toNatClampNeg (vp_nar .byte ((((p_0).toUInt32 >>> ((16 : Int32).toUInt32 &&& Int32.toUInt32 31)).toInt32).toInt8.toInt32))) (14 : Int32).toNatClampNeg (vp_nar .byte ((((p_0).toUInt32 >>> ((8 : Int32).toUInt32 &&& Int32.toUInt32 31)).toInt32).toInt8.toInt32)))))] := hD
  refine lv_aload_n hx hb d_Tp_append_57 rfl (lv_at hl 0 rfl) ?_
  refine va_get (D := (dC, dI)) (ci := 4) (v := .ref h_1) (C := R_Tp) (T := F_Tp) (N := 6) hx hb htb i_Tp hown hK hP 0 rfl rfl 0 (by decide) (htb (.fieldLink R_Tp 9 "WaterMen$Tape" "bytes" "[B") tw_81) (fun _ h9 => h9) rfl d_Tp_append_58 ?_
  refine lv_aload_n hx hb d_Tp_append_61 rfl (lv_at hl 0 rfl) ?_
  refine va_get (D := (dC, dI)) (ci := 4) (v := .int 12) (C := R_Tp) (T := F_Tp) (N := 6) hx hb htb i_Tp hown hK hP 0 rfl rfl 1 (by decide) (htb (.fieldLink R_Tp 15 "WaterMen$Tape" "length" "I") tw_190) (fun _ h9 => h9) rfl d_Tp_append_62 ?_
  refine lv_iconst (v := 3) hx hb d_Tp_append_65 (by decide +kernel) ?_
  refine lv_iadd hx hb d_Tp_append_66 ?_
  refine hb_ti 15 (by decide +kernel) ?_
  refine lv_iload_n hx hb d_Tp_append_67 rfl (lv_at hl 1 rfl) ?_
  refine lv_i2b hx hb d_Tp_append_68 rfl ?_
  refine va_bast hx hb hK hP hD hS 1 0 rfl rfl (by unfold vp_in; decide +kernel) d_Tp_append_69 (fun H locs hP hD hS => ?_)
  have hP : va_P (dC, dI) vwCl [(h_0, .inr (4, [.ref h_1, .int 12, .int 0, .int 0, .int 0, .int 0])), (h_1, .inl (kk_1, 400, .inl (upd (upd (upd (upd gg_1 (12 : Int32).toNatClampNeg (vp_nar .byte ((((p_0).toUInt32 >>> ((24 : Int32).toUInt32 &&& Int32.toUInt32 31)).toInt32).toInt8.toInt32))) (13 : Int32).toNatClampNeg (vp_nar .byte ((((p_0).toUInt32 >>> ((16 : Int32).toUInt32 &&& Int32.toUInt32 31)).toInt32).toInt8.toInt32))) (14 : Int32).toNatClampNeg (vp_nar .byte ((((p_0).toUInt32 >>> ((8 : Int32).toUInt32 &&& Int32.toUInt32 31)).toInt32).toInt8.toInt32))) (15 : Int32).toNatClampNeg (vp_nar .byte ((p_0).toInt8.toInt32)))))] H := hP
  have hD : va_D A [(h_0, .inr (4, [.ref h_1, .int 12, .int 0, .int 0, .int 0, .int 0])), (h_1, .inl (kk_1, 400, .inl (upd (upd (upd (upd gg_1 (12 : Int32).toNatClampNeg (vp_nar .byte ((((p_0).toUInt32 >>> ((24 : Int32).toUInt32 &&& Int32.toUInt32 31)).toInt32).toInt8.toInt32))) (13 : Int32).toNatClampNeg (vp_nar .byte ((((p_0).toUInt32 >>> ((16 : Int32).toUInt32 &&& Int32.toUInt32 31)).toInt32).toInt8.toInt32))) (14 : Int32).toNatClampNeg (vp_nar .byte ((((p_0).toUInt32 >>> ((8 : Int32).toUInt32 &&& Int32.toUInt32 31)).toInt32).toInt8.toInt32))) (15 : Int32).toNatClampNeg (vp_nar .byte ((p_0).toInt8.toInt32)))))] := hD
  refine lv_aload_n hx hb d_Tp_append_70 rfl (lv_at hl 0 rfl) ?_
  refine lv_dup hx hb d_Tp_append_71 rfl ?_
  refine va_get (D := (dC, dI)) (ci := 4) (v := .int 12) (C := R_Tp) (T := F_Tp) (N := 6) hx hb htb i_Tp hown hK hP 0 rfl rfl 1 (by decide) (htb (.fieldLink R_Tp 15 "WaterMen$Tape" "length" "I") tw_190) (fun _ h9 => h9) rfl d_Tp_append_72 ?_
  refine lv_iconst (v := 4) hx hb d_Tp_append_75 (by decide +kernel) ?_
  refine lv_iadd hx hb d_Tp_append_76 ?_
  refine hb_ti 16 (by decide +kernel) ?_
  refine va_put (D := (dC, dI)) (ci := 4) (v := .int 16) (ty := .int) (C := R_Tp) (T := F_Tp) (N := 6) hx hb htb i_Tp t_Tp t_Tp_ok n_Tp hown hK hP hD hS 0 rfl rfl 1 (by decide) (htb (.fieldLink R_Tp 15 "WaterMen$Tape" "length" "I") tw_190) (fun _ h9 => h9) rfl (by decide +kernel) rfl rfl (Nat.le_of_ble_eq_true rfl) d_Tp_append_77 (fun H locs hP hD hS => ?_)
  have hP : va_P (dC, dI) vwCl [(h_0, .inr (4, [.ref h_1, .int 16, .int 0, .int 0, .int 0, .int 0])), (h_1, .inl (kk_1, 400, .inl (upd (upd (upd (upd gg_1 (12 : Int32).toNatClampNeg (vp_nar .byte ((((p_0).toUInt32 >>> ((24 : Int32).toUInt32 &&& Int32.toUInt32 31)).toInt32).toInt8.toInt32))) (13 : Int32).toNatClampNeg (vp_nar .byte ((((p_0).toUInt32 >>> ((16 : Int32).toUInt32 &&& Int32.toUInt32 31)).toInt32).toInt8.toInt32))) (14 : Int32).toNatClampNeg (vp_nar .byte ((((p_0).toUInt32 >>> ((8 : Int32).toUInt32 &&& Int32.toUInt32 31)).toInt32).toInt8.toInt32))) (15 : Int32).toNatClampNeg (vp_nar .byte ((p_0).toInt8.toInt32)))))] H := hP
  have hD : va_D A [(h_0, .inr (4, [.ref h_1, .int 16, .int 0, .int 0, .int 0, .int 0])), (h_1, .inl (kk_1, 400, .inl (upd (upd (upd (upd gg_1 (12 : Int32).toNatClampNeg (vp_nar .byte ((((p_0).toUInt32 >>> ((24 : Int32).toUInt32 &&& Int32.toUInt32 31)).toInt32).toInt8.toInt32))) (13 : Int32).toNatClampNeg (vp_nar .byte ((((p_0).toUInt32 >>> ((16 : Int32).toUInt32 &&& Int32.toUInt32 31)).toInt32).toInt8.toInt32))) (14 : Int32).toNatClampNeg (vp_nar .byte ((((p_0).toUInt32 >>> ((8 : Int32).toUInt32 &&& Int32.toUInt32 31)).toInt32).toInt8.toInt32))) (15 : Int32).toNatClampNeg (vp_nar .byte ((p_0).toInt8.toInt32)))))] := hD
  refine W.widen (k := 0) (n := 0) (Nat.le_of_ble_eq_true rfl) (Nat.le_of_ble_eq_true rfl) ?_
  exact W.vret hx hb hr (fun t ht hW => ⟨⟨(), rfl, trivial, upd (upd (upd (upd gg_1 (12 : Int32).toNatClampNeg (vp_nar .byte ((((p_0).toUInt32 >>> ((24 : Int32).toUInt32 &&& Int32.toUInt32 31)).toInt32).toInt8.toInt32))) (13 : Int32).toNatClampNeg (vp_nar .byte ((((p_0).toUInt32 >>> ((16 : Int32).toUInt32 &&& Int32.toUInt32 31)).toInt32).toInt8.toInt32))) (14 : Int32).toNatClampNeg (vp_nar .byte ((((p_0).toUInt32 >>> ((8 : Int32).toUInt32 &&& Int32.toUInt32 31)).toInt32).toInt8.toInt32))) (15 : Int32).toNatClampNeg (vp_nar .byte ((p_0).toInt8.toInt32)), by rw [ht]; exact hP, va_K.moved hW.alike hK, by rw [hAe]; exact hD⟩, by rw [hAe]; exact hS.F ht⟩) (by rw [hAe]; exact hS.2.2) d_Tp_append_80
set_option maxHeartbeats 4000000 in
set_option maxRecDepth 100000 in
theorem c_Tp_append_c9 (l : Launch) (dC : Nat → ClassId) (dI : Nat → Nat → Nat) (h_0 h_1 : Nat) (kk_1 : ClassId) (gg_1 : Nat → Int32) (sz : Nat) (p_0 : Int32)  : Met l y_Tp_append (.code y_Tp_append b_Tp_append 2 none :: TB) ({ frames := 0, cells := 0, slots := 0, locals := 0 }) (va_Pc [.ref h_0, .int p_0] (PC dC dI [(h_0, .inr (4, [.ref h_1, .int 16, .int 0, .int 0, .int 0, .int 0])), (h_1, .inl (kk_1, 400, .inl gg_1))] [(kk_1, .byte)] sz)) (va_Qv (fun (_ : Unit) => True) (fun (_ : Unit) t => ∃ (g_1 : Nat → Int32) , va_P (dC, dI) vwCl [(h_0, .inr (4, [.ref h_1, .int 20, .int 0, .int 0, .int 0, .int 0])), (h_1, .inl (kk_1, 400, .inl g_1))] t.heap ∧ va_K (dC, dI) vwCl [(kk_1, .byte)] t ∧ va_D (va_A [(h_0, .inr (4, [.ref h_1, .int 16, .int 0, .int 0, .int 0, .int 0])), (h_1, .inl (kk_1, 400, .inl gg_1))] sz) [(h_0, .inr (4, [.ref h_1, .int 20, .int 0, .int 0, .int 0, .int 0])), (h_1, .inl (kk_1, 400, .inl g_1))]) (va_A [(h_0, .inr (4, [.ref h_1, .int 16, .int 0, .int 0, .int 0, .int 0])), (h_1, .inl (kk_1, 400, .inl gg_1))] sz)) 0 0 (va_A [(h_0, .inr (4, [.ref h_1, .int 16, .int 0, .int 0, .int 0, .int 0])), (h_1, .inl (kk_1, 400, .inl gg_1))] sz) := by
  refine Met.ofW (cc := b_Tp_append) (maxL := 2) (ret := none) (by decide) rfl ?_
  intro p e s m args below meth c s₁ B hml hv
  obtain ⟨rfl, hsz, hP, hK, hD0, hN⟩ := hv
  have hx := B.exec
  have hb := B.bytes
  have hr := B.returns
  have hts := atoms_spec (ws := (.code y_Tp_append b_Tp_append 2 none :: TB)) B.pre
  have htb := fun w (h : w ∈ TB) => hts w (List.mem_cons_of_mem _ h)
  have hown : s.vm.findClass R_Tp = some m.cls := findClass_of_methodNamed B.named
  have hlocks := B.notSynchronized
  have hl := lv_entry ([.ref h_0, .int p_0]) (n := 2) (Nat.le_of_ble_eq_true rfl)
  rw [lg_entry_eq]
  generalize (lg_sl ([.ref h_0, .int p_0]) ++ List.replicate (2 - (lg_sl ([.ref h_0, .int p_0])).length) Slot.unset).toArray = ls at hl ⊢
  have hl : lv_has ls 2 [(0, .ref h_0), (1, .int p_0)] := hl
  subst hsz
  have hD := hD0.self (sz := s.heap.size)
  obtain ⟨A, hAe⟩ : ∃ A, va_A [(h_0, .inr (4, [.ref h_1, .int 16, .int 0, .int 0, .int 0, .int 0])), (h_1, .inl (kk_1, 400, .inl gg_1))] s.heap.size = A := ⟨_, rfl⟩
  rw [hAe] at hD
  have hA : ∀ q : Nat, s.heap.size ≤ q → A q := fun q h => by rw [← hAe]; exact Or.inr h
  have hS : va_S A s.heap s.heap [] := va_S.rf
  have hP := hP
  refine lv_aload_n hx hb d_Tp_append_0 rfl (lv_at hl 0 rfl) ?_
  refine va_get (D := (dC, dI)) (ci := 4) (v := .int 16) (C := R_Tp) (T := F_Tp) (N := 6) hx hb htb i_Tp hown hK hP 0 rfl rfl 1 (by decide) (htb (.fieldLink R_Tp 15 "WaterMen$Tape" "length" "I") tw_190) (fun _ h9 => h9) rfl d_Tp_append_1 ?_
  refine lv_sipush (v := 396) hx hb d_Tp_append_4 (by decide +kernel) ?_
  refine lv_icmp_le (tgt := 11) hx hb d_Tp_append_7 (by decide) (fun _ => ?_) (fun h => absurd (by decide +kernel) h)
  refine lv_aload_n hx hb d_Tp_append_11 rfl (lv_at hl 0 rfl) ?_
  refine va_get (D := (dC, dI)) (ci := 4) (v := .ref h_1) (C := R_Tp) (T := F_Tp) (N := 6) hx hb htb i_Tp hown hK hP 0 rfl rfl 0 (by decide) (htb (.fieldLink R_Tp 9 "WaterMen$Tape" "bytes" "[B") tw_81) (fun _ h9 => h9) rfl d_Tp_append_12 ?_
  refine lv_aload_n hx hb d_Tp_append_15 rfl (lv_at hl 0 rfl) ?_
  refine va_get (D := (dC, dI)) (ci := 4) (v := .int 16) (C := R_Tp) (T := F_Tp) (N := 6) hx hb htb i_Tp hown hK hP 0 rfl rfl 1 (by decide) (htb (.fieldLink R_Tp 15 "WaterMen$Tape" "length" "I") tw_190) (fun _ h9 => h9) rfl d_Tp_append_16 ?_
  refine lv_iload_n hx hb d_Tp_append_19 rfl (lv_at hl 1 rfl) ?_
  refine lv_bipush (v := 24) hx hb d_Tp_append_20 (by decide +kernel) ?_
  refine lv_iushr hx hb d_Tp_append_22 rfl ?_
  refine lv_i2b hx hb d_Tp_append_23 rfl ?_
  refine va_bast hx hb hK hP hD hS 1 0 rfl rfl (by unfold vp_in; decide +kernel) d_Tp_append_24 (fun H locs hP hD hS => ?_)
  have hP : va_P (dC, dI) vwCl [(h_0, .inr (4, [.ref h_1, .int 16, .int 0, .int 0, .int 0, .int 0])), (h_1, .inl (kk_1, 400, .inl (upd gg_1 (16 : Int32).toNatClampNeg (vp_nar .byte ((((p_0).toUInt32 >>> ((24 : Int32).toUInt32 &&& Int32.toUInt32 31)).toInt32).toInt8.toInt32)))))] H := hP
  have hD : va_D A [(h_0, .inr (4, [.ref h_1, .int 16, .int 0, .int 0, .int 0, .int 0])), (h_1, .inl (kk_1, 400, .inl (upd gg_1 (16 : Int32).toNatClampNeg (vp_nar .byte ((((p_0).toUInt32 >>> ((24 : Int32).toUInt32 &&& Int32.toUInt32 31)).toInt32).toInt8.toInt32)))))] := hD
  refine lv_aload_n hx hb d_Tp_append_25 rfl (lv_at hl 0 rfl) ?_
  refine va_get (D := (dC, dI)) (ci := 4) (v := .ref h_1) (C := R_Tp) (T := F_Tp) (N := 6) hx hb htb i_Tp hown hK hP 0 rfl rfl 0 (by decide) (htb (.fieldLink R_Tp 9 "WaterMen$Tape" "bytes" "[B") tw_81) (fun _ h9 => h9) rfl d_Tp_append_26 ?_
  refine lv_aload_n hx hb d_Tp_append_29 rfl (lv_at hl 0 rfl) ?_
  refine va_get (D := (dC, dI)) (ci := 4) (v := .int 16) (C := R_Tp) (T := F_Tp) (N := 6) hx hb htb i_Tp hown hK hP 0 rfl rfl 1 (by decide) (htb (.fieldLink R_Tp 15 "WaterMen$Tape" "length" "I") tw_190) (fun _ h9 => h9) rfl d_Tp_append_30 ?_
  refine lv_iconst (v := 1) hx hb d_Tp_append_33 (by decide +kernel) ?_
  refine lv_iadd hx hb d_Tp_append_34 ?_
  refine hb_ti 17 (by decide +kernel) ?_
  refine lv_iload_n hx hb d_Tp_append_35 rfl (lv_at hl 1 rfl) ?_
  refine lv_bipush (v := 16) hx hb d_Tp_append_36 (by decide +kernel) ?_
  refine lv_iushr hx hb d_Tp_append_38 rfl ?_
  refine lv_i2b hx hb d_Tp_append_39 rfl ?_
  refine va_bast hx hb hK hP hD hS 1 0 rfl rfl (by unfold vp_in; decide +kernel) d_Tp_append_40 (fun H locs hP hD hS => ?_)
  have hP : va_P (dC, dI) vwCl [(h_0, .inr (4, [.ref h_1, .int 16, .int 0, .int 0, .int 0, .int 0])), (h_1, .inl (kk_1, 400, .inl (upd (upd gg_1 (16 : Int32).toNatClampNeg (vp_nar .byte ((((p_0).toUInt32 >>> ((24 : Int32).toUInt32 &&& Int32.toUInt32 31)).toInt32).toInt8.toInt32))) (17 : Int32).toNatClampNeg (vp_nar .byte ((((p_0).toUInt32 >>> ((16 : Int32).toUInt32 &&& Int32.toUInt32 31)).toInt32).toInt8.toInt32)))))] H := hP
  have hD : va_D A [(h_0, .inr (4, [.ref h_1, .int 16, .int 0, .int 0, .int 0, .int 0])), (h_1, .inl (kk_1, 400, .inl (upd (upd gg_1 (16 : Int32).toNatClampNeg (vp_nar .byte ((((p_0).toUInt32 >>> ((24 : Int32).toUInt32 &&& Int32.toUInt32 31)).toInt32).toInt8.toInt32))) (17 : Int32).toNatClampNeg (vp_nar .byte ((((p_0).toUInt32 >>> ((16 : Int32).toUInt32 &&& Int32.toUInt32 31)).toInt32).toInt8.toInt32)))))] := hD
  refine lv_aload_n hx hb d_Tp_append_41 rfl (lv_at hl 0 rfl) ?_
  refine va_get (D := (dC, dI)) (ci := 4) (v := .ref h_1) (C := R_Tp) (T := F_Tp) (N := 6) hx hb htb i_Tp hown hK hP 0 rfl rfl 0 (by decide) (htb (.fieldLink R_Tp 9 "WaterMen$Tape" "bytes" "[B") tw_81) (fun _ h9 => h9) rfl d_Tp_append_42 ?_
  refine lv_aload_n hx hb d_Tp_append_45 rfl (lv_at hl 0 rfl) ?_
  refine va_get (D := (dC, dI)) (ci := 4) (v := .int 16) (C := R_Tp) (T := F_Tp) (N := 6) hx hb htb i_Tp hown hK hP 0 rfl rfl 1 (by decide) (htb (.fieldLink R_Tp 15 "WaterMen$Tape" "length" "I") tw_190) (fun _ h9 => h9) rfl d_Tp_append_46 ?_
  refine lv_iconst (v := 2) hx hb d_Tp_append_49 (by decide +kernel) ?_
  refine lv_iadd hx hb d_Tp_append_50 ?_
  refine hb_ti 18 (by decide +kernel) ?_
  refine lv_iload_n hx hb d_Tp_append_51 rfl (lv_at hl 1 rfl) ?_
  refine lv_bipush (v := 8) hx hb d_Tp_append_52 (by decide +kernel) ?_
  refine lv_iushr hx hb d_Tp_append_54 rfl ?_
  refine lv_i2b hx hb d_Tp_append_55 rfl ?_
  refine va_bast hx hb hK hP hD hS 1 0 rfl rfl (by unfold vp_in; decide +kernel) d_Tp_append_56 (fun H locs hP hD hS => ?_)
  have hP : va_P (dC, dI) vwCl [(h_0, .inr (4, [.ref h_1, .int 16, .int 0, .int 0, .int 0, .int 0])), (h_1, .inl (kk_1, 400, .inl (upd (upd (upd gg_1 (16 : Int32).toNatClampNeg (vp_nar .byte ((((p_0).toUInt32 >>> ((24 : Int32).toUInt32 &&& Int32.toUInt32 31)).toInt32).toInt8.toInt32))) (17 : Int32).toNatClampNeg (vp_nar .byte ((((p_0).toUInt32 >>> ((16 : Int32).toUInt32 &&& Int32.toUInt32 31)).toInt32).toInt8.toInt32))) (18 : Int32).toNatClampNeg (vp_nar .byte ((((p_0).toUInt32 >>> ((8 : Int32).toUInt32 &&& Int32.toUInt32 31)).toInt32).toInt8.toInt32)))))] H := hP
  have hD : va_D A [(h_0, .inr (4, [.ref h_1, .int 16, .int 0, .int 0, .int 0, .int 0])), (h_1, .inl (kk_1, 400, .inl (upd (upd (upd gg_1 (16 : Int32).toNatClampNeg (vp_nar .byte ((((p_0).toUInt32 >>> ((24 : Int32).toUInt32 &&& Int32.toUInt32 31)).toInt32).toInt8.toInt32))) (17 : Int32).toNatClampNeg (vp_nar .byte ((((p_0).toUInt32 >>> ((16 : Int32).toUInt32 &&& Int32.toUInt32 31)).toInt32).toInt8.toInt32))) (18 : Int32).toNatClampNeg (vp_nar .byte ((((p_0).toUInt32 >>> ((8 : Int32).toUInt32 &&& Int32.toUInt32 31)).toInt32).toInt8.toInt32)))))] := hD
  refine lv_aload_n hx hb d_Tp_append_57 rfl (lv_at hl 0 rfl) ?_
  refine va_get (D := (dC, dI)) (ci := 4) (v := .ref h_1) (C := R_Tp) (T := F_Tp) (N := 6) hx hb htb i_Tp hown hK hP 0 rfl rfl 0 (by decide) (htb (.fieldLink R_Tp 9 "WaterMen$Tape" "bytes" "[B") tw_81) (fun _ h9 => h9) rfl d_Tp_append_58 ?_
  refine lv_aload_n hx hb d_Tp_append_61 rfl (lv_at hl 0 rfl) ?_
  refine va_get (D := (dC, dI)) (ci := 4) (v := .int 16) (C := R_Tp) (T := F_Tp) (N := 6) hx hb htb i_Tp hown hK hP 0 rfl rfl 1 (by decide) (htb (.fieldLink R_Tp 15 "WaterMen$Tape" "length" "I") tw_190) (fun _ h9 => h9) rfl d_Tp_append_62 ?_
  refine lv_iconst (v := 3) hx hb d_Tp_append_65 (by decide +kernel) ?_
  refine lv_iadd hx hb d_Tp_append_66 ?_
  refine hb_ti 19 (by decide +kernel) ?_
  refine lv_iload_n hx hb d_Tp_append_67 rfl (lv_at hl 1 rfl) ?_
  refine lv_i2b hx hb d_Tp_append_68 rfl ?_
  refine va_bast hx hb hK hP hD hS 1 0 rfl rfl (by unfold vp_in; decide +kernel) d_Tp_append_69 (fun H locs hP hD hS => ?_)
  have hP : va_P (dC, dI) vwCl [(h_0, .inr (4, [.ref h_1, .int 16, .int 0, .int 0, .int 0, .int 0])), (h_1, .inl (kk_1, 400, .inl (upd (upd (upd (upd gg_1 (16 : Int32).toNatClampNeg (vp_nar .byte ((((p_0).toUInt32 >>> ((24 : Int32).toUInt32 &&& Int32.toUInt32 31)).toInt32).toInt8.toInt32))) (17 : Int32).toNatClampNeg (vp_nar .byte ((((p_0).toUInt32 >>> ((16 : Int32).toUInt32 &&& Int32.toUInt32 31)).toInt32).toInt8.toInt32))) (18 : Int32).toNatClampNeg (vp_nar .byte ((((p_0).toUInt32 >>> ((8 : Int32).toUInt32 &&& Int32.toUInt32 31)).toInt32).toInt8.toInt32))) (19 : Int32).toNatClampNeg (vp_nar .byte ((p_0).toInt8.toInt32)))))] H := hP
  have hD : va_D A [(h_0, .inr (4, [.ref h_1, .int 16, .int 0, .int 0, .int 0, .int 0])), (h_1, .inl (kk_1, 400, .inl (upd (upd (upd (upd gg_1 (16 : Int32).toNatClampNeg (vp_nar .byte ((((p_0).toUInt32 >>> ((24 : Int32).toUInt32 &&& Int32.toUInt32 31)).toInt32).toInt8.toInt32))) (17 : Int32).toNatClampNeg (vp_nar .byte ((((p_0).toUInt32 >>> ((16 : Int32).toUInt32 &&& Int32.toUInt32 31)).toInt32).toInt8.toInt32))) (18 : Int32).toNatClampNeg (vp_nar .byte ((((p_0).toUInt32 >>> ((8 : Int32).toUInt32 &&& Int32.toUInt32 31)).toInt32).toInt8.toInt32))) (19 : Int32).toNatClampNeg (vp_nar .byte ((p_0).toInt8.toInt32)))))] := hD
  refine lv_aload_n hx hb d_Tp_append_70 rfl (lv_at hl 0 rfl) ?_
  refine lv_dup hx hb d_Tp_append_71 rfl ?_
  refine va_get (D := (dC, dI)) (ci := 4) (v := .int 16) (C := R_Tp) (T := F_Tp) (N := 6) hx hb htb i_Tp hown hK hP 0 rfl rfl 1 (by decide) (htb (.fieldLink R_Tp 15 "WaterMen$Tape" "length" "I") tw_190) (fun _ h9 => h9) rfl d_Tp_append_72 ?_
  refine lv_iconst (v := 4) hx hb d_Tp_append_75 (by decide +kernel) ?_
  refine lv_iadd hx hb d_Tp_append_76 ?_
  refine hb_ti 20 (by decide +kernel) ?_
  refine va_put (D := (dC, dI)) (ci := 4) (v := .int 20) (ty := .int) (C := R_Tp) (T := F_Tp) (N := 6) hx hb htb i_Tp t_Tp t_Tp_ok n_Tp hown hK hP hD hS 0 rfl rfl 1 (by decide) (htb (.fieldLink R_Tp 15 "WaterMen$Tape" "length" "I") tw_190) (fun _ h9 => h9) rfl (by decide +kernel) rfl rfl (Nat.le_of_ble_eq_true rfl) d_Tp_append_77 (fun H locs hP hD hS => ?_)
  have hP : va_P (dC, dI) vwCl [(h_0, .inr (4, [.ref h_1, .int 20, .int 0, .int 0, .int 0, .int 0])), (h_1, .inl (kk_1, 400, .inl (upd (upd (upd (upd gg_1 (16 : Int32).toNatClampNeg (vp_nar .byte ((((p_0).toUInt32 >>> ((24 : Int32).toUInt32 &&& Int32.toUInt32 31)).toInt32).toInt8.toInt32))) (17 : Int32).toNatClampNeg (vp_nar .byte ((((p_0).toUInt32 >>> ((16 : Int32).toUInt32 &&& Int32.toUInt32 31)).toInt32).toInt8.toInt32))) (18 : Int32).toNatClampNeg (vp_nar .byte ((((p_0).toUInt32 >>> ((8 : Int32).toUInt32 &&& Int32.toUInt32 31)).toInt32).toInt8.toInt32))) (19 : Int32).toNatClampNeg (vp_nar .byte ((p_0).toInt8.toInt32)))))] H := hP
  have hD : va_D A [(h_0, .inr (4, [.ref h_1, .int 20, .int 0, .int 0, .int 0, .int 0])), (h_1, .inl (kk_1, 400, .inl (upd (upd (upd (upd gg_1 (16 : Int32).toNatClampNeg (vp_nar .byte ((((p_0).toUInt32 >>> ((24 : Int32).toUInt32 &&& Int32.toUInt32 31)).toInt32).toInt8.toInt32))) (17 : Int32).toNatClampNeg (vp_nar .byte ((((p_0).toUInt32 >>> ((16 : Int32).toUInt32 &&& Int32.toUInt32 31)).toInt32).toInt8.toInt32))) (18 : Int32).toNatClampNeg (vp_nar .byte ((((p_0).toUInt32 >>> ((8 : Int32).toUInt32 &&& Int32.toUInt32 31)).toInt32).toInt8.toInt32))) (19 : Int32).toNatClampNeg (vp_nar .byte ((p_0).toInt8.toInt32)))))] := hD
  refine W.widen (k := 0) (n := 0) (Nat.le_of_ble_eq_true rfl) (Nat.le_of_ble_eq_true rfl) ?_
  exact W.vret hx hb hr (fun t ht hW => ⟨⟨(), rfl, trivial, upd (upd (upd (upd gg_1 (16 : Int32).toNatClampNeg (vp_nar .byte ((((p_0).toUInt32 >>> ((24 : Int32).toUInt32 &&& Int32.toUInt32 31)).toInt32).toInt8.toInt32))) (17 : Int32).toNatClampNeg (vp_nar .byte ((((p_0).toUInt32 >>> ((16 : Int32).toUInt32 &&& Int32.toUInt32 31)).toInt32).toInt8.toInt32))) (18 : Int32).toNatClampNeg (vp_nar .byte ((((p_0).toUInt32 >>> ((8 : Int32).toUInt32 &&& Int32.toUInt32 31)).toInt32).toInt8.toInt32))) (19 : Int32).toNatClampNeg (vp_nar .byte ((p_0).toInt8.toInt32)), by rw [ht]; exact hP, va_K.moved hW.alike hK, by rw [hAe]; exact hD⟩, by rw [hAe]; exact hS.F ht⟩) (by rw [hAe]; exact hS.2.2) d_Tp_append_80
