def f_Md_pension (p_0 : Int32) (p_1 : Int32) : Int32 := if p_0 < 1 then ((-1)) else (if 10000 < p_0 then ((-1)) else (if p_1 < 0 then ((-1)) else (if 9999 < p_1 then ((-1)) else (0))))
set_option maxHeartbeats 4000000 in
set_option maxRecDepth 100000 in
theorem c_Md_pension (l : Launch) (dC : Nat → ClassId) (dI : Nat → Nat → Nat) (a : Nat → Nat) (k : Nat → ClassId) (sz : Nat) (p_0 : Int32) (p_1 : Int32)  : Met l y_Md_pension (.code y_Md_pension b_Md_pension 3 (some .int) :: TB) ({ frames := 2, cells := 0, slots := 0, locals := 43 }) (va_Pc [.ref (a 0), .int p_0, .int p_1] (PC dC dI (MW a k) (MT k) sz)) (va_Qi (fun r (_ : Unit) => r = f_Md_pension p_0 p_1) (fun (_ : Unit) (_ : State) => True) (va_A (MW a k) sz)) 0 0 (va_A (MW a k) sz) := by
  refine Met.ofW (cc := b_Md_pension) (maxL := 3) (ret := (some .int)) (by decide) rfl ?_
  intro p e s m args below meth c s₁ B hml hv
  obtain ⟨rfl, hsz, hP, hK, hD0, hN⟩ := hv
  have hx := B.exec
  have hb := B.bytes
  have hr := B.returns
  have hts := atoms_spec (ws := (.code y_Md_pension b_Md_pension 3 (some .int) :: TB)) B.pre
  have htb := fun w (h : w ∈ TB) => hts w (List.mem_cons_of_mem _ h)
  have hown : s.vm.findClass R_Md = some m.cls := findClass_of_methodNamed B.named
  have hlocks := B.notSynchronized
  have hl := lv_entry ([.ref (a 0), .int p_0, .int p_1]) (n := 3) (Nat.le_of_ble_eq_true rfl)
  rw [lg_entry_eq]
  generalize (lg_sl ([.ref (a 0), .int p_0, .int p_1]) ++ List.replicate (3 - (lg_sl ([.ref (a 0), .int p_0, .int p_1])).length) Slot.unset).toArray = ls at hl ⊢
  have hl : lv_has ls 3 [(0, .ref (a 0)), (1, .int p_0), (2, .int p_1)] := hl
  subst hsz
  have hD := hD0.self (sz := s.heap.size)
  obtain ⟨A, hAe⟩ : ∃ A, va_A (MW a k) s.heap.size = A := ⟨_, rfl⟩
  rw [hAe] at hD
  have hA : ∀ q : Nat, s.heap.size ≤ q → A q := fun q h => by rw [← hAe]; exact Or.inr h
  have hS : va_S A s.heap s.heap [] := va_S.rf
  have hP := hP
  refine lv_iload_n hx hb d_Md_pension_0 rfl (lv_at hl 1 rfl) ?_
  refine lv_iload_n hx hb d_Md_pension_1 rfl (lv_at hl 2 rfl) ?_
  refine vp_callSi (va_Run.run (va_runS (As := [.int p_0, .int p_1]) (rest := []) ⟨hx, hb, hml, hown, htb⟩ (c_Md_isPension l p_0 p_1) (cwS 2 htb (gd_S tw_200 tw_201 tw_138 tw_199) rfl rfl rfl (by decide +kernel) ⟨Nat.le_of_ble_eq_true rfl, Nat.le_of_ble_eq_true rfl⟩) ⟨fun _ _ _ _ h => h, fun U _ _ => ⟨rfl, trivial⟩⟩ rfl rfl hl.1 rfl (lv_room (Nat.le_of_ble_eq_true rfl)) d_Md_pension_2 ⟨Nat.le_of_ble_eq_true rfl, Nat.le_of_ble_eq_true rfl⟩)) (fun r er => ?_)
  subst er
  by_cases c_1 : p_0 < 1
  · refine hb_ti 0 (by unfold f_Md_isPension; rw [if_pos c_1]) ?_
    refine lv_if_ne (tgt := 10) hx hb d_Md_pension_5 (by decide) (fun h => absurd (by decide +kernel) h) (fun _ => ?_)
    refine lv_iconst (v := (-1)) hx hb d_Md_pension_8 (by decide +kernel) ?_
    refine W.widen (k := 0) (n := 0) (Nat.le_of_ble_eq_true rfl) (Nat.le_of_ble_eq_true rfl) ?_
    exact W.iret (v := (-1)) hx hb hr (fun t ht hW => ⟨⟨(-1), (), rfl, (by unfold f_Md_pension; rw [if_pos c_1]), trivial⟩, by rw [hAe]; exact hS.F ht⟩) (by rw [hAe]; exact hS.2.2) d_Md_pension_9
  · by_cases c_2 : 10000 < p_0
    · refine hb_ti 0 (by unfold f_Md_isPension; rw [if_neg c_1, if_pos c_2]) ?_
      refine lv_if_ne (tgt := 10) hx hb d_Md_pension_5 (by decide) (fun h => absurd (by decide +kernel) h) (fun _ => ?_)
      refine lv_iconst (v := (-1)) hx hb d_Md_pension_8 (by decide +kernel) ?_
      refine W.widen (k := 0) (n := 0) (Nat.le_of_ble_eq_true rfl) (Nat.le_of_ble_eq_true rfl) ?_
      exact W.iret (v := (-1)) hx hb hr (fun t ht hW => ⟨⟨(-1), (), rfl, (by unfold f_Md_pension; rw [if_neg c_1, if_pos c_2]), trivial⟩, by rw [hAe]; exact hS.F ht⟩) (by rw [hAe]; exact hS.2.2) d_Md_pension_9
    · by_cases c_3 : p_1 < 0
      · refine hb_ti 0 (by unfold f_Md_isPension; rw [if_neg c_1, if_neg c_2, if_pos c_3]) ?_
        refine lv_if_ne (tgt := 10) hx hb d_Md_pension_5 (by decide) (fun h => absurd (by decide +kernel) h) (fun _ => ?_)
        refine lv_iconst (v := (-1)) hx hb d_Md_pension_8 (by decide +kernel) ?_
        refine W.widen (k := 0) (n := 0) (Nat.le_of_ble_eq_true rfl) (Nat.le_of_ble_eq_true rfl) ?_
        exact W.iret (v := (-1)) hx hb hr (fun t ht hW => ⟨⟨(-1), (), rfl, (by unfold f_Md_pension; rw [if_neg c_1, if_neg c_2, if_pos c_3]), trivial⟩, by rw [hAe]; exact hS.F ht⟩) (by rw [hAe]; exact hS.2.2) d_Md_pension_9
      · by_cases c_4 : 9999 < p_1
        · refine hb_ti 0 (by unfold f_Md_isPension; rw [if_neg c_1, if_neg c_2, if_neg c_3, if_pos c_4]) ?_
          refine lv_if_ne (tgt := 10) hx hb d_Md_pension_5 (by decide) (fun h => absurd (by decide +kernel) h) (fun _ => ?_)
          refine lv_iconst (v := (-1)) hx hb d_Md_pension_8 (by decide +kernel) ?_
          refine W.widen (k := 0) (n := 0) (Nat.le_of_ble_eq_true rfl) (Nat.le_of_ble_eq_true rfl) ?_
          exact W.iret (v := (-1)) hx hb hr (fun t ht hW => ⟨⟨(-1), (), rfl, (by unfold f_Md_pension; rw [if_neg c_1, if_neg c_2, if_neg c_3, if_pos c_4]), trivial⟩, by rw [hAe]; exact hS.F ht⟩) (by rw [hAe]; exact hS.2.2) d_Md_pension_9
        · refine hb_ti 1 (by unfold f_Md_isPension; rw [if_neg c_1, if_neg c_2, if_neg c_3, if_neg c_4]) ?_
          refine lv_if_ne (tgt := 10) hx hb d_Md_pension_5 (by decide) (fun _ => ?_) (fun h => absurd h (by decide +kernel))
          refine lv_aload_n hx hb d_Md_pension_10 rfl (lv_at hl 0 rfl) ?_
          refine va_get (D := (dC, dI)) (ci := 7) (v := .int 0) (C := R_Md) (T := F_Md) (N := 64) hx hb htb i_Md hown hK hP 0 rfl rfl 60 (by decide) (htb (.fieldLink R_Md 323 "WaterMenModel" "pensioners" "I") tw_202) (fun _ h9 => h9) rfl d_Md_pension_11 ?_
          refine lv_bipush (v := 30) hx hb d_Md_pension_14 (by decide +kernel) ?_
          refine lv_icmp_ne (tgt := 24) hx hb d_Md_pension_16 (by decide) (fun _ => ?_) (fun h => absurd h (by decide +kernel))
          refine lv_aload_n hx hb d_Md_pension_24 rfl (lv_at hl 0 rfl) ?_
          refine lv_iload_n hx hb d_Md_pension_25 rfl (lv_at hl 1 rfl) ?_
          refine lv_iload_n hx hb d_Md_pension_26 rfl (lv_at hl 2 rfl) ?_
          have hFc := hb_free hD hS hA
          refine va_calli (va_runV (As := [.int p_0, .int p_1]) (rest := []) ⟨hx, hb, hml, hown, htb⟩ (c_Md_newPensioner l dC dI a k _ p_0 p_1) (cwV 2 htb (gd_V tw_206 tw_207 tw_208 tw_138 tw_205) rfl rfl rfl (by decide +kernel) ⟨Nat.le_of_ble_eq_true rfl, Nat.le_of_ble_eq_true rfl⟩) ⟨pc_blind, va_recv hK hP (ci := 7) (q0 := 0) rfl rfl, pc_pre hP hK hD hN⟩ rfl rfl hl.1 rfl (lv_room (Nat.le_of_ble_eq_true rfl)) d_Md_pension_27 ⟨Nat.le_of_ble_eq_true rfl, Nat.le_of_ble_eq_true rfl⟩) hS (fun q _ h => hFc q h) hFc (fun r u t H1 locs ht hvm er hB hz1 hk1 hS => ?_)
          subst er
          refine hb_ti 0 rfl ?_
          refine W.widen (k := 0) (n := 0) (Nat.le_of_ble_eq_true rfl) (Nat.le_of_ble_eq_true rfl) ?_
          exact W.iret (v := 0) hx hb hr (fun t ht hW => ⟨⟨0, (), rfl, (by unfold f_Md_pension; rw [if_neg c_1, if_neg c_2, if_neg c_3, if_neg c_4]), trivial⟩, by rw [hAe]; exact hS.F ht⟩) (by rw [hAe]; exact hS.2.2) d_Md_pension_30
def f_Md_foretold  : Int32 := (-2)
set_option maxHeartbeats 4000000 in
set_option maxRecDepth 100000 in
theorem c_Md_foretold (l : Launch) (dC : Nat → ClassId) (dI : Nat → Nat → Nat) (a : Nat → Nat) (k : Nat → ClassId)    : Met l y_Md_foretold (.code y_Md_foretold b_Md_foretold 8 (some .int) :: TB) ({ frames := 1, cells := 0, slots := 0, locals := 20 }) (va_Pc [.ref (a 0)] (PR dC dI (MW a k) (MT k))) (vp_Si (fun r => r = f_Md_foretold)) 0 0 (fun _ => False) := by
  refine Met.ofW (cc := b_Md_foretold) (maxL := 8) (ret := (some .int)) (by decide) rfl ?_
  intro p e s m args below meth c s₁ B hml hv
  obtain ⟨rfl, hP, hK, hN⟩ := hv
  have hx := B.exec
  have hb := B.bytes
  have hr := B.returns
  have hts := atoms_spec (ws := (.code y_Md_foretold b_Md_foretold 8 (some .int) :: TB)) B.pre
  have htb := fun w (h : w ∈ TB) => hts w (List.mem_cons_of_mem _ h)
  have hown : s.vm.findClass R_Md = some m.cls := findClass_of_methodNamed B.named
  have hlocks := B.notSynchronized
  have hl := lv_entry ([.ref (a 0)]) (n := 8) (Nat.le_of_ble_eq_true rfl)
  rw [lg_entry_eq]
  generalize (lg_sl ([.ref (a 0)]) ++ List.replicate (8 - (lg_sl ([.ref (a 0)])).length) Slot.unset).toArray = ls at hl ⊢
  have hl : lv_has ls 8 [(0, .ref (a 0))] := hl
  refine lv_lconst (v := 0) hx hb d_Md_foretold_0 (by decide +kernel) ?_
  refine lv_lstore_n (lv' := [(1, .long 0), (0, .ref (a 0))]) hx hb d_Md_foretold_1 rfl hl (by decide) rfl (fun ls hl => ?_)
  refine lv_aload_n hx hb d_Md_foretold_2 rfl (lv_at hl 1 rfl) ?_
  refine vp_callSi (va_Run.run (va_runV (As := []) (rest := []) ⟨hx, hb, hml, hown, htb⟩ (c_Md_today l dC dI a k) (cwV 0 htb (gd_V tw_159 tw_160 tw_161 tw_138 tw_158) rfl rfl rfl (by decide +kernel) ⟨Nat.le_of_ble_eq_true rfl, Nat.le_of_ble_eq_true rfl⟩) ⟨pr_blind, va_recv hK hP (ci := 7) (q0 := 0) rfl rfl, pr_pre hP hK hN⟩ rfl rfl hl.1 rfl (lv_room (Nat.le_of_ble_eq_true rfl)) d_Md_foretold_3 ⟨Nat.le_of_ble_eq_true rfl, Nat.le_of_ble_eq_true rfl⟩)) (fun r er => ?_)
  subst er
  refine hb_ti 0 rfl ?_
  refine lv_bipush (v := 100) hx hb d_Md_foretold_6 (by decide +kernel) ?_
  refine lv_icmp_ge (tgt := 15) hx hb d_Md_foretold_8 (by decide) (fun h => absurd h (by decide +kernel)) (fun _ => ?_)
  refine lv_iconst (v := 0) hx hb d_Md_foretold_11 (by decide +kernel) ?_
  refine lv_goto (tgt := 22) hx hb d_Md_foretold_12 (by decide) ?_
  refine lv_istore_n (lv' := [(3, .int 0), (1, .long 0), (0, .ref (a 0))]) hx hb d_Md_foretold_22 rfl hl (by decide) rfl (fun ls hl => ?_)
  refine lv_iload_n hx hb d_Md_foretold_23 rfl (lv_at hl 0 rfl) ?_
  refine lv_aload_n hx hb d_Md_foretold_24 rfl (lv_at hl 2 rfl) ?_
  refine vp_callSi (va_Run.run (va_runV (As := []) (rest := [.int 0]) ⟨hx, hb, hml, hown, htb⟩ (c_Md_today l dC dI a k) (cwV 0 htb (gd_V tw_159 tw_160 tw_161 tw_138 tw_158) rfl rfl rfl (by decide +kernel) ⟨Nat.le_of_ble_eq_true rfl, Nat.le_of_ble_eq_true rfl⟩) ⟨pr_blind, va_recv hK hP (ci := 7) (q0 := 0) rfl rfl, pr_pre hP hK hN⟩ rfl rfl hl.1 rfl (lv_room (Nat.le_of_ble_eq_true rfl)) d_Md_foretold_25 ⟨Nat.le_of_ble_eq_true rfl, Nat.le_of_ble_eq_true rfl⟩)) (fun r er => ?_)
  subst er
  refine hb_ti 0 rfl ?_
  refine lv_icmp_gt (tgt := 46) hx hb d_Md_foretold_28 (by decide) (fun h => absurd h (by decide +kernel)) (fun _ => ?_)
  refine lv_lload_n hx hb d_Md_foretold_31 rfl (lv_at hl 1 rfl) ?_
  refine lv_aload_n hx hb d_Md_foretold_32 rfl (lv_at hl 2 rfl) ?_
  refine va_get (D := (dC, dI)) (ci := 7) (v := .ref (a 44)) (C := R_Md) (T := F_Md) (N := 64) hx hb htb i_Md hown hK hP 0 rfl rfl 59 (by decide) (htb (.fieldLink R_Md 173 "WaterMenModel" "boxIn" "[J") tw_209) (fun _ h9 => h9) rfl d_Md_foretold_33 ?_
  refine lv_iload_n hx hb d_Md_foretold_36 rfl (lv_at hl 0 rfl) ?_
  refine va_lald hx hb hK hP 44 43 rfl rfl (by unfold vp_in; decide +kernel) d_Md_foretold_37 ?_
  refine hb_tl 0 rfl ?_
  refine lv_ladd hx hb d_Md_foretold_38 ?_
  refine hb_tl 0 (by decide +kernel) ?_
  refine lv_lstore_n (lv' := [(1, .long 0), (3, .int 0), (0, .ref (a 0))]) hx hb d_Md_foretold_39 rfl hl (by decide) rfl (fun ls hl => ?_)
  refine lv_iinc (v := 1) (lv' := [(3, .int 1), (1, .long 0), (0, .ref (a 0))]) hx hb d_Md_foretold_40 hl (k := 1) rfl (by decide +kernel) (by decide) rfl (fun ls hl => ?_)
  refine lv_goto (tgt := 23) hx hb d_Md_foretold_43 (by decide) ?_
  refine lv_iload_n hx hb d_Md_foretold_23 rfl (lv_at hl 0 rfl) ?_
  refine lv_aload_n hx hb d_Md_foretold_24 rfl (lv_at hl 2 rfl) ?_
  refine vp_callSi (va_Run.run (va_runV (As := []) (rest := [.int 1]) ⟨hx, hb, hml, hown, htb⟩ (c_Md_today l dC dI a k) (cwV 0 htb (gd_V tw_159 tw_160 tw_161 tw_138 tw_158) rfl rfl rfl (by decide +kernel) ⟨Nat.le_of_ble_eq_true rfl, Nat.le_of_ble_eq_true rfl⟩) ⟨pr_blind, va_recv hK hP (ci := 7) (q0 := 0) rfl rfl, pr_pre hP hK hN⟩ rfl rfl hl.1 rfl (lv_room (Nat.le_of_ble_eq_true rfl)) d_Md_foretold_25 ⟨Nat.le_of_ble_eq_true rfl, Nat.le_of_ble_eq_true rfl⟩)) (fun r er => ?_)
  subst er
  refine hb_ti 0 rfl ?_
  refine lv_icmp_gt (tgt := 46) hx hb d_Md_foretold_28 (by decide) (fun _ => ?_) (fun h => absurd (by decide +kernel) h)
  refine lv_aload_n hx hb d_Md_foretold_46 rfl (lv_at hl 2 rfl) ?_
  refine va_get (D := (dC, dI)) (ci := 7) (v := .long 0) (C := R_Md) (T := F_Md) (N := 64) hx hb htb i_Md hown hK hP 0 rfl rfl 56 (by decide) (htb (.fieldLink R_Md 316 "WaterMenModel" "box" "J") tw_210) (fun _ h9 => h9) rfl d_Md_foretold_47 ?_
  refine lv_lstore_n (lv' := [(3, .long 0), (1, .long 0), (0, .ref (a 0))]) hx hb d_Md_foretold_50 rfl hl (by decide) rfl (fun ls hl => ?_)
  refine lv_iconst (v := 1) hx hb d_Md_foretold_51 (by decide +kernel) ?_
  refine lv_istore (lv' := [(5, .int 1), (3, .long 0), (1, .long 0), (0, .ref (a 0))]) hx hb d_Md_foretold_52 hl (by decide) rfl (fun ls hl => ?_)
  refine lv_iload hx hb d_Md_foretold_54 (lv_at hl 0 rfl) ?_
  refine lv_bipush (v := 40) hx hb d_Md_foretold_56 (by decide +kernel) ?_
  refine lv_icmp_gt (tgt := 146) hx hb d_Md_foretold_58 (by decide) (fun h => absurd h (by decide +kernel)) (fun _ => ?_)
  refine lv_aload_n hx hb d_Md_foretold_61 rfl (lv_at hl 3 rfl) ?_
  refine vp_callSi (va_Run.run (va_runV (As := []) (rest := []) ⟨hx, hb, hml, hown, htb⟩ (c_Md_today l dC dI a k) (cwV 0 htb (gd_V tw_159 tw_160 tw_161 tw_138 tw_158) rfl rfl rfl (by decide +kernel) ⟨Nat.le_of_ble_eq_true rfl, Nat.le_of_ble_eq_true rfl⟩) ⟨pr_blind, va_recv hK hP (ci := 7) (q0 := 0) rfl rfl, pr_pre hP hK hN⟩ rfl rfl hl.1 rfl (lv_room (Nat.le_of_ble_eq_true rfl)) d_Md_foretold_62 ⟨Nat.le_of_ble_eq_true rfl, Nat.le_of_ble_eq_true rfl⟩)) (fun r er => ?_)
  subst er
  refine hb_ti 0 rfl ?_
  refine lv_bipush (v := 100) hx hb d_Md_foretold_65 (by decide +kernel) ?_
  refine lv_idiv hx hb d_Md_foretold_67 (by decide) ?_
  refine hb_ti 0 (by decide +kernel) ?_
  refine lv_iload hx hb d_Md_foretold_68 (lv_at hl 0 rfl) ?_
  refine lv_iadd hx hb d_Md_foretold_70 ?_
  refine hb_ti 1 (by decide +kernel) ?_
  refine lv_bipush (v := 100) hx hb d_Md_foretold_71 (by decide +kernel) ?_
  refine lv_imul hx hb d_Md_foretold_73 ?_
  refine hb_ti 100 (by decide +kernel) ?_
  refine lv_istore (lv' := [(6, .int 100), (5, .int 1), (3, .long 0), (1, .long 0), (0, .ref (a 0))]) hx hb d_Md_foretold_74 hl (by decide) rfl (fun ls hl => ?_)
  refine lv_lload_n hx hb d_Md_foretold_76 rfl (lv_at hl 2 rfl) ?_
  refine lv_lload_n hx hb d_Md_foretold_77 rfl (lv_at hl 3 rfl) ?_
  refine lv_ladd hx hb d_Md_foretold_78 ?_
  refine hb_tl 0 (by decide +kernel) ?_
  refine lv_lstore_n (lv' := [(3, .long 0), (6, .int 100), (5, .int 1), (1, .long 0), (0, .ref (a 0))]) hx hb d_Md_foretold_79 rfl hl (by decide) rfl (fun ls hl => ?_)
  refine lv_iconst (v := 0) hx hb d_Md_foretold_80 (by decide +kernel) ?_
  refine lv_istore (lv' := [(7, .int 0), (3, .long 0), (6, .int 100), (5, .int 1), (1, .long 0), (0, .ref (a 0))]) hx hb d_Md_foretold_81 hl (by decide) rfl (fun ls hl => ?_)
  refine lv_iload hx hb d_Md_foretold_83 (lv_at hl 0 rfl) ?_
  refine lv_aload_n hx hb d_Md_foretold_85 rfl (lv_at hl 5 rfl) ?_
  refine va_get (D := (dC, dI)) (ci := 7) (v := .int 0) (C := R_Md) (T := F_Md) (N := 64) hx hb htb i_Md hown hK hP 0 rfl rfl 60 (by decide) (htb (.fieldLink R_Md 323 "WaterMenModel" "pensioners" "I") tw_202) (fun _ h9 => h9) rfl d_Md_foretold_86 ?_
  refine lv_icmp_ge (tgt := 140) hx hb d_Md_foretold_89 (by decide) (fun _ => ?_) (fun h => absurd (by decide +kernel) h)
  refine lv_iinc (v := 2) (lv' := [(5, .int 2), (7, .int 0), (3, .long 0), (6, .int 100), (1, .long 0), (0, .ref (a 0))]) hx hb d_Md_foretold_140 hl (k := 3) rfl (by decide +kernel) (by decide) rfl (fun ls hl => ?_)
  refine lv_goto (tgt := 54) hx hb d_Md_foretold_143 (by decide) ?_
  refine lv_iload hx hb d_Md_foretold_54 (lv_at hl 0 rfl) ?_
  refine lv_bipush (v := 40) hx hb d_Md_foretold_56 (by decide +kernel) ?_
  refine lv_icmp_gt (tgt := 146) hx hb d_Md_foretold_58 (by decide) (fun h => absurd h (by decide +kernel)) (fun _ => ?_)
  refine lv_aload_n hx hb d_Md_foretold_61 rfl (lv_at hl 5 rfl) ?_
  refine vp_callSi (va_Run.run (va_runV (As := []) (rest := []) ⟨hx, hb, hml, hown, htb⟩ (c_Md_today l dC dI a k) (cwV 0 htb (gd_V tw_159 tw_160 tw_161 tw_138 tw_158) rfl rfl rfl (by decide +kernel) ⟨Nat.le_of_ble_eq_true rfl, Nat.le_of_ble_eq_true rfl⟩) ⟨pr_blind, va_recv hK hP (ci := 7) (q0 := 0) rfl rfl, pr_pre hP hK hN⟩ rfl rfl hl.1 rfl (lv_room (Nat.le_of_ble_eq_true rfl)) d_Md_foretold_62 ⟨Nat.le_of_ble_eq_true rfl, Nat.le_of_ble_eq_true rfl⟩)) (fun r er => ?_)
  subst er
  refine hb_ti 0 rfl ?_
  refine lv_bipush (v := 100) hx hb d_Md_foretold_65 (by decide +kernel) ?_
  refine lv_idiv hx hb d_Md_foretold_67 (by decide) ?_
  refine hb_ti 0 (by decide +kernel) ?_
  refine lv_iload hx hb d_Md_foretold_68 (lv_at hl 0 rfl) ?_
  refine lv_iadd hx hb d_Md_foretold_70 ?_
  refine hb_ti 2 (by decide +kernel) ?_
  refine lv_bipush (v := 100) hx hb d_Md_foretold_71 (by decide +kernel) ?_
  refine lv_imul hx hb d_Md_foretold_73 ?_
  refine hb_ti 200 (by decide +kernel) ?_
  refine lv_istore (lv' := [(6, .int 200), (5, .int 2), (7, .int 0), (3, .long 0), (1, .long 0), (0, .ref (a 0))]) hx hb d_Md_foretold_74 hl (by decide) rfl (fun ls hl => ?_)
  refine lv_lload_n hx hb d_Md_foretold_76 rfl (lv_at hl 3 rfl) ?_
  refine lv_lload_n hx hb d_Md_foretold_77 rfl (lv_at hl 4 rfl) ?_
  refine lv_ladd hx hb d_Md_foretold_78 ?_
  refine hb_tl 0 (by decide +kernel) ?_
  refine lv_lstore_n (lv' := [(3, .long 0), (6, .int 200), (5, .int 2), (7, .int 0), (1, .long 0), (0, .ref (a 0))]) hx hb d_Md_foretold_79 rfl hl (by decide) rfl (fun ls hl => ?_)
  refine lv_iconst (v := 0) hx hb d_Md_foretold_80 (by decide +kernel) ?_
  refine lv_istore (lv' := [(7, .int 0), (3, .long 0), (6, .int 200), (5, .int 2), (1, .long 0), (0, .ref (a 0))]) hx hb d_Md_foretold_81 hl (by decide) rfl (fun ls hl => ?_)
  refine lv_iload hx hb d_Md_foretold_83 (lv_at hl 0 rfl) ?_
  refine lv_aload_n hx hb d_Md_foretold_85 rfl (lv_at hl 5 rfl) ?_
  refine va_get (D := (dC, dI)) (ci := 7) (v := .int 0) (C := R_Md) (T := F_Md) (N := 64) hx hb htb i_Md hown hK hP 0 rfl rfl 60 (by decide) (htb (.fieldLink R_Md 323 "WaterMenModel" "pensioners" "I") tw_202) (fun _ h9 => h9) rfl d_Md_foretold_86 ?_
  refine lv_icmp_ge (tgt := 140) hx hb d_Md_foretold_89 (by decide) (fun _ => ?_) (fun h => absurd (by decide +kernel) h)
  refine lv_iinc (v := 3) (lv' := [(5, .int 3), (7, .int 0), (3, .long 0), (6, .int 200), (1, .long 0), (0, .ref (a 0))]) hx hb d_Md_foretold_140 hl (k := 3) rfl (by decide +kernel) (by decide) rfl (fun ls hl => ?_)
  refine lv_goto (tgt := 54) hx hb d_Md_foretold_143 (by decide) ?_
  refine lv_iload hx hb d_Md_foretold_54 (lv_at hl 0 rfl) ?_
  refine lv_bipush (v := 40) hx hb d_Md_foretold_56 (by decide +kernel) ?_
  refine lv_icmp_gt (tgt := 146) hx hb d_Md_foretold_58 (by decide) (fun h => absurd h (by decide +kernel)) (fun _ => ?_)
  refine lv_aload_n hx hb d_Md_foretold_61 rfl (lv_at hl 5 rfl) ?_
  refine vp_callSi (va_Run.run (va_runV (As := []) (rest := []) ⟨hx, hb, hml, hown, htb⟩ (c_Md_today l dC dI a k) (cwV 0 htb (gd_V tw_159 tw_160 tw_161 tw_138 tw_158) rfl rfl rfl (by decide +kernel) ⟨Nat.le_of_ble_eq_true rfl, Nat.le_of_ble_eq_true rfl⟩) ⟨pr_blind, va_recv hK hP (ci := 7) (q0 := 0) rfl rfl, pr_pre hP hK hN⟩ rfl rfl hl.1 rfl (lv_room (Nat.le_of_ble_eq_true rfl)) d_Md_foretold_62 ⟨Nat.le_of_ble_eq_true rfl, Nat.le_of_ble_eq_true rfl⟩)) (fun r er => ?_)
  subst er
  refine hb_ti 0 rfl ?_
  refine lv_bipush (v := 100) hx hb d_Md_foretold_65 (by decide +kernel) ?_
  refine lv_idiv hx hb d_Md_foretold_67 (by decide) ?_
  refine hb_ti 0 (by decide +kernel) ?_
  refine lv_iload hx hb d_Md_foretold_68 (lv_at hl 0 rfl) ?_
  refine lv_iadd hx hb d_Md_foretold_70 ?_
  refine hb_ti 3 (by decide +kernel) ?_
  refine lv_bipush (v := 100) hx hb d_Md_foretold_71 (by decide +kernel) ?_
  refine lv_imul hx hb d_Md_foretold_73 ?_
  refine hb_ti 300 (by decide +kernel) ?_
  refine lv_istore (lv' := [(6, .int 300), (5, .int 3), (7, .int 0), (3, .long 0), (1, .long 0), (0, .ref (a 0))]) hx hb d_Md_foretold_74 hl (by decide) rfl (fun ls hl => ?_)
  refine lv_lload_n hx hb d_Md_foretold_76 rfl (lv_at hl 3 rfl) ?_
  refine lv_lload_n hx hb d_Md_foretold_77 rfl (lv_at hl 4 rfl) ?_
  refine lv_ladd hx hb d_Md_foretold_78 ?_
  refine hb_tl 0 (by decide +kernel) ?_
  refine lv_lstore_n (lv' := [(3, .long 0), (6, .int 300), (5, .int 3), (7, .int 0), (1, .long 0), (0, .ref (a 0))]) hx hb d_Md_foretold_79 rfl hl (by decide) rfl (fun ls hl => ?_)
  refine lv_iconst (v := 0) hx hb d_Md_foretold_80 (by decide +kernel) ?_
  refine lv_istore (lv' := [(7, .int 0), (3, .long 0), (6, .int 300), (5, .int 3), (1, .long 0), (0, .ref (a 0))]) hx hb d_Md_foretold_81 hl (by decide) rfl (fun ls hl => ?_)
  refine lv_iload hx hb d_Md_foretold_83 (lv_at hl 0 rfl) ?_
  refine lv_aload_n hx hb d_Md_foretold_85 rfl (lv_at hl 5 rfl) ?_
  refine va_get (D := (dC, dI)) (ci := 7) (v := .int 0) (C := R_Md) (T := F_Md) (N := 64) hx hb htb i_Md hown hK hP 0 rfl rfl 60 (by decide) (htb (.fieldLink R_Md 323 "WaterMenModel" "pensioners" "I") tw_202) (fun _ h9 => h9) rfl d_Md_foretold_86 ?_
  refine lv_icmp_ge (tgt := 140) hx hb d_Md_foretold_89 (by decide) (fun _ => ?_) (fun h => absurd (by decide +kernel) h)
  refine lv_iinc (v := 4) (lv' := [(5, .int 4), (7, .int 0), (3, .long 0), (6, .int 300), (1, .long 0), (0, .ref (a 0))]) hx hb d_Md_foretold_140 hl (k := 3) rfl (by decide +kernel) (by decide) rfl (fun ls hl => ?_)
  refine lv_goto (tgt := 54) hx hb d_Md_foretold_143 (by decide) ?_
  refine lv_iload hx hb d_Md_foretold_54 (lv_at hl 0 rfl) ?_
  refine lv_bipush (v := 40) hx hb d_Md_foretold_56 (by decide +kernel) ?_
  refine lv_icmp_gt (tgt := 146) hx hb d_Md_foretold_58 (by decide) (fun h => absurd h (by decide +kernel)) (fun _ => ?_)
  refine lv_aload_n hx hb d_Md_foretold_61 rfl (lv_at hl 5 rfl) ?_
  refine vp_callSi (va_Run.run (va_runV (As := []) (rest := []) ⟨hx, hb, hml, hown, htb⟩ (c_Md_today l dC dI a k) (cwV 0 htb (gd_V tw_159 tw_160 tw_161 tw_138 tw_158) rfl rfl rfl (by decide +kernel) ⟨Nat.le_of_ble_eq_true rfl, Nat.le_of_ble_eq_true rfl⟩) ⟨pr_blind, va_recv hK hP (ci := 7) (q0 := 0) rfl rfl, pr_pre hP hK hN⟩ rfl rfl hl.1 rfl (lv_room (Nat.le_of_ble_eq_true rfl)) d_Md_foretold_62 ⟨Nat.le_of_ble_eq_true rfl, Nat.le_of_ble_eq_true rfl⟩)) (fun r er => ?_)
  subst er
  refine hb_ti 0 rfl ?_
  refine lv_bipush (v := 100) hx hb d_Md_foretold_65 (by decide +kernel) ?_
  refine lv_idiv hx hb d_Md_foretold_67 (by decide) ?_
  refine hb_ti 0 (by decide +kernel) ?_
  refine lv_iload hx hb d_Md_foretold_68 (lv_at hl 0 rfl) ?_
  refine lv_iadd hx hb d_Md_foretold_70 ?_
  refine hb_ti 4 (by decide +kernel) ?_
  refine lv_bipush (v := 100) hx hb d_Md_foretold_71 (by decide +kernel) ?_
  refine lv_imul hx hb d_Md_foretold_73 ?_
  refine hb_ti 400 (by decide +kernel) ?_
  refine lv_istore (lv' := [(6, .int 400), (5, .int 4), (7, .int 0), (3, .long 0), (1, .long 0), (0, .ref (a 0))]) hx hb d_Md_foretold_74 hl (by decide) rfl (fun ls hl => ?_)
  refine lv_lload_n hx hb d_Md_foretold_76 rfl (lv_at hl 3 rfl) ?_
  refine lv_lload_n hx hb d_Md_foretold_77 rfl (lv_at hl 4 rfl) ?_
  refine lv_ladd hx hb d_Md_foretold_78 ?_
  refine hb_tl 0 (by decide +kernel) ?_
  refine lv_lstore_n (lv' := [(3, .long 0), (6, .int 400), (5, .int 4), (7, .int 0), (1, .long 0), (0, .ref (a 0))]) hx hb d_Md_foretold_79 rfl hl (by decide) rfl (fun ls hl => ?_)
  refine lv_iconst (v := 0) hx hb d_Md_foretold_80 (by decide +kernel) ?_
  refine lv_istore (lv' := [(7, .int 0), (3, .long 0), (6, .int 400), (5, .int 4), (1, .long 0), (0, .ref (a 0))]) hx hb d_Md_foretold_81 hl (by decide) rfl (fun ls hl => ?_)
  refine lv_iload hx hb d_Md_foretold_83 (lv_at hl 0 rfl) ?_
  refine lv_aload_n hx hb d_Md_foretold_85 rfl (lv_at hl 5 rfl) ?_
  refine va_get (D := (dC, dI)) (ci := 7) (v := .int 0) (C := R_Md) (T := F_Md) (N := 64) hx hb htb i_Md hown hK hP 0 rfl rfl 60 (by decide) (htb (.fieldLink R_Md 323 "WaterMenModel" "pensioners" "I") tw_202) (fun _ h9 => h9) rfl d_Md_foretold_86 ?_
  refine lv_icmp_ge (tgt := 140) hx hb d_Md_foretold_89 (by decide) (fun _ => ?_) (fun h => absurd (by decide +kernel) h)
  refine lv_iinc (v := 5) (lv' := [(5, .int 5), (7, .int 0), (3, .long 0), (6, .int 400), (1, .long 0), (0, .ref (a 0))]) hx hb d_Md_foretold_140 hl (k := 3) rfl (by decide +kernel) (by decide) rfl (fun ls hl => ?_)
  refine lv_goto (tgt := 54) hx hb d_Md_foretold_143 (by decide) ?_
  refine lv_iload hx hb d_Md_foretold_54 (lv_at hl 0 rfl) ?_
  refine lv_bipush (v := 40) hx hb d_Md_foretold_56 (by decide +kernel) ?_
  refine lv_icmp_gt (tgt := 146) hx hb d_Md_foretold_58 (by decide) (fun h => absurd h (by decide +kernel)) (fun _ => ?_)
  refine lv_aload_n hx hb d_Md_foretold_61 rfl (lv_at hl 5 rfl) ?_
  refine vp_callSi (va_Run.run (va_runV (As := []) (rest := []) ⟨hx, hb, hml, hown, htb⟩ (c_Md_today l dC dI a k) (cwV 0 htb (gd_V tw_159 tw_160 tw_161 tw_138 tw_158) rfl rfl rfl (by decide +kernel) ⟨Nat.le_of_ble_eq_true rfl, Nat.le_of_ble_eq_true rfl⟩) ⟨pr_blind, va_recv hK hP (ci := 7) (q0 := 0) rfl rfl, pr_pre hP hK hN⟩ rfl rfl hl.1 rfl (lv_room (Nat.le_of_ble_eq_true rfl)) d_Md_foretold_62 ⟨Nat.le_of_ble_eq_true rfl, Nat.le_of_ble_eq_true rfl⟩)) (fun r er => ?_)
  subst er
  refine hb_ti 0 rfl ?_
  refine lv_bipush (v := 100) hx hb d_Md_foretold_65 (by decide +kernel) ?_
  refine lv_idiv hx hb d_Md_foretold_67 (by decide) ?_
  refine hb_ti 0 (by decide +kernel) ?_
  refine lv_iload hx hb d_Md_foretold_68 (lv_at hl 0 rfl) ?_
  refine lv_iadd hx hb d_Md_foretold_70 ?_
  refine hb_ti 5 (by decide +kernel) ?_
  refine lv_bipush (v := 100) hx hb d_Md_foretold_71 (by decide +kernel) ?_
  refine lv_imul hx hb d_Md_foretold_73 ?_
  refine hb_ti 500 (by decide +kernel) ?_
  refine lv_istore (lv' := [(6, .int 500), (5, .int 5), (7, .int 0), (3, .long 0), (1, .long 0), (0, .ref (a 0))]) hx hb d_Md_foretold_74 hl (by decide) rfl (fun ls hl => ?_)
  refine lv_lload_n hx hb d_Md_foretold_76 rfl (lv_at hl 3 rfl) ?_
  refine lv_lload_n hx hb d_Md_foretold_77 rfl (lv_at hl 4 rfl) ?_
  refine lv_ladd hx hb d_Md_foretold_78 ?_
  refine hb_tl 0 (by decide +kernel) ?_
  refine lv_lstore_n (lv' := [(3, .long 0), (6, .int 500), (5, .int 5), (7, .int 0), (1, .long 0), (0, .ref (a 0))]) hx hb d_Md_foretold_79 rfl hl (by decide) rfl (fun ls hl => ?_)
  refine lv_iconst (v := 0) hx hb d_Md_foretold_80 (by decide +kernel) ?_
  refine lv_istore (lv' := [(7, .int 0), (3, .long 0), (6, .int 500), (5, .int 5), (1, .long 0), (0, .ref (a 0))]) hx hb d_Md_foretold_81 hl (by decide) rfl (fun ls hl => ?_)
  refine lv_iload hx hb d_Md_foretold_83 (lv_at hl 0 rfl) ?_
  refine lv_aload_n hx hb d_Md_foretold_85 rfl (lv_at hl 5 rfl) ?_
  refine va_get (D := (dC, dI)) (ci := 7) (v := .int 0) (C := R_Md) (T := F_Md) (N := 64) hx hb htb i_Md hown hK hP 0 rfl rfl 60 (by decide) (htb (.fieldLink R_Md 323 "WaterMenModel" "pensioners" "I") tw_202) (fun _ h9 => h9) rfl d_Md_foretold_86 ?_
  refine lv_icmp_ge (tgt := 140) hx hb d_Md_foretold_89 (by decide) (fun _ => ?_) (fun h => absurd (by decide +kernel) h)
  refine lv_iinc (v := 6) (lv' := [(5, .int 6), (7, .int 0), (3, .long 0), (6, .int 500), (1, .long 0), (0, .ref (a 0))]) hx hb d_Md_foretold_140 hl (k := 3) rfl (by decide +kernel) (by decide) rfl (fun ls hl => ?_)
  refine lv_goto (tgt := 54) hx hb d_Md_foretold_143 (by decide) ?_
  refine lv_iload hx hb d_Md_foretold_54 (lv_at hl 0 rfl) ?_
  refine lv_bipush (v := 40) hx hb d_Md_foretold_56 (by decide +kernel) ?_
  refine lv_icmp_gt (tgt := 146) hx hb d_Md_foretold_58 (by decide) (fun h => absurd h (by decide +kernel)) (fun _ => ?_)
  refine lv_aload_n hx hb d_Md_foretold_61 rfl (lv_at hl 5 rfl) ?_
  refine vp_callSi (va_Run.run (va_runV (As := []) (rest := []) ⟨hx, hb, hml, hown, htb⟩ (c_Md_today l dC dI a k) (cwV 0 htb (gd_V tw_159 tw_160 tw_161 tw_138 tw_158) rfl rfl rfl (by decide +kernel) ⟨Nat.le_of_ble_eq_true rfl, Nat.le_of_ble_eq_true rfl⟩) ⟨pr_blind, va_recv hK hP (ci := 7) (q0 := 0) rfl rfl, pr_pre hP hK hN⟩ rfl rfl hl.1 rfl (lv_room (Nat.le_of_ble_eq_true rfl)) d_Md_foretold_62 ⟨Nat.le_of_ble_eq_true rfl, Nat.le_of_ble_eq_true rfl⟩)) (fun r er => ?_)
  subst er
  refine hb_ti 0 rfl ?_
  refine lv_bipush (v := 100) hx hb d_Md_foretold_65 (by decide +kernel) ?_
  refine lv_idiv hx hb d_Md_foretold_67 (by decide) ?_
  refine hb_ti 0 (by decide +kernel) ?_
  refine lv_iload hx hb d_Md_foretold_68 (lv_at hl 0 rfl) ?_
  refine lv_iadd hx hb d_Md_foretold_70 ?_
  refine hb_ti 6 (by decide +kernel) ?_
  refine lv_bipush (v := 100) hx hb d_Md_foretold_71 (by decide +kernel) ?_
  refine lv_imul hx hb d_Md_foretold_73 ?_
  refine hb_ti 600 (by decide +kernel) ?_
  refine lv_istore (lv' := [(6, .int 600), (5, .int 6), (7, .int 0), (3, .long 0), (1, .long 0), (0, .ref (a 0))]) hx hb d_Md_foretold_74 hl (by decide) rfl (fun ls hl => ?_)
  refine lv_lload_n hx hb d_Md_foretold_76 rfl (lv_at hl 3 rfl) ?_
  refine lv_lload_n hx hb d_Md_foretold_77 rfl (lv_at hl 4 rfl) ?_
  refine lv_ladd hx hb d_Md_foretold_78 ?_
  refine hb_tl 0 (by decide +kernel) ?_
  refine lv_lstore_n (lv' := [(3, .long 0), (6, .int 600), (5, .int 6), (7, .int 0), (1, .long 0), (0, .ref (a 0))]) hx hb d_Md_foretold_79 rfl hl (by decide) rfl (fun ls hl => ?_)
  refine lv_iconst (v := 0) hx hb d_Md_foretold_80 (by decide +kernel) ?_
  refine lv_istore (lv' := [(7, .int 0), (3, .long 0), (6, .int 600), (5, .int 6), (1, .long 0), (0, .ref (a 0))]) hx hb d_Md_foretold_81 hl (by decide) rfl (fun ls hl => ?_)
  refine lv_iload hx hb d_Md_foretold_83 (lv_at hl 0 rfl) ?_
  refine lv_aload_n hx hb d_Md_foretold_85 rfl (lv_at hl 5 rfl) ?_
  refine va_get (D := (dC, dI)) (ci := 7) (v := .int 0) (C := R_Md) (T := F_Md) (N := 64) hx hb htb i_Md hown hK hP 0 rfl rfl 60 (by decide) (htb (.fieldLink R_Md 323 "WaterMenModel" "pensioners" "I") tw_202) (fun _ h9 => h9) rfl d_Md_foretold_86 ?_
  refine lv_icmp_ge (tgt := 140) hx hb d_Md_foretold_89 (by decide) (fun _ => ?_) (fun h => absurd (by decide +kernel) h)
  refine lv_iinc (v := 7) (lv' := [(5, .int 7), (7, .int 0), (3, .long 0), (6, .int 600), (1, .long 0), (0, .ref (a 0))]) hx hb d_Md_foretold_140 hl (k := 3) rfl (by decide +kernel) (by decide) rfl (fun ls hl => ?_)
  refine lv_goto (tgt := 54) hx hb d_Md_foretold_143 (by decide) ?_
  refine lv_iload hx hb d_Md_foretold_54 (lv_at hl 0 rfl) ?_
  refine lv_bipush (v := 40) hx hb d_Md_foretold_56 (by decide +kernel) ?_
  refine lv_icmp_gt (tgt := 146) hx hb d_Md_foretold_58 (by decide) (fun h => absurd h (by decide +kernel)) (fun _ => ?_)
  refine lv_aload_n hx hb d_Md_foretold_61 rfl (lv_at hl 5 rfl) ?_
  refine vp_callSi (va_Run.run (va_runV (As := []) (rest := []) ⟨hx, hb, hml, hown, htb⟩ (c_Md_today l dC dI a k) (cwV 0 htb (gd_V tw_159 tw_160 tw_161 tw_138 tw_158) rfl rfl rfl (by decide +kernel) ⟨Nat.le_of_ble_eq_true rfl, Nat.le_of_ble_eq_true rfl⟩) ⟨pr_blind, va_recv hK hP (ci := 7) (q0 := 0) rfl rfl, pr_pre hP hK hN⟩ rfl rfl hl.1 rfl (lv_room (Nat.le_of_ble_eq_true rfl)) d_Md_foretold_62 ⟨Nat.le_of_ble_eq_true rfl, Nat.le_of_ble_eq_true rfl⟩)) (fun r er => ?_)
  subst er
  refine hb_ti 0 rfl ?_
  refine lv_bipush (v := 100) hx hb d_Md_foretold_65 (by decide +kernel) ?_
  refine lv_idiv hx hb d_Md_foretold_67 (by decide) ?_
  refine hb_ti 0 (by decide +kernel) ?_
  refine lv_iload hx hb d_Md_foretold_68 (lv_at hl 0 rfl) ?_
  refine lv_iadd hx hb d_Md_foretold_70 ?_
  refine hb_ti 7 (by decide +kernel) ?_
  refine lv_bipush (v := 100) hx hb d_Md_foretold_71 (by decide +kernel) ?_
  refine lv_imul hx hb d_Md_foretold_73 ?_
  refine hb_ti 700 (by decide +kernel) ?_
  refine lv_istore (lv' := [(6, .int 700), (5, .int 7), (7, .int 0), (3, .long 0), (1, .long 0), (0, .ref (a 0))]) hx hb d_Md_foretold_74 hl (by decide) rfl (fun ls hl => ?_)
  refine lv_lload_n hx hb d_Md_foretold_76 rfl (lv_at hl 3 rfl) ?_
  refine lv_lload_n hx hb d_Md_foretold_77 rfl (lv_at hl 4 rfl) ?_
  refine lv_ladd hx hb d_Md_foretold_78 ?_
  refine hb_tl 0 (by decide +kernel) ?_
  refine lv_lstore_n (lv' := [(3, .long 0), (6, .int 700), (5, .int 7), (7, .int 0), (1, .long 0), (0, .ref (a 0))]) hx hb d_Md_foretold_79 rfl hl (by decide) rfl (fun ls hl => ?_)
  refine lv_iconst (v := 0) hx hb d_Md_foretold_80 (by decide +kernel) ?_
  refine lv_istore (lv' := [(7, .int 0), (3, .long 0), (6, .int 700), (5, .int 7), (1, .long 0), (0, .ref (a 0))]) hx hb d_Md_foretold_81 hl (by decide) rfl (fun ls hl => ?_)
  refine lv_iload hx hb d_Md_foretold_83 (lv_at hl 0 rfl) ?_
  refine lv_aload_n hx hb d_Md_foretold_85 rfl (lv_at hl 5 rfl) ?_
  refine va_get (D := (dC, dI)) (ci := 7) (v := .int 0) (C := R_Md) (T := F_Md) (N := 64) hx hb htb i_Md hown hK hP 0 rfl rfl 60 (by decide) (htb (.fieldLink R_Md 323 "WaterMenModel" "pensioners" "I") tw_202) (fun _ h9 => h9) rfl d_Md_foretold_86 ?_
  refine lv_icmp_ge (tgt := 140) hx hb d_Md_foretold_89 (by decide) (fun _ => ?_) (fun h => absurd (by decide +kernel) h)
  refine lv_iinc (v := 8) (lv' := [(5, .int 8), (7, .int 0), (3, .long 0), (6, .int 700), (1, .long 0), (0, .ref (a 0))]) hx hb d_Md_foretold_140 hl (k := 3) rfl (by decide +kernel) (by decide) rfl (fun ls hl => ?_)
  refine lv_goto (tgt := 54) hx hb d_Md_foretold_143 (by decide) ?_
  refine lv_iload hx hb d_Md_foretold_54 (lv_at hl 0 rfl) ?_
  refine lv_bipush (v := 40) hx hb d_Md_foretold_56 (by decide +kernel) ?_
  refine lv_icmp_gt (tgt := 146) hx hb d_Md_foretold_58 (by decide) (fun h => absurd h (by decide +kernel)) (fun _ => ?_)
  refine lv_aload_n hx hb d_Md_foretold_61 rfl (lv_at hl 5 rfl) ?_
  refine vp_callSi (va_Run.run (va_runV (As := []) (rest := []) ⟨hx, hb, hml, hown, htb⟩ (c_Md_today l dC dI a k) (cwV 0 htb (gd_V tw_159 tw_160 tw_161 tw_138 tw_158) rfl rfl rfl (by decide +kernel) ⟨Nat.le_of_ble_eq_true rfl, Nat.le_of_ble_eq_true rfl⟩) ⟨pr_blind, va_recv hK hP (ci := 7) (q0 := 0) rfl rfl, pr_pre hP hK hN⟩ rfl rfl hl.1 rfl (lv_room (Nat.le_of_ble_eq_true rfl)) d_Md_foretold_62 ⟨Nat.le_of_ble_eq_true rfl, Nat.le_of_ble_eq_true rfl⟩)) (fun r er => ?_)
  subst er
  refine hb_ti 0 rfl ?_
  refine lv_bipush (v := 100) hx hb d_Md_foretold_65 (by decide +kernel) ?_
  refine lv_idiv hx hb d_Md_foretold_67 (by decide) ?_
  refine hb_ti 0 (by decide +kernel) ?_
  refine lv_iload hx hb d_Md_foretold_68 (lv_at hl 0 rfl) ?_
  refine lv_iadd hx hb d_Md_foretold_70 ?_
  refine hb_ti 8 (by decide +kernel) ?_
  refine lv_bipush (v := 100) hx hb d_Md_foretold_71 (by decide +kernel) ?_
  refine lv_imul hx hb d_Md_foretold_73 ?_
  refine hb_ti 800 (by decide +kernel) ?_
  refine lv_istore (lv' := [(6, .int 800), (5, .int 8), (7, .int 0), (3, .long 0), (1, .long 0), (0, .ref (a 0))]) hx hb d_Md_foretold_74 hl (by decide) rfl (fun ls hl => ?_)
  refine lv_lload_n hx hb d_Md_foretold_76 rfl (lv_at hl 3 rfl) ?_
  refine lv_lload_n hx hb d_Md_foretold_77 rfl (lv_at hl 4 rfl) ?_
  refine lv_ladd hx hb d_Md_foretold_78 ?_
  refine hb_tl 0 (by decide +kernel) ?_
  refine lv_lstore_n (lv' := [(3, .long 0), (6, .int 800), (5, .int 8), (7, .int 0), (1, .long 0), (0, .ref (a 0))]) hx hb d_Md_foretold_79 rfl hl (by decide) rfl (fun ls hl => ?_)
  refine lv_iconst (v := 0) hx hb d_Md_foretold_80 (by decide +kernel) ?_
  refine lv_istore (lv' := [(7, .int 0), (3, .long 0), (6, .int 800), (5, .int 8), (1, .long 0), (0, .ref (a 0))]) hx hb d_Md_foretold_81 hl (by decide) rfl (fun ls hl => ?_)
  refine lv_iload hx hb d_Md_foretold_83 (lv_at hl 0 rfl) ?_
  refine lv_aload_n hx hb d_Md_foretold_85 rfl (lv_at hl 5 rfl) ?_
  refine va_get (D := (dC, dI)) (ci := 7) (v := .int 0) (C := R_Md) (T := F_Md) (N := 64) hx hb htb i_Md hown hK hP 0 rfl rfl 60 (by decide) (htb (.fieldLink R_Md 323 "WaterMenModel" "pensioners" "I") tw_202) (fun _ h9 => h9) rfl d_Md_foretold_86 ?_
  refine lv_icmp_ge (tgt := 140) hx hb d_Md_foretold_89 (by decide) (fun _ => ?_) (fun h => absurd (by decide +kernel) h)
  refine lv_iinc (v := 9) (lv' := [(5, .int 9), (7, .int 0), (3, .long 0), (6, .int 800), (1, .long 0), (0, .ref (a 0))]) hx hb d_Md_foretold_140 hl (k := 3) rfl (by decide +kernel) (by decide) rfl (fun ls hl => ?_)
  refine lv_goto (tgt := 54) hx hb d_Md_foretold_143 (by decide) ?_
  refine lv_iload hx hb d_Md_foretold_54 (lv_at hl 0 rfl) ?_
  refine lv_bipush (v := 40) hx hb d_Md_foretold_56 (by decide +kernel) ?_
  refine lv_icmp_gt (tgt := 146) hx hb d_Md_foretold_58 (by decide) (fun h => absurd h (by decide +kernel)) (fun _ => ?_)
  refine lv_aload_n hx hb d_Md_foretold_61 rfl (lv_at hl 5 rfl) ?_
  refine vp_callSi (va_Run.run (va_runV (As := []) (rest := []) ⟨hx, hb, hml, hown, htb⟩ (c_Md_today l dC dI a k) (cwV 0 htb (gd_V tw_159 tw_160 tw_161 tw_138 tw_158) rfl rfl rfl (by decide +kernel) ⟨Nat.le_of_ble_eq_true rfl, Nat.le_of_ble_eq_true rfl⟩) ⟨pr_blind, va_recv hK hP (ci := 7) (q0 := 0) rfl rfl, pr_pre hP hK hN⟩ rfl rfl hl.1 rfl (lv_room (Nat.le_of_ble_eq_true rfl)) d_Md_foretold_62 ⟨Nat.le_of_ble_eq_true rfl, Nat.le_of_ble_eq_true rfl⟩)) (fun r er => ?_)
  subst er
  refine hb_ti 0 rfl ?_
  refine lv_bipush (v := 100) hx hb d_Md_foretold_65 (by decide +kernel) ?_
  refine lv_idiv hx hb d_Md_foretold_67 (by decide) ?_
  refine hb_ti 0 (by decide +kernel) ?_
  refine lv_iload hx hb d_Md_foretold_68 (lv_at hl 0 rfl) ?_
  refine lv_iadd hx hb d_Md_foretold_70 ?_
  refine hb_ti 9 (by decide +kernel) ?_
  refine lv_bipush (v := 100) hx hb d_Md_foretold_71 (by decide +kernel) ?_
  refine lv_imul hx hb d_Md_foretold_73 ?_
  refine hb_ti 900 (by decide +kernel) ?_
  refine lv_istore (lv' := [(6, .int 900), (5, .int 9), (7, .int 0), (3, .long 0), (1, .long 0), (0, .ref (a 0))]) hx hb d_Md_foretold_74 hl (by decide) rfl (fun ls hl => ?_)
  refine lv_lload_n hx hb d_Md_foretold_76 rfl (lv_at hl 3 rfl) ?_
  refine lv_lload_n hx hb d_Md_foretold_77 rfl (lv_at hl 4 rfl) ?_
  refine lv_ladd hx hb d_Md_foretold_78 ?_
  refine hb_tl 0 (by decide +kernel) ?_
  refine lv_lstore_n (lv' := [(3, .long 0), (6, .int 900), (5, .int 9), (7, .int 0), (1, .long 0), (0, .ref (a 0))]) hx hb d_Md_foretold_79 rfl hl (by decide) rfl (fun ls hl => ?_)
  refine lv_iconst (v := 0) hx hb d_Md_foretold_80 (by decide +kernel) ?_
  refine lv_istore (lv' := [(7, .int 0), (3, .long 0), (6, .int 900), (5, .int 9), (1, .long 0), (0, .ref (a 0))]) hx hb d_Md_foretold_81 hl (by decide) rfl (fun ls hl => ?_)
  refine lv_iload hx hb d_Md_foretold_83 (lv_at hl 0 rfl) ?_
  refine lv_aload_n hx hb d_Md_foretold_85 rfl (lv_at hl 5 rfl) ?_
  refine va_get (D := (dC, dI)) (ci := 7) (v := .int 0) (C := R_Md) (T := F_Md) (N := 64) hx hb htb i_Md hown hK hP 0 rfl rfl 60 (by decide) (htb (.fieldLink R_Md 323 "WaterMenModel" "pensioners" "I") tw_202) (fun _ h9 => h9) rfl d_Md_foretold_86 ?_
  refine lv_icmp_ge (tgt := 140) hx hb d_Md_foretold_89 (by decide) (fun _ => ?_) (fun h => absurd (by decide +kernel) h)
  refine lv_iinc (v := 10) (lv' := [(5, .int 10), (7, .int 0), (3, .long 0), (6, .int 900), (1, .long 0), (0, .ref (a 0))]) hx hb d_Md_foretold_140 hl (k := 3) rfl (by decide +kernel) (by decide) rfl (fun ls hl => ?_)
  refine lv_goto (tgt := 54) hx hb d_Md_foretold_143 (by decide) ?_
  refine lv_iload hx hb d_Md_foretold_54 (lv_at hl 0 rfl) ?_
  refine lv_bipush (v := 40) hx hb d_Md_foretold_56 (by decide +kernel) ?_
  refine lv_icmp_gt (tgt := 146) hx hb d_Md_foretold_58 (by decide) (fun h => absurd h (by decide +kernel)) (fun _ => ?_)
  refine lv_aload_n hx hb d_Md_foretold_61 rfl (lv_at hl 5 rfl) ?_
  refine vp_callSi (va_Run.run (va_runV (As := []) (rest := []) ⟨hx, hb, hml, hown, htb⟩ (c_Md_today l dC dI a k) (cwV 0 htb (gd_V tw_159 tw_160 tw_161 tw_138 tw_158) rfl rfl rfl (by decide +kernel) ⟨Nat.le_of_ble_eq_true rfl, Nat.le_of_ble_eq_true rfl⟩) ⟨pr_blind, va_recv hK hP (ci := 7) (q0 := 0) rfl rfl, pr_pre hP hK hN⟩ rfl rfl hl.1 rfl (lv_room (Nat.le_of_ble_eq_true rfl)) d_Md_foretold_62 ⟨Nat.le_of_ble_eq_true rfl, Nat.le_of_ble_eq_true rfl⟩)) (fun r er => ?_)
  subst er
  refine hb_ti 0 rfl ?_
  refine lv_bipush (v := 100) hx hb d_Md_foretold_65 (by decide +kernel) ?_
  refine lv_idiv hx hb d_Md_foretold_67 (by decide) ?_
  refine hb_ti 0 (by decide +kernel) ?_
  refine lv_iload hx hb d_Md_foretold_68 (lv_at hl 0 rfl) ?_
  refine lv_iadd hx hb d_Md_foretold_70 ?_
  refine hb_ti 10 (by decide +kernel) ?_
  refine lv_bipush (v := 100) hx hb d_Md_foretold_71 (by decide +kernel) ?_
  refine lv_imul hx hb d_Md_foretold_73 ?_
  refine hb_ti 1000 (by decide +kernel) ?_
  refine lv_istore (lv' := [(6, .int 1000), (5, .int 10), (7, .int 0), (3, .long 0), (1, .long 0), (0, .ref (a 0))]) hx hb d_Md_foretold_74 hl (by decide) rfl (fun ls hl => ?_)
  refine lv_lload_n hx hb d_Md_foretold_76 rfl (lv_at hl 3 rfl) ?_
  refine lv_lload_n hx hb d_Md_foretold_77 rfl (lv_at hl 4 rfl) ?_
  refine lv_ladd hx hb d_Md_foretold_78 ?_
  refine hb_tl 0 (by decide +kernel) ?_
  refine lv_lstore_n (lv' := [(3, .long 0), (6, .int 1000), (5, .int 10), (7, .int 0), (1, .long 0), (0, .ref (a 0))]) hx hb d_Md_foretold_79 rfl hl (by decide) rfl (fun ls hl => ?_)
  refine lv_iconst (v := 0) hx hb d_Md_foretold_80 (by decide +kernel) ?_
  refine lv_istore (lv' := [(7, .int 0), (3, .long 0), (6, .int 1000), (5, .int 10), (1, .long 0), (0, .ref (a 0))]) hx hb d_Md_foretold_81 hl (by decide) rfl (fun ls hl => ?_)
  refine lv_iload hx hb d_Md_foretold_83 (lv_at hl 0 rfl) ?_
  refine lv_aload_n hx hb d_Md_foretold_85 rfl (lv_at hl 5 rfl) ?_
  refine va_get (D := (dC, dI)) (ci := 7) (v := .int 0) (C := R_Md) (T := F_Md) (N := 64) hx hb htb i_Md hown hK hP 0 rfl rfl 60 (by decide) (htb (.fieldLink R_Md 323 "WaterMenModel" "pensioners" "I") tw_202) (fun _ h9 => h9) rfl d_Md_foretold_86 ?_
  refine lv_icmp_ge (tgt := 140) hx hb d_Md_foretold_89 (by decide) (fun _ => ?_) (fun h => absurd (by decide +kernel) h)
  refine lv_iinc (v := 11) (lv' := [(5, .int 11), (7, .int 0), (3, .long 0), (6, .int 1000), (1, .long 0), (0, .ref (a 0))]) hx hb d_Md_foretold_140 hl (k := 3) rfl (by decide +kernel) (by decide) rfl (fun ls hl => ?_)
  refine lv_goto (tgt := 54) hx hb d_Md_foretold_143 (by decide) ?_
  refine lv_iload hx hb d_Md_foretold_54 (lv_at hl 0 rfl) ?_
  refine lv_bipush (v := 40) hx hb d_Md_foretold_56 (by decide +kernel) ?_
  refine lv_icmp_gt (tgt := 146) hx hb d_Md_foretold_58 (by decide) (fun h => absurd h (by decide +kernel)) (fun _ => ?_)
  refine lv_aload_n hx hb d_Md_foretold_61 rfl (lv_at hl 5 rfl) ?_
  refine vp_callSi (va_Run.run (va_runV (As := []) (rest := []) ⟨hx, hb, hml, hown, htb⟩ (c_Md_today l dC dI a k) (cwV 0 htb (gd_V tw_159 tw_160 tw_161 tw_138 tw_158) rfl rfl rfl (by decide +kernel) ⟨Nat.le_of_ble_eq_true rfl, Nat.le_of_ble_eq_true rfl⟩) ⟨pr_blind, va_recv hK hP (ci := 7) (q0 := 0) rfl rfl, pr_pre hP hK hN⟩ rfl rfl hl.1 rfl (lv_room (Nat.le_of_ble_eq_true rfl)) d_Md_foretold_62 ⟨Nat.le_of_ble_eq_true rfl, Nat.le_of_ble_eq_true rfl⟩)) (fun r er => ?_)
  subst er
  refine hb_ti 0 rfl ?_
  refine lv_bipush (v := 100) hx hb d_Md_foretold_65 (by decide +kernel) ?_
  refine lv_idiv hx hb d_Md_foretold_67 (by decide) ?_
  refine hb_ti 0 (by decide +kernel) ?_
  refine lv_iload hx hb d_Md_foretold_68 (lv_at hl 0 rfl) ?_
  refine lv_iadd hx hb d_Md_foretold_70 ?_
  refine hb_ti 11 (by decide +kernel) ?_
  refine lv_bipush (v := 100) hx hb d_Md_foretold_71 (by decide +kernel) ?_
  refine lv_imul hx hb d_Md_foretold_73 ?_
  refine hb_ti 1100 (by decide +kernel) ?_
  refine lv_istore (lv' := [(6, .int 1100), (5, .int 11), (7, .int 0), (3, .long 0), (1, .long 0), (0, .ref (a 0))]) hx hb d_Md_foretold_74 hl (by decide) rfl (fun ls hl => ?_)
  refine lv_lload_n hx hb d_Md_foretold_76 rfl (lv_at hl 3 rfl) ?_
  refine lv_lload_n hx hb d_Md_foretold_77 rfl (lv_at hl 4 rfl) ?_
  refine lv_ladd hx hb d_Md_foretold_78 ?_
  refine hb_tl 0 (by decide +kernel) ?_
  refine lv_lstore_n (lv' := [(3, .long 0), (6, .int 1100), (5, .int 11), (7, .int 0), (1, .long 0), (0, .ref (a 0))]) hx hb d_Md_foretold_79 rfl hl (by decide) rfl (fun ls hl => ?_)
  refine lv_iconst (v := 0) hx hb d_Md_foretold_80 (by decide +kernel) ?_
  refine lv_istore (lv' := [(7, .int 0), (3, .long 0), (6, .int 1100), (5, .int 11), (1, .long 0), (0, .ref (a 0))]) hx hb d_Md_foretold_81 hl (by decide) rfl (fun ls hl => ?_)
  refine lv_iload hx hb d_Md_foretold_83 (lv_at hl 0 rfl) ?_
  refine lv_aload_n hx hb d_Md_foretold_85 rfl (lv_at hl 5 rfl) ?_
  refine va_get (D := (dC, dI)) (ci := 7) (v := .int 0) (C := R_Md) (T := F_Md) (N := 64) hx hb htb i_Md hown hK hP 0 rfl rfl 60 (by decide) (htb (.fieldLink R_Md 323 "WaterMenModel" "pensioners" "I") tw_202) (fun _ h9 => h9) rfl d_Md_foretold_86 ?_
  refine lv_icmp_ge (tgt := 140) hx hb d_Md_foretold_89 (by decide) (fun _ => ?_) (fun h => absurd (by decide +kernel) h)
  refine lv_iinc (v := 12) (lv' := [(5, .int 12), (7, .int 0), (3, .long 0), (6, .int 1100), (1, .long 0), (0, .ref (a 0))]) hx hb d_Md_foretold_140 hl (k := 3) rfl (by decide +kernel) (by decide) rfl (fun ls hl => ?_)
  refine lv_goto (tgt := 54) hx hb d_Md_foretold_143 (by decide) ?_
  refine lv_iload hx hb d_Md_foretold_54 (lv_at hl 0 rfl) ?_
  refine lv_bipush (v := 40) hx hb d_Md_foretold_56 (by decide +kernel) ?_
  refine lv_icmp_gt (tgt := 146) hx hb d_Md_foretold_58 (by decide) (fun h => absurd h (by decide +kernel)) (fun _ => ?_)
  refine lv_aload_n hx hb d_Md_foretold_61 rfl (lv_at hl 5 rfl) ?_
  refine vp_callSi (va_Run.run (va_runV (As := []) (rest := []) ⟨hx, hb, hml, hown, htb⟩ (c_Md_today l dC dI a k) (cwV 0 htb (gd_V tw_159 tw_160 tw_161 tw_138 tw_158) rfl rfl rfl (by decide +kernel) ⟨Nat.le_of_ble_eq_true rfl, Nat.le_of_ble_eq_true rfl⟩) ⟨pr_blind, va_recv hK hP (ci := 7) (q0 := 0) rfl rfl, pr_pre hP hK hN⟩ rfl rfl hl.1 rfl (lv_room (Nat.le_of_ble_eq_true rfl)) d_Md_foretold_62 ⟨Nat.le_of_ble_eq_true rfl, Nat.le_of_ble_eq_true rfl⟩)) (fun r er => ?_)
  subst er
  refine hb_ti 0 rfl ?_
  refine lv_bipush (v := 100) hx hb d_Md_foretold_65 (by decide +kernel) ?_
  refine lv_idiv hx hb d_Md_foretold_67 (by decide) ?_
  refine hb_ti 0 (by decide +kernel) ?_
  refine lv_iload hx hb d_Md_foretold_68 (lv_at hl 0 rfl) ?_
  refine lv_iadd hx hb d_Md_foretold_70 ?_
  refine hb_ti 12 (by decide +kernel) ?_
  refine lv_bipush (v := 100) hx hb d_Md_foretold_71 (by decide +kernel) ?_
  refine lv_imul hx hb d_Md_foretold_73 ?_
  refine hb_ti 1200 (by decide +kernel) ?_
  refine lv_istore (lv' := [(6, .int 1200), (5, .int 12), (7, .int 0), (3, .long 0), (1, .long 0), (0, .ref (a 0))]) hx hb d_Md_foretold_74 hl (by decide) rfl (fun ls hl => ?_)
  refine lv_lload_n hx hb d_Md_foretold_76 rfl (lv_at hl 3 rfl) ?_
  refine lv_lload_n hx hb d_Md_foretold_77 rfl (lv_at hl 4 rfl) ?_
  refine lv_ladd hx hb d_Md_foretold_78 ?_
  refine hb_tl 0 (by decide +kernel) ?_
  refine lv_lstore_n (lv' := [(3, .long 0), (6, .int 1200), (5, .int 12), (7, .int 0), (1, .long 0), (0, .ref (a 0))]) hx hb d_Md_foretold_79 rfl hl (by decide) rfl (fun ls hl => ?_)
  refine lv_iconst (v := 0) hx hb d_Md_foretold_80 (by decide +kernel) ?_
  refine lv_istore (lv' := [(7, .int 0), (3, .long 0), (6, .int 1200), (5, .int 12), (1, .long 0), (0, .ref (a 0))]) hx hb d_Md_foretold_81 hl (by decide) rfl (fun ls hl => ?_)
  refine lv_iload hx hb d_Md_foretold_83 (lv_at hl 0 rfl) ?_
  refine lv_aload_n hx hb d_Md_foretold_85 rfl (lv_at hl 5 rfl) ?_
  refine va_get (D := (dC, dI)) (ci := 7) (v := .int 0) (C := R_Md) (T := F_Md) (N := 64) hx hb htb i_Md hown hK hP 0 rfl rfl 60 (by decide) (htb (.fieldLink R_Md 323 "WaterMenModel" "pensioners" "I") tw_202) (fun _ h9 => h9) rfl d_Md_foretold_86 ?_
  refine lv_icmp_ge (tgt := 140) hx hb d_Md_foretold_89 (by decide) (fun _ => ?_) (fun h => absurd (by decide +kernel) h)
  refine lv_iinc (v := 13) (lv' := [(5, .int 13), (7, .int 0), (3, .long 0), (6, .int 1200), (1, .long 0), (0, .ref (a 0))]) hx hb d_Md_foretold_140 hl (k := 3) rfl (by decide +kernel) (by decide) rfl (fun ls hl => ?_)
  refine lv_goto (tgt := 54) hx hb d_Md_foretold_143 (by decide) ?_
  refine lv_iload hx hb d_Md_foretold_54 (lv_at hl 0 rfl) ?_
  refine lv_bipush (v := 40) hx hb d_Md_foretold_56 (by decide +kernel) ?_
  refine lv_icmp_gt (tgt := 146) hx hb d_Md_foretold_58 (by decide) (fun h => absurd h (by decide +kernel)) (fun _ => ?_)
  refine lv_aload_n hx hb d_Md_foretold_61 rfl (lv_at hl 5 rfl) ?_
  refine vp_callSi (va_Run.run (va_runV (As := []) (rest := []) ⟨hx, hb, hml, hown, htb⟩ (c_Md_today l dC dI a k) (cwV 0 htb (gd_V tw_159 tw_160 tw_161 tw_138 tw_158) rfl rfl rfl (by decide +kernel) ⟨Nat.le_of_ble_eq_true rfl, Nat.le_of_ble_eq_true rfl⟩) ⟨pr_blind, va_recv hK hP (ci := 7) (q0 := 0) rfl rfl, pr_pre hP hK hN⟩ rfl rfl hl.1 rfl (lv_room (Nat.le_of_ble_eq_true rfl)) d_Md_foretold_62 ⟨Nat.le_of_ble_eq_true rfl, Nat.le_of_ble_eq_true rfl⟩)) (fun r er => ?_)
  subst er
  refine hb_ti 0 rfl ?_
  refine lv_bipush (v := 100) hx hb d_Md_foretold_65 (by decide +kernel) ?_
  refine lv_idiv hx hb d_Md_foretold_67 (by decide) ?_
  refine hb_ti 0 (by decide +kernel) ?_
  refine lv_iload hx hb d_Md_foretold_68 (lv_at hl 0 rfl) ?_
  refine lv_iadd hx hb d_Md_foretold_70 ?_
  refine hb_ti 13 (by decide +kernel) ?_
  refine lv_bipush (v := 100) hx hb d_Md_foretold_71 (by decide +kernel) ?_
  refine lv_imul hx hb d_Md_foretold_73 ?_
  refine hb_ti 1300 (by decide +kernel) ?_
  refine lv_istore (lv' := [(6, .int 1300), (5, .int 13), (7, .int 0), (3, .long 0), (1, .long 0), (0, .ref (a 0))]) hx hb d_Md_foretold_74 hl (by decide) rfl (fun ls hl => ?_)
  refine lv_lload_n hx hb d_Md_foretold_76 rfl (lv_at hl 3 rfl) ?_
  refine lv_lload_n hx hb d_Md_foretold_77 rfl (lv_at hl 4 rfl) ?_
  refine lv_ladd hx hb d_Md_foretold_78 ?_
  refine hb_tl 0 (by decide +kernel) ?_
  refine lv_lstore_n (lv' := [(3, .long 0), (6, .int 1300), (5, .int 13), (7, .int 0), (1, .long 0), (0, .ref (a 0))]) hx hb d_Md_foretold_79 rfl hl (by decide) rfl (fun ls hl => ?_)
  refine lv_iconst (v := 0) hx hb d_Md_foretold_80 (by decide +kernel) ?_
  refine lv_istore (lv' := [(7, .int 0), (3, .long 0), (6, .int 1300), (5, .int 13), (1, .long 0), (0, .ref (a 0))]) hx hb d_Md_foretold_81 hl (by decide) rfl (fun ls hl => ?_)
  refine lv_iload hx hb d_Md_foretold_83 (lv_at hl 0 rfl) ?_
  refine lv_aload_n hx hb d_Md_foretold_85 rfl (lv_at hl 5 rfl) ?_
  refine va_get (D := (dC, dI)) (ci := 7) (v := .int 0) (C := R_Md) (T := F_Md) (N := 64) hx hb htb i_Md hown hK hP 0 rfl rfl 60 (by decide) (htb (.fieldLink R_Md 323 "WaterMenModel" "pensioners" "I") tw_202) (fun _ h9 => h9) rfl d_Md_foretold_86 ?_
  refine lv_icmp_ge (tgt := 140) hx hb d_Md_foretold_89 (by decide) (fun _ => ?_) (fun h => absurd (by decide +kernel) h)
  refine lv_iinc (v := 14) (lv' := [(5, .int 14), (7, .int 0), (3, .long 0), (6, .int 1300), (1, .long 0), (0, .ref (a 0))]) hx hb d_Md_foretold_140 hl (k := 3) rfl (by decide +kernel) (by decide) rfl (fun ls hl => ?_)
  refine lv_goto (tgt := 54) hx hb d_Md_foretold_143 (by decide) ?_
  refine lv_iload hx hb d_Md_foretold_54 (lv_at hl 0 rfl) ?_
  refine lv_bipush (v := 40) hx hb d_Md_foretold_56 (by decide +kernel) ?_
  refine lv_icmp_gt (tgt := 146) hx hb d_Md_foretold_58 (by decide) (fun h => absurd h (by decide +kernel)) (fun _ => ?_)
  refine lv_aload_n hx hb d_Md_foretold_61 rfl (lv_at hl 5 rfl) ?_
  refine vp_callSi (va_Run.run (va_runV (As := []) (rest := []) ⟨hx, hb, hml, hown, htb⟩ (c_Md_today l dC dI a k) (cwV 0 htb (gd_V tw_159 tw_160 tw_161 tw_138 tw_158) rfl rfl rfl (by decide +kernel) ⟨Nat.le_of_ble_eq_true rfl, Nat.le_of_ble_eq_true rfl⟩) ⟨pr_blind, va_recv hK hP (ci := 7) (q0 := 0) rfl rfl, pr_pre hP hK hN⟩ rfl rfl hl.1 rfl (lv_room (Nat.le_of_ble_eq_true rfl)) d_Md_foretold_62 ⟨Nat.le_of_ble_eq_true rfl, Nat.le_of_ble_eq_true rfl⟩)) (fun r er => ?_)
  subst er
  refine hb_ti 0 rfl ?_
  refine lv_bipush (v := 100) hx hb d_Md_foretold_65 (by decide +kernel) ?_
  refine lv_idiv hx hb d_Md_foretold_67 (by decide) ?_
  refine hb_ti 0 (by decide +kernel) ?_
  refine lv_iload hx hb d_Md_foretold_68 (lv_at hl 0 rfl) ?_
  refine lv_iadd hx hb d_Md_foretold_70 ?_
  refine hb_ti 14 (by decide +kernel) ?_
  refine lv_bipush (v := 100) hx hb d_Md_foretold_71 (by decide +kernel) ?_
  refine lv_imul hx hb d_Md_foretold_73 ?_
  refine hb_ti 1400 (by decide +kernel) ?_
  refine lv_istore (lv' := [(6, .int 1400), (5, .int 14), (7, .int 0), (3, .long 0), (1, .long 0), (0, .ref (a 0))]) hx hb d_Md_foretold_74 hl (by decide) rfl (fun ls hl => ?_)
  refine lv_lload_n hx hb d_Md_foretold_76 rfl (lv_at hl 3 rfl) ?_
  refine lv_lload_n hx hb d_Md_foretold_77 rfl (lv_at hl 4 rfl) ?_
  refine lv_ladd hx hb d_Md_foretold_78 ?_
  refine hb_tl 0 (by decide +kernel) ?_
  refine lv_lstore_n (lv' := [(3, .long 0), (6, .int 1400), (5, .int 14), (7, .int 0), (1, .long 0), (0, .ref (a 0))]) hx hb d_Md_foretold_79 rfl hl (by decide) rfl (fun ls hl => ?_)
  refine lv_iconst (v := 0) hx hb d_Md_foretold_80 (by decide +kernel) ?_
  refine lv_istore (lv' := [(7, .int 0), (3, .long 0), (6, .int 1400), (5, .int 14), (1, .long 0), (0, .ref (a 0))]) hx hb d_Md_foretold_81 hl (by decide) rfl (fun ls hl => ?_)
  refine lv_iload hx hb d_Md_foretold_83 (lv_at hl 0 rfl) ?_
  refine lv_aload_n hx hb d_Md_foretold_85 rfl (lv_at hl 5 rfl) ?_
  refine va_get (D := (dC, dI)) (ci := 7) (v := .int 0) (C := R_Md) (T := F_Md) (N := 64) hx hb htb i_Md hown hK hP 0 rfl rfl 60 (by decide) (htb (.fieldLink R_Md 323 "WaterMenModel" "pensioners" "I") tw_202) (fun _ h9 => h9) rfl d_Md_foretold_86 ?_
  refine lv_icmp_ge (tgt := 140) hx hb d_Md_foretold_89 (by decide) (fun _ => ?_) (fun h => absurd (by decide +kernel) h)
  refine lv_iinc (v := 15) (lv' := [(5, .int 15), (7, .int 0), (3, .long 0), (6, .int 1400), (1, .long 0), (0, .ref (a 0))]) hx hb d_Md_foretold_140 hl (k := 3) rfl (by decide +kernel) (by decide) rfl (fun ls hl => ?_)
  refine lv_goto (tgt := 54) hx hb d_Md_foretold_143 (by decide) ?_
  refine lv_iload hx hb d_Md_foretold_54 (lv_at hl 0 rfl) ?_
  refine lv_bipush (v := 40) hx hb d_Md_foretold_56 (by decide +kernel) ?_
  refine lv_icmp_gt (tgt := 146) hx hb d_Md_foretold_58 (by decide) (fun h => absurd h (by decide +kernel)) (fun _ => ?_)
  refine lv_aload_n hx hb d_Md_foretold_61 rfl (lv_at hl 5 rfl) ?_
  refine vp_callSi (va_Run.run (va_runV (As := []) (rest := []) ⟨hx, hb, hml, hown, htb⟩ (c_Md_today l dC dI a k) (cwV 0 htb (gd_V tw_159 tw_160 tw_161 tw_138 tw_158) rfl rfl rfl (by decide +kernel) ⟨Nat.le_of_ble_eq_true rfl, Nat.le_of_ble_eq_true rfl⟩) ⟨pr_blind, va_recv hK hP (ci := 7) (q0 := 0) rfl rfl, pr_pre hP hK hN⟩ rfl rfl hl.1 rfl (lv_room (Nat.le_of_ble_eq_true rfl)) d_Md_foretold_62 ⟨Nat.le_of_ble_eq_true rfl, Nat.le_of_ble_eq_true rfl⟩)) (fun r er => ?_)
  subst er
  refine hb_ti 0 rfl ?_
  refine lv_bipush (v := 100) hx hb d_Md_foretold_65 (by decide +kernel) ?_
  refine lv_idiv hx hb d_Md_foretold_67 (by decide) ?_
  refine hb_ti 0 (by decide +kernel) ?_
  refine lv_iload hx hb d_Md_foretold_68 (lv_at hl 0 rfl) ?_
  refine lv_iadd hx hb d_Md_foretold_70 ?_
  refine hb_ti 15 (by decide +kernel) ?_
  refine lv_bipush (v := 100) hx hb d_Md_foretold_71 (by decide +kernel) ?_
  refine lv_imul hx hb d_Md_foretold_73 ?_
  refine hb_ti 1500 (by decide +kernel) ?_
  refine lv_istore (lv' := [(6, .int 1500), (5, .int 15), (7, .int 0), (3, .long 0), (1, .long 0), (0, .ref (a 0))]) hx hb d_Md_foretold_74 hl (by decide) rfl (fun ls hl => ?_)
  refine lv_lload_n hx hb d_Md_foretold_76 rfl (lv_at hl 3 rfl) ?_
  refine lv_lload_n hx hb d_Md_foretold_77 rfl (lv_at hl 4 rfl) ?_
  refine lv_ladd hx hb d_Md_foretold_78 ?_
  refine hb_tl 0 (by decide +kernel) ?_
  refine lv_lstore_n (lv' := [(3, .long 0), (6, .int 1500), (5, .int 15), (7, .int 0), (1, .long 0), (0, .ref (a 0))]) hx hb d_Md_foretold_79 rfl hl (by decide) rfl (fun ls hl => ?_)
  refine lv_iconst (v := 0) hx hb d_Md_foretold_80 (by decide +kernel) ?_
  refine lv_istore (lv' := [(7, .int 0), (3, .long 0), (6, .int 1500), (5, .int 15), (1, .long 0), (0, .ref (a 0))]) hx hb d_Md_foretold_81 hl (by decide) rfl (fun ls hl => ?_)
  refine lv_iload hx hb d_Md_foretold_83 (lv_at hl 0 rfl) ?_
  refine lv_aload_n hx hb d_Md_foretold_85 rfl (lv_at hl 5 rfl) ?_
  refine va_get (D := (dC, dI)) (ci := 7) (v := .int 0) (C := R_Md) (T := F_Md) (N := 64) hx hb htb i_Md hown hK hP 0 rfl rfl 60 (by decide) (htb (.fieldLink R_Md 323 "WaterMenModel" "pensioners" "I") tw_202) (fun _ h9 => h9) rfl d_Md_foretold_86 ?_
  refine lv_icmp_ge (tgt := 140) hx hb d_Md_foretold_89 (by decide) (fun _ => ?_) (fun h => absurd (by decide +kernel) h)
  refine lv_iinc (v := 16) (lv' := [(5, .int 16), (7, .int 0), (3, .long 0), (6, .int 1500), (1, .long 0), (0, .ref (a 0))]) hx hb d_Md_foretold_140 hl (k := 3) rfl (by decide +kernel) (by decide) rfl (fun ls hl => ?_)
  refine lv_goto (tgt := 54) hx hb d_Md_foretold_143 (by decide) ?_
  refine lv_iload hx hb d_Md_foretold_54 (lv_at hl 0 rfl) ?_
  refine lv_bipush (v := 40) hx hb d_Md_foretold_56 (by decide +kernel) ?_
  refine lv_icmp_gt (tgt := 146) hx hb d_Md_foretold_58 (by decide) (fun h => absurd h (by decide +kernel)) (fun _ => ?_)
  refine lv_aload_n hx hb d_Md_foretold_61 rfl (lv_at hl 5 rfl) ?_
  refine vp_callSi (va_Run.run (va_runV (As := []) (rest := []) ⟨hx, hb, hml, hown, htb⟩ (c_Md_today l dC dI a k) (cwV 0 htb (gd_V tw_159 tw_160 tw_161 tw_138 tw_158) rfl rfl rfl (by decide +kernel) ⟨Nat.le_of_ble_eq_true rfl, Nat.le_of_ble_eq_true rfl⟩) ⟨pr_blind, va_recv hK hP (ci := 7) (q0 := 0) rfl rfl, pr_pre hP hK hN⟩ rfl rfl hl.1 rfl (lv_room (Nat.le_of_ble_eq_true rfl)) d_Md_foretold_62 ⟨Nat.le_of_ble_eq_true rfl, Nat.le_of_ble_eq_true rfl⟩)) (fun r er => ?_)
  subst er
  refine hb_ti 0 rfl ?_
  refine lv_bipush (v := 100) hx hb d_Md_foretold_65 (by decide +kernel) ?_
  refine lv_idiv hx hb d_Md_foretold_67 (by decide) ?_
  refine hb_ti 0 (by decide +kernel) ?_
  refine lv_iload hx hb d_Md_foretold_68 (lv_at hl 0 rfl) ?_
  refine lv_iadd hx hb d_Md_foretold_70 ?_
  refine hb_ti 16 (by decide +kernel) ?_
  refine lv_bipush (v := 100) hx hb d_Md_foretold_71 (by decide +kernel) ?_
  refine lv_imul hx hb d_Md_foretold_73 ?_
  refine hb_ti 1600 (by decide +kernel) ?_
  refine lv_istore (lv' := [(6, .int 1600), (5, .int 16), (7, .int 0), (3, .long 0), (1, .long 0), (0, .ref (a 0))]) hx hb d_Md_foretold_74 hl (by decide) rfl (fun ls hl => ?_)
  refine lv_lload_n hx hb d_Md_foretold_76 rfl (lv_at hl 3 rfl) ?_
  refine lv_lload_n hx hb d_Md_foretold_77 rfl (lv_at hl 4 rfl) ?_
  refine lv_ladd hx hb d_Md_foretold_78 ?_
  refine hb_tl 0 (by decide +kernel) ?_
  refine lv_lstore_n (lv' := [(3, .long 0), (6, .int 1600), (5, .int 16), (7, .int 0), (1, .long 0), (0, .ref (a 0))]) hx hb d_Md_foretold_79 rfl hl (by decide) rfl (fun ls hl => ?_)
  refine lv_iconst (v := 0) hx hb d_Md_foretold_80 (by decide +kernel) ?_
  refine lv_istore (lv' := [(7, .int 0), (3, .long 0), (6, .int 1600), (5, .int 16), (1, .long 0), (0, .ref (a 0))]) hx hb d_Md_foretold_81 hl (by decide) rfl (fun ls hl => ?_)
  refine lv_iload hx hb d_Md_foretold_83 (lv_at hl 0 rfl) ?_
  refine lv_aload_n hx hb d_Md_foretold_85 rfl (lv_at hl 5 rfl) ?_
  refine va_get (D := (dC, dI)) (ci := 7) (v := .int 0) (C := R_Md) (T := F_Md) (N := 64) hx hb htb i_Md hown hK hP 0 rfl rfl 60 (by decide) (htb (.fieldLink R_Md 323 "WaterMenModel" "pensioners" "I") tw_202) (fun _ h9 => h9) rfl d_Md_foretold_86 ?_
  refine lv_icmp_ge (tgt := 140) hx hb d_Md_foretold_89 (by decide) (fun _ => ?_) (fun h => absurd (by decide +kernel) h)
  refine lv_iinc (v := 17) (lv' := [(5, .int 17), (7, .int 0), (3, .long 0), (6, .int 1600), (1, .long 0), (0, .ref (a 0))]) hx hb d_Md_foretold_140 hl (k := 3) rfl (by decide +kernel) (by decide) rfl (fun ls hl => ?_)
  refine lv_goto (tgt := 54) hx hb d_Md_foretold_143 (by decide) ?_
  refine lv_iload hx hb d_Md_foretold_54 (lv_at hl 0 rfl) ?_
  refine lv_bipush (v := 40) hx hb d_Md_foretold_56 (by decide +kernel) ?_
  refine lv_icmp_gt (tgt := 146) hx hb d_Md_foretold_58 (by decide) (fun h => absurd h (by decide +kernel)) (fun _ => ?_)
  refine lv_aload_n hx hb d_Md_foretold_61 rfl (lv_at hl 5 rfl) ?_
  refine vp_callSi (va_Run.run (va_runV (As := []) (rest := []) ⟨hx, hb, hml, hown, htb⟩ (c_Md_today l dC dI a k) (cwV 0 htb (gd_V tw_159 tw_160 tw_161 tw_138 tw_158) rfl rfl rfl (by decide +kernel) ⟨Nat.le_of_ble_eq_true rfl, Nat.le_of_ble_eq_true rfl⟩) ⟨pr_blind, va_recv hK hP (ci := 7) (q0 := 0) rfl rfl, pr_pre hP hK hN⟩ rfl rfl hl.1 rfl (lv_room (Nat.le_of_ble_eq_true rfl)) d_Md_foretold_62 ⟨Nat.le_of_ble_eq_true rfl, Nat.le_of_ble_eq_true rfl⟩)) (fun r er => ?_)
  subst er
  refine hb_ti 0 rfl ?_
  refine lv_bipush (v := 100) hx hb d_Md_foretold_65 (by decide +kernel) ?_
  refine lv_idiv hx hb d_Md_foretold_67 (by decide) ?_
  refine hb_ti 0 (by decide +kernel) ?_
  refine lv_iload hx hb d_Md_foretold_68 (lv_at hl 0 rfl) ?_
  refine lv_iadd hx hb d_Md_foretold_70 ?_
  refine hb_ti 17 (by decide +kernel) ?_
  refine lv_bipush (v := 100) hx hb d_Md_foretold_71 (by decide +kernel) ?_
  refine lv_imul hx hb d_Md_foretold_73 ?_
  refine hb_ti 1700 (by decide +kernel) ?_
  refine lv_istore (lv' := [(6, .int 1700), (5, .int 17), (7, .int 0), (3, .long 0), (1, .long 0), (0, .ref (a 0))]) hx hb d_Md_foretold_74 hl (by decide) rfl (fun ls hl => ?_)
  refine lv_lload_n hx hb d_Md_foretold_76 rfl (lv_at hl 3 rfl) ?_
  refine lv_lload_n hx hb d_Md_foretold_77 rfl (lv_at hl 4 rfl) ?_
  refine lv_ladd hx hb d_Md_foretold_78 ?_
  refine hb_tl 0 (by decide +kernel) ?_
  refine lv_lstore_n (lv' := [(3, .long 0), (6, .int 1700), (5, .int 17), (7, .int 0), (1, .long 0), (0, .ref (a 0))]) hx hb d_Md_foretold_79 rfl hl (by decide) rfl (fun ls hl => ?_)
  refine lv_iconst (v := 0) hx hb d_Md_foretold_80 (by decide +kernel) ?_
  refine lv_istore (lv' := [(7, .int 0), (3, .long 0), (6, .int 1700), (5, .int 17), (1, .long 0), (0, .ref (a 0))]) hx hb d_Md_foretold_81 hl (by decide) rfl (fun ls hl => ?_)
  refine lv_iload hx hb d_Md_foretold_83 (lv_at hl 0 rfl) ?_
  refine lv_aload_n hx hb d_Md_foretold_85 rfl (lv_at hl 5 rfl) ?_
  refine va_get (D := (dC, dI)) (ci := 7) (v := .int 0) (C := R_Md) (T := F_Md) (N := 64) hx hb htb i_Md hown hK hP 0 rfl rfl 60 (by decide) (htb (.fieldLink R_Md 323 "WaterMenModel" "pensioners" "I") tw_202) (fun _ h9 => h9) rfl d_Md_foretold_86 ?_
  refine lv_icmp_ge (tgt := 140) hx hb d_Md_foretold_89 (by decide) (fun _ => ?_) (fun h => absurd (by decide +kernel) h)
  refine lv_iinc (v := 18) (lv' := [(5, .int 18), (7, .int 0), (3, .long 0), (6, .int 1700), (1, .long 0), (0, .ref (a 0))]) hx hb d_Md_foretold_140 hl (k := 3) rfl (by decide +kernel) (by decide) rfl (fun ls hl => ?_)
  refine lv_goto (tgt := 54) hx hb d_Md_foretold_143 (by decide) ?_
  refine lv_iload hx hb d_Md_foretold_54 (lv_at hl 0 rfl) ?_
  refine lv_bipush (v := 40) hx hb d_Md_foretold_56 (by decide +kernel) ?_
  refine lv_icmp_gt (tgt := 146) hx hb d_Md_foretold_58 (by decide) (fun h => absurd h (by decide +kernel)) (fun _ => ?_)
  refine lv_aload_n hx hb d_Md_foretold_61 rfl (lv_at hl 5 rfl) ?_
  refine vp_callSi (va_Run.run (va_runV (As := []) (rest := []) ⟨hx, hb, hml, hown, htb⟩ (c_Md_today l dC dI a k) (cwV 0 htb (gd_V tw_159 tw_160 tw_161 tw_138 tw_158) rfl rfl rfl (by decide +kernel) ⟨Nat.le_of_ble_eq_true rfl, Nat.le_of_ble_eq_true rfl⟩) ⟨pr_blind, va_recv hK hP (ci := 7) (q0 := 0) rfl rfl, pr_pre hP hK hN⟩ rfl rfl hl.1 rfl (lv_room (Nat.le_of_ble_eq_true rfl)) d_Md_foretold_62 ⟨Nat.le_of_ble_eq_true rfl, Nat.le_of_ble_eq_true rfl⟩)) (fun r er => ?_)
  subst er
  refine hb_ti 0 rfl ?_
  refine lv_bipush (v := 100) hx hb d_Md_foretold_65 (by decide +kernel) ?_
  refine lv_idiv hx hb d_Md_foretold_67 (by decide) ?_
  refine hb_ti 0 (by decide +kernel) ?_
  refine lv_iload hx hb d_Md_foretold_68 (lv_at hl 0 rfl) ?_
  refine lv_iadd hx hb d_Md_foretold_70 ?_
  refine hb_ti 18 (by decide +kernel) ?_
  refine lv_bipush (v := 100) hx hb d_Md_foretold_71 (by decide +kernel) ?_
  refine lv_imul hx hb d_Md_foretold_73 ?_
  refine hb_ti 1800 (by decide +kernel) ?_
  refine lv_istore (lv' := [(6, .int 1800), (5, .int 18), (7, .int 0), (3, .long 0), (1, .long 0), (0, .ref (a 0))]) hx hb d_Md_foretold_74 hl (by decide) rfl (fun ls hl => ?_)
  refine lv_lload_n hx hb d_Md_foretold_76 rfl (lv_at hl 3 rfl) ?_
  refine lv_lload_n hx hb d_Md_foretold_77 rfl (lv_at hl 4 rfl) ?_
  refine lv_ladd hx hb d_Md_foretold_78 ?_
  refine hb_tl 0 (by decide +kernel) ?_
  refine lv_lstore_n (lv' := [(3, .long 0), (6, .int 1800), (5, .int 18), (7, .int 0), (1, .long 0), (0, .ref (a 0))]) hx hb d_Md_foretold_79 rfl hl (by decide) rfl (fun ls hl => ?_)
  refine lv_iconst (v := 0) hx hb d_Md_foretold_80 (by decide +kernel) ?_
  refine lv_istore (lv' := [(7, .int 0), (3, .long 0), (6, .int 1800), (5, .int 18), (1, .long 0), (0, .ref (a 0))]) hx hb d_Md_foretold_81 hl (by decide) rfl (fun ls hl => ?_)
  refine lv_iload hx hb d_Md_foretold_83 (lv_at hl 0 rfl) ?_
  refine lv_aload_n hx hb d_Md_foretold_85 rfl (lv_at hl 5 rfl) ?_
  refine va_get (D := (dC, dI)) (ci := 7) (v := .int 0) (C := R_Md) (T := F_Md) (N := 64) hx hb htb i_Md hown hK hP 0 rfl rfl 60 (by decide) (htb (.fieldLink R_Md 323 "WaterMenModel" "pensioners" "I") tw_202) (fun _ h9 => h9) rfl d_Md_foretold_86 ?_
  refine lv_icmp_ge (tgt := 140) hx hb d_Md_foretold_89 (by decide) (fun _ => ?_) (fun h => absurd (by decide +kernel) h)
  refine lv_iinc (v := 19) (lv' := [(5, .int 19), (7, .int 0), (3, .long 0), (6, .int 1800), (1, .long 0), (0, .ref (a 0))]) hx hb d_Md_foretold_140 hl (k := 3) rfl (by decide +kernel) (by decide) rfl (fun ls hl => ?_)
  refine lv_goto (tgt := 54) hx hb d_Md_foretold_143 (by decide) ?_
  refine lv_iload hx hb d_Md_foretold_54 (lv_at hl 0 rfl) ?_
  refine lv_bipush (v := 40) hx hb d_Md_foretold_56 (by decide +kernel) ?_
  refine lv_icmp_gt (tgt := 146) hx hb d_Md_foretold_58 (by decide) (fun h => absurd h (by decide +kernel)) (fun _ => ?_)
  refine lv_aload_n hx hb d_Md_foretold_61 rfl (lv_at hl 5 rfl) ?_
  refine vp_callSi (va_Run.run (va_runV (As := []) (rest := []) ⟨hx, hb, hml, hown, htb⟩ (c_Md_today l dC dI a k) (cwV 0 htb (gd_V tw_159 tw_160 tw_161 tw_138 tw_158) rfl rfl rfl (by decide +kernel) ⟨Nat.le_of_ble_eq_true rfl, Nat.le_of_ble_eq_true rfl⟩) ⟨pr_blind, va_recv hK hP (ci := 7) (q0 := 0) rfl rfl, pr_pre hP hK hN⟩ rfl rfl hl.1 rfl (lv_room (Nat.le_of_ble_eq_true rfl)) d_Md_foretold_62 ⟨Nat.le_of_ble_eq_true rfl, Nat.le_of_ble_eq_true rfl⟩)) (fun r er => ?_)
  subst er
  refine hb_ti 0 rfl ?_
  refine lv_bipush (v := 100) hx hb d_Md_foretold_65 (by decide +kernel) ?_
  refine lv_idiv hx hb d_Md_foretold_67 (by decide) ?_
  refine hb_ti 0 (by decide +kernel) ?_
  refine lv_iload hx hb d_Md_foretold_68 (lv_at hl 0 rfl) ?_
  refine lv_iadd hx hb d_Md_foretold_70 ?_
  refine hb_ti 19 (by decide +kernel) ?_
  refine lv_bipush (v := 100) hx hb d_Md_foretold_71 (by decide +kernel) ?_
  refine lv_imul hx hb d_Md_foretold_73 ?_
  refine hb_ti 1900 (by decide +kernel) ?_
  refine lv_istore (lv' := [(6, .int 1900), (5, .int 19), (7, .int 0), (3, .long 0), (1, .long 0), (0, .ref (a 0))]) hx hb d_Md_foretold_74 hl (by decide) rfl (fun ls hl => ?_)
  refine lv_lload_n hx hb d_Md_foretold_76 rfl (lv_at hl 3 rfl) ?_
  refine lv_lload_n hx hb d_Md_foretold_77 rfl (lv_at hl 4 rfl) ?_
  refine lv_ladd hx hb d_Md_foretold_78 ?_
  refine hb_tl 0 (by decide +kernel) ?_
  refine lv_lstore_n (lv' := [(3, .long 0), (6, .int 1900), (5, .int 19), (7, .int 0), (1, .long 0), (0, .ref (a 0))]) hx hb d_Md_foretold_79 rfl hl (by decide) rfl (fun ls hl => ?_)
  refine lv_iconst (v := 0) hx hb d_Md_foretold_80 (by decide +kernel) ?_
  refine lv_istore (lv' := [(7, .int 0), (3, .long 0), (6, .int 1900), (5, .int 19), (1, .long 0), (0, .ref (a 0))]) hx hb d_Md_foretold_81 hl (by decide) rfl (fun ls hl => ?_)
  refine lv_iload hx hb d_Md_foretold_83 (lv_at hl 0 rfl) ?_
  refine lv_aload_n hx hb d_Md_foretold_85 rfl (lv_at hl 5 rfl) ?_
  refine va_get (D := (dC, dI)) (ci := 7) (v := .int 0) (C := R_Md) (T := F_Md) (N := 64) hx hb htb i_Md hown hK hP 0 rfl rfl 60 (by decide) (htb (.fieldLink R_Md 323 "WaterMenModel" "pensioners" "I") tw_202) (fun _ h9 => h9) rfl d_Md_foretold_86 ?_
  refine lv_icmp_ge (tgt := 140) hx hb d_Md_foretold_89 (by decide) (fun _ => ?_) (fun h => absurd (by decide +kernel) h)
  refine lv_iinc (v := 20) (lv' := [(5, .int 20), (7, .int 0), (3, .long 0), (6, .int 1900), (1, .long 0), (0, .ref (a 0))]) hx hb d_Md_foretold_140 hl (k := 3) rfl (by decide +kernel) (by decide) rfl (fun ls hl => ?_)
  refine lv_goto (tgt := 54) hx hb d_Md_foretold_143 (by decide) ?_
  refine lv_iload hx hb d_Md_foretold_54 (lv_at hl 0 rfl) ?_
  refine lv_bipush (v := 40) hx hb d_Md_foretold_56 (by decide +kernel) ?_
  refine lv_icmp_gt (tgt := 146) hx hb d_Md_foretold_58 (by decide) (fun h => absurd h (by decide +kernel)) (fun _ => ?_)
  refine lv_aload_n hx hb d_Md_foretold_61 rfl (lv_at hl 5 rfl) ?_
  refine vp_callSi (va_Run.run (va_runV (As := []) (rest := []) ⟨hx, hb, hml, hown, htb⟩ (c_Md_today l dC dI a k) (cwV 0 htb (gd_V tw_159 tw_160 tw_161 tw_138 tw_158) rfl rfl rfl (by decide +kernel) ⟨Nat.le_of_ble_eq_true rfl, Nat.le_of_ble_eq_true rfl⟩) ⟨pr_blind, va_recv hK hP (ci := 7) (q0 := 0) rfl rfl, pr_pre hP hK hN⟩ rfl rfl hl.1 rfl (lv_room (Nat.le_of_ble_eq_true rfl)) d_Md_foretold_62 ⟨Nat.le_of_ble_eq_true rfl, Nat.le_of_ble_eq_true rfl⟩)) (fun r er => ?_)
  subst er
  refine hb_ti 0 rfl ?_
  refine lv_bipush (v := 100) hx hb d_Md_foretold_65 (by decide +kernel) ?_
  refine lv_idiv hx hb d_Md_foretold_67 (by decide) ?_
  refine hb_ti 0 (by decide +kernel) ?_
  refine lv_iload hx hb d_Md_foretold_68 (lv_at hl 0 rfl) ?_
  refine lv_iadd hx hb d_Md_foretold_70 ?_
  refine hb_ti 20 (by decide +kernel) ?_
  refine lv_bipush (v := 100) hx hb d_Md_foretold_71 (by decide +kernel) ?_
  refine lv_imul hx hb d_Md_foretold_73 ?_
  refine hb_ti 2000 (by decide +kernel) ?_
  refine lv_istore (lv' := [(6, .int 2000), (5, .int 20), (7, .int 0), (3, .long 0), (1, .long 0), (0, .ref (a 0))]) hx hb d_Md_foretold_74 hl (by decide) rfl (fun ls hl => ?_)
  refine lv_lload_n hx hb d_Md_foretold_76 rfl (lv_at hl 3 rfl) ?_
  refine lv_lload_n hx hb d_Md_foretold_77 rfl (lv_at hl 4 rfl) ?_
  refine lv_ladd hx hb d_Md_foretold_78 ?_
  refine hb_tl 0 (by decide +kernel) ?_
  refine lv_lstore_n (lv' := [(3, .long 0), (6, .int 2000), (5, .int 20), (7, .int 0), (1, .long 0), (0, .ref (a 0))]) hx hb d_Md_foretold_79 rfl hl (by decide) rfl (fun ls hl => ?_)
  refine lv_iconst (v := 0) hx hb d_Md_foretold_80 (by decide +kernel) ?_
  refine lv_istore (lv' := [(7, .int 0), (3, .long 0), (6, .int 2000), (5, .int 20), (1, .long 0), (0, .ref (a 0))]) hx hb d_Md_foretold_81 hl (by decide) rfl (fun ls hl => ?_)
  refine lv_iload hx hb d_Md_foretold_83 (lv_at hl 0 rfl) ?_
  refine lv_aload_n hx hb d_Md_foretold_85 rfl (lv_at hl 5 rfl) ?_
  refine va_get (D := (dC, dI)) (ci := 7) (v := .int 0) (C := R_Md) (T := F_Md) (N := 64) hx hb htb i_Md hown hK hP 0 rfl rfl 60 (by decide) (htb (.fieldLink R_Md 323 "WaterMenModel" "pensioners" "I") tw_202) (fun _ h9 => h9) rfl d_Md_foretold_86 ?_
  refine lv_icmp_ge (tgt := 140) hx hb d_Md_foretold_89 (by decide) (fun _ => ?_) (fun h => absurd (by decide +kernel) h)
  refine lv_iinc (v := 21) (lv' := [(5, .int 21), (7, .int 0), (3, .long 0), (6, .int 2000), (1, .long 0), (0, .ref (a 0))]) hx hb d_Md_foretold_140 hl (k := 3) rfl (by decide +kernel) (by decide) rfl (fun ls hl => ?_)
  refine lv_goto (tgt := 54) hx hb d_Md_foretold_143 (by decide) ?_
  refine lv_iload hx hb d_Md_foretold_54 (lv_at hl 0 rfl) ?_
  refine lv_bipush (v := 40) hx hb d_Md_foretold_56 (by decide +kernel) ?_
  refine lv_icmp_gt (tgt := 146) hx hb d_Md_foretold_58 (by decide) (fun h => absurd h (by decide +kernel)) (fun _ => ?_)
  refine lv_aload_n hx hb d_Md_foretold_61 rfl (lv_at hl 5 rfl) ?_
  refine vp_callSi (va_Run.run (va_runV (As := []) (rest := []) ⟨hx, hb, hml, hown, htb⟩ (c_Md_today l dC dI a k) (cwV 0 htb (gd_V tw_159 tw_160 tw_161 tw_138 tw_158) rfl rfl rfl (by decide +kernel) ⟨Nat.le_of_ble_eq_true rfl, Nat.le_of_ble_eq_true rfl⟩) ⟨pr_blind, va_recv hK hP (ci := 7) (q0 := 0) rfl rfl, pr_pre hP hK hN⟩ rfl rfl hl.1 rfl (lv_room (Nat.le_of_ble_eq_true rfl)) d_Md_foretold_62 ⟨Nat.le_of_ble_eq_true rfl, Nat.le_of_ble_eq_true rfl⟩)) (fun r er => ?_)
  subst er
  refine hb_ti 0 rfl ?_
  refine lv_bipush (v := 100) hx hb d_Md_foretold_65 (by decide +kernel) ?_
  refine lv_idiv hx hb d_Md_foretold_67 (by decide) ?_
  refine hb_ti 0 (by decide +kernel) ?_
  refine lv_iload hx hb d_Md_foretold_68 (lv_at hl 0 rfl) ?_
  refine lv_iadd hx hb d_Md_foretold_70 ?_
  refine hb_ti 21 (by decide +kernel) ?_
  refine lv_bipush (v := 100) hx hb d_Md_foretold_71 (by decide +kernel) ?_
  refine lv_imul hx hb d_Md_foretold_73 ?_
  refine hb_ti 2100 (by decide +kernel) ?_
  refine lv_istore (lv' := [(6, .int 2100), (5, .int 21), (7, .int 0), (3, .long 0), (1, .long 0), (0, .ref (a 0))]) hx hb d_Md_foretold_74 hl (by decide) rfl (fun ls hl => ?_)
  refine lv_lload_n hx hb d_Md_foretold_76 rfl (lv_at hl 3 rfl) ?_
  refine lv_lload_n hx hb d_Md_foretold_77 rfl (lv_at hl 4 rfl) ?_
  refine lv_ladd hx hb d_Md_foretold_78 ?_
  refine hb_tl 0 (by decide +kernel) ?_
  refine lv_lstore_n (lv' := [(3, .long 0), (6, .int 2100), (5, .int 21), (7, .int 0), (1, .long 0), (0, .ref (a 0))]) hx hb d_Md_foretold_79 rfl hl (by decide) rfl (fun ls hl => ?_)
  refine lv_iconst (v := 0) hx hb d_Md_foretold_80 (by decide +kernel) ?_
  refine lv_istore (lv' := [(7, .int 0), (3, .long 0), (6, .int 2100), (5, .int 21), (1, .long 0), (0, .ref (a 0))]) hx hb d_Md_foretold_81 hl (by decide) rfl (fun ls hl => ?_)
  refine lv_iload hx hb d_Md_foretold_83 (lv_at hl 0 rfl) ?_
  refine lv_aload_n hx hb d_Md_foretold_85 rfl (lv_at hl 5 rfl) ?_
  refine va_get (D := (dC, dI)) (ci := 7) (v := .int 0) (C := R_Md) (T := F_Md) (N := 64) hx hb htb i_Md hown hK hP 0 rfl rfl 60 (by decide) (htb (.fieldLink R_Md 323 "WaterMenModel" "pensioners" "I") tw_202) (fun _ h9 => h9) rfl d_Md_foretold_86 ?_
  refine lv_icmp_ge (tgt := 140) hx hb d_Md_foretold_89 (by decide) (fun _ => ?_) (fun h => absurd (by decide +kernel) h)
  refine lv_iinc (v := 22) (lv' := [(5, .int 22), (7, .int 0), (3, .long 0), (6, .int 2100), (1, .long 0), (0, .ref (a 0))]) hx hb d_Md_foretold_140 hl (k := 3) rfl (by decide +kernel) (by decide) rfl (fun ls hl => ?_)
  refine lv_goto (tgt := 54) hx hb d_Md_foretold_143 (by decide) ?_
  refine lv_iload hx hb d_Md_foretold_54 (lv_at hl 0 rfl) ?_
  refine lv_bipush (v := 40) hx hb d_Md_foretold_56 (by decide +kernel) ?_
  refine lv_icmp_gt (tgt := 146) hx hb d_Md_foretold_58 (by decide) (fun h => absurd h (by decide +kernel)) (fun _ => ?_)
  refine lv_aload_n hx hb d_Md_foretold_61 rfl (lv_at hl 5 rfl) ?_
  refine vp_callSi (va_Run.run (va_runV (As := []) (rest := []) ⟨hx, hb, hml, hown, htb⟩ (c_Md_today l dC dI a k) (cwV 0 htb (gd_V tw_159 tw_160 tw_161 tw_138 tw_158) rfl rfl rfl (by decide +kernel) ⟨Nat.le_of_ble_eq_true rfl, Nat.le_of_ble_eq_true rfl⟩) ⟨pr_blind, va_recv hK hP (ci := 7) (q0 := 0) rfl rfl, pr_pre hP hK hN⟩ rfl rfl hl.1 rfl (lv_room (Nat.le_of_ble_eq_true rfl)) d_Md_foretold_62 ⟨Nat.le_of_ble_eq_true rfl, Nat.le_of_ble_eq_true rfl⟩)) (fun r er => ?_)
  subst er
  refine hb_ti 0 rfl ?_
  refine lv_bipush (v := 100) hx hb d_Md_foretold_65 (by decide +kernel) ?_
  refine lv_idiv hx hb d_Md_foretold_67 (by decide) ?_
  refine hb_ti 0 (by decide +kernel) ?_
  refine lv_iload hx hb d_Md_foretold_68 (lv_at hl 0 rfl) ?_
  refine lv_iadd hx hb d_Md_foretold_70 ?_
  refine hb_ti 22 (by decide +kernel) ?_
  refine lv_bipush (v := 100) hx hb d_Md_foretold_71 (by decide +kernel) ?_
  refine lv_imul hx hb d_Md_foretold_73 ?_
  refine hb_ti 2200 (by decide +kernel) ?_
  refine lv_istore (lv' := [(6, .int 2200), (5, .int 22), (7, .int 0), (3, .long 0), (1, .long 0), (0, .ref (a 0))]) hx hb d_Md_foretold_74 hl (by decide) rfl (fun ls hl => ?_)
  refine lv_lload_n hx hb d_Md_foretold_76 rfl (lv_at hl 3 rfl) ?_
  refine lv_lload_n hx hb d_Md_foretold_77 rfl (lv_at hl 4 rfl) ?_
  refine lv_ladd hx hb d_Md_foretold_78 ?_
  refine hb_tl 0 (by decide +kernel) ?_
  refine lv_lstore_n (lv' := [(3, .long 0), (6, .int 2200), (5, .int 22), (7, .int 0), (1, .long 0), (0, .ref (a 0))]) hx hb d_Md_foretold_79 rfl hl (by decide) rfl (fun ls hl => ?_)
  refine lv_iconst (v := 0) hx hb d_Md_foretold_80 (by decide +kernel) ?_
  refine lv_istore (lv' := [(7, .int 0), (3, .long 0), (6, .int 2200), (5, .int 22), (1, .long 0), (0, .ref (a 0))]) hx hb d_Md_foretold_81 hl (by decide) rfl (fun ls hl => ?_)
  refine lv_iload hx hb d_Md_foretold_83 (lv_at hl 0 rfl) ?_
  refine lv_aload_n hx hb d_Md_foretold_85 rfl (lv_at hl 5 rfl) ?_
  refine va_get (D := (dC, dI)) (ci := 7) (v := .int 0) (C := R_Md) (T := F_Md) (N := 64) hx hb htb i_Md hown hK hP 0 rfl rfl 60 (by decide) (htb (.fieldLink R_Md 323 "WaterMenModel" "pensioners" "I") tw_202) (fun _ h9 => h9) rfl d_Md_foretold_86 ?_
  refine lv_icmp_ge (tgt := 140) hx hb d_Md_foretold_89 (by decide) (fun _ => ?_) (fun h => absurd (by decide +kernel) h)
  refine lv_iinc (v := 23) (lv' := [(5, .int 23), (7, .int 0), (3, .long 0), (6, .int 2200), (1, .long 0), (0, .ref (a 0))]) hx hb d_Md_foretold_140 hl (k := 3) rfl (by decide +kernel) (by decide) rfl (fun ls hl => ?_)
  refine lv_goto (tgt := 54) hx hb d_Md_foretold_143 (by decide) ?_
  refine lv_iload hx hb d_Md_foretold_54 (lv_at hl 0 rfl) ?_
  refine lv_bipush (v := 40) hx hb d_Md_foretold_56 (by decide +kernel) ?_
  refine lv_icmp_gt (tgt := 146) hx hb d_Md_foretold_58 (by decide) (fun h => absurd h (by decide +kernel)) (fun _ => ?_)
  refine lv_aload_n hx hb d_Md_foretold_61 rfl (lv_at hl 5 rfl) ?_
  refine vp_callSi (va_Run.run (va_runV (As := []) (rest := []) ⟨hx, hb, hml, hown, htb⟩ (c_Md_today l dC dI a k) (cwV 0 htb (gd_V tw_159 tw_160 tw_161 tw_138 tw_158) rfl rfl rfl (by decide +kernel) ⟨Nat.le_of_ble_eq_true rfl, Nat.le_of_ble_eq_true rfl⟩) ⟨pr_blind, va_recv hK hP (ci := 7) (q0 := 0) rfl rfl, pr_pre hP hK hN⟩ rfl rfl hl.1 rfl (lv_room (Nat.le_of_ble_eq_true rfl)) d_Md_foretold_62 ⟨Nat.le_of_ble_eq_true rfl, Nat.le_of_ble_eq_true rfl⟩)) (fun r er => ?_)
  subst er
  refine hb_ti 0 rfl ?_
  refine lv_bipush (v := 100) hx hb d_Md_foretold_65 (by decide +kernel) ?_
  refine lv_idiv hx hb d_Md_foretold_67 (by decide) ?_
  refine hb_ti 0 (by decide +kernel) ?_
  refine lv_iload hx hb d_Md_foretold_68 (lv_at hl 0 rfl) ?_
  refine lv_iadd hx hb d_Md_foretold_70 ?_
  refine hb_ti 23 (by decide +kernel) ?_
  refine lv_bipush (v := 100) hx hb d_Md_foretold_71 (by decide +kernel) ?_
  refine lv_imul hx hb d_Md_foretold_73 ?_
  refine hb_ti 2300 (by decide +kernel) ?_
  refine lv_istore (lv' := [(6, .int 2300), (5, .int 23), (7, .int 0), (3, .long 0), (1, .long 0), (0, .ref (a 0))]) hx hb d_Md_foretold_74 hl (by decide) rfl (fun ls hl => ?_)
  refine lv_lload_n hx hb d_Md_foretold_76 rfl (lv_at hl 3 rfl) ?_
  refine lv_lload_n hx hb d_Md_foretold_77 rfl (lv_at hl 4 rfl) ?_
  refine lv_ladd hx hb d_Md_foretold_78 ?_
  refine hb_tl 0 (by decide +kernel) ?_
  refine lv_lstore_n (lv' := [(3, .long 0), (6, .int 2300), (5, .int 23), (7, .int 0), (1, .long 0), (0, .ref (a 0))]) hx hb d_Md_foretold_79 rfl hl (by decide) rfl (fun ls hl => ?_)
  refine lv_iconst (v := 0) hx hb d_Md_foretold_80 (by decide +kernel) ?_
  refine lv_istore (lv' := [(7, .int 0), (3, .long 0), (6, .int 2300), (5, .int 23), (1, .long 0), (0, .ref (a 0))]) hx hb d_Md_foretold_81 hl (by decide) rfl (fun ls hl => ?_)
  refine lv_iload hx hb d_Md_foretold_83 (lv_at hl 0 rfl) ?_
  refine lv_aload_n hx hb d_Md_foretold_85 rfl (lv_at hl 5 rfl) ?_
  refine va_get (D := (dC, dI)) (ci := 7) (v := .int 0) (C := R_Md) (T := F_Md) (N := 64) hx hb htb i_Md hown hK hP 0 rfl rfl 60 (by decide) (htb (.fieldLink R_Md 323 "WaterMenModel" "pensioners" "I") tw_202) (fun _ h9 => h9) rfl d_Md_foretold_86 ?_
  refine lv_icmp_ge (tgt := 140) hx hb d_Md_foretold_89 (by decide) (fun _ => ?_) (fun h => absurd (by decide +kernel) h)
  refine lv_iinc (v := 24) (lv' := [(5, .int 24), (7, .int 0), (3, .long 0), (6, .int 2300), (1, .long 0), (0, .ref (a 0))]) hx hb d_Md_foretold_140 hl (k := 3) rfl (by decide +kernel) (by decide) rfl (fun ls hl => ?_)
  refine lv_goto (tgt := 54) hx hb d_Md_foretold_143 (by decide) ?_
  refine lv_iload hx hb d_Md_foretold_54 (lv_at hl 0 rfl) ?_
  refine lv_bipush (v := 40) hx hb d_Md_foretold_56 (by decide +kernel) ?_
  refine lv_icmp_gt (tgt := 146) hx hb d_Md_foretold_58 (by decide) (fun h => absurd h (by decide +kernel)) (fun _ => ?_)
  refine lv_aload_n hx hb d_Md_foretold_61 rfl (lv_at hl 5 rfl) ?_
  refine vp_callSi (va_Run.run (va_runV (As := []) (rest := []) ⟨hx, hb, hml, hown, htb⟩ (c_Md_today l dC dI a k) (cwV 0 htb (gd_V tw_159 tw_160 tw_161 tw_138 tw_158) rfl rfl rfl (by decide +kernel) ⟨Nat.le_of_ble_eq_true rfl, Nat.le_of_ble_eq_true rfl⟩) ⟨pr_blind, va_recv hK hP (ci := 7) (q0 := 0) rfl rfl, pr_pre hP hK hN⟩ rfl rfl hl.1 rfl (lv_room (Nat.le_of_ble_eq_true rfl)) d_Md_foretold_62 ⟨Nat.le_of_ble_eq_true rfl, Nat.le_of_ble_eq_true rfl⟩)) (fun r er => ?_)
  subst er
  refine hb_ti 0 rfl ?_
  refine lv_bipush (v := 100) hx hb d_Md_foretold_65 (by decide +kernel) ?_
  refine lv_idiv hx hb d_Md_foretold_67 (by decide) ?_
  refine hb_ti 0 (by decide +kernel) ?_
  refine lv_iload hx hb d_Md_foretold_68 (lv_at hl 0 rfl) ?_
  refine lv_iadd hx hb d_Md_foretold_70 ?_
  refine hb_ti 24 (by decide +kernel) ?_
  refine lv_bipush (v := 100) hx hb d_Md_foretold_71 (by decide +kernel) ?_
  refine lv_imul hx hb d_Md_foretold_73 ?_
  refine hb_ti 2400 (by decide +kernel) ?_
  refine lv_istore (lv' := [(6, .int 2400), (5, .int 24), (7, .int 0), (3, .long 0), (1, .long 0), (0, .ref (a 0))]) hx hb d_Md_foretold_74 hl (by decide) rfl (fun ls hl => ?_)
  refine lv_lload_n hx hb d_Md_foretold_76 rfl (lv_at hl 3 rfl) ?_
  refine lv_lload_n hx hb d_Md_foretold_77 rfl (lv_at hl 4 rfl) ?_
  refine lv_ladd hx hb d_Md_foretold_78 ?_
  refine hb_tl 0 (by decide +kernel) ?_
  refine lv_lstore_n (lv' := [(3, .long 0), (6, .int 2400), (5, .int 24), (7, .int 0), (1, .long 0), (0, .ref (a 0))]) hx hb d_Md_foretold_79 rfl hl (by decide) rfl (fun ls hl => ?_)
  refine lv_iconst (v := 0) hx hb d_Md_foretold_80 (by decide +kernel) ?_
  refine lv_istore (lv' := [(7, .int 0), (3, .long 0), (6, .int 2400), (5, .int 24), (1, .long 0), (0, .ref (a 0))]) hx hb d_Md_foretold_81 hl (by decide) rfl (fun ls hl => ?_)
  refine lv_iload hx hb d_Md_foretold_83 (lv_at hl 0 rfl) ?_
  refine lv_aload_n hx hb d_Md_foretold_85 rfl (lv_at hl 5 rfl) ?_
  refine va_get (D := (dC, dI)) (ci := 7) (v := .int 0) (C := R_Md) (T := F_Md) (N := 64) hx hb htb i_Md hown hK hP 0 rfl rfl 60 (by decide) (htb (.fieldLink R_Md 323 "WaterMenModel" "pensioners" "I") tw_202) (fun _ h9 => h9) rfl d_Md_foretold_86 ?_
  refine lv_icmp_ge (tgt := 140) hx hb d_Md_foretold_89 (by decide) (fun _ => ?_) (fun h => absurd (by decide +kernel) h)
  refine lv_iinc (v := 25) (lv' := [(5, .int 25), (7, .int 0), (3, .long 0), (6, .int 2400), (1, .long 0), (0, .ref (a 0))]) hx hb d_Md_foretold_140 hl (k := 3) rfl (by decide +kernel) (by decide) rfl (fun ls hl => ?_)
  refine lv_goto (tgt := 54) hx hb d_Md_foretold_143 (by decide) ?_
  refine lv_iload hx hb d_Md_foretold_54 (lv_at hl 0 rfl) ?_
  refine lv_bipush (v := 40) hx hb d_Md_foretold_56 (by decide +kernel) ?_
  refine lv_icmp_gt (tgt := 146) hx hb d_Md_foretold_58 (by decide) (fun h => absurd h (by decide +kernel)) (fun _ => ?_)
  refine lv_aload_n hx hb d_Md_foretold_61 rfl (lv_at hl 5 rfl) ?_
  refine vp_callSi (va_Run.run (va_runV (As := []) (rest := []) ⟨hx, hb, hml, hown, htb⟩ (c_Md_today l dC dI a k) (cwV 0 htb (gd_V tw_159 tw_160 tw_161 tw_138 tw_158) rfl rfl rfl (by decide +kernel) ⟨Nat.le_of_ble_eq_true rfl, Nat.le_of_ble_eq_true rfl⟩) ⟨pr_blind, va_recv hK hP (ci := 7) (q0 := 0) rfl rfl, pr_pre hP hK hN⟩ rfl rfl hl.1 rfl (lv_room (Nat.le_of_ble_eq_true rfl)) d_Md_foretold_62 ⟨Nat.le_of_ble_eq_true rfl, Nat.le_of_ble_eq_true rfl⟩)) (fun r er => ?_)
  subst er
  refine hb_ti 0 rfl ?_
  refine lv_bipush (v := 100) hx hb d_Md_foretold_65 (by decide +kernel) ?_
  refine lv_idiv hx hb d_Md_foretold_67 (by decide) ?_
  refine hb_ti 0 (by decide +kernel) ?_
  refine lv_iload hx hb d_Md_foretold_68 (lv_at hl 0 rfl) ?_
  refine lv_iadd hx hb d_Md_foretold_70 ?_
  refine hb_ti 25 (by decide +kernel) ?_
  refine lv_bipush (v := 100) hx hb d_Md_foretold_71 (by decide +kernel) ?_
  refine lv_imul hx hb d_Md_foretold_73 ?_
  refine hb_ti 2500 (by decide +kernel) ?_
  refine lv_istore (lv' := [(6, .int 2500), (5, .int 25), (7, .int 0), (3, .long 0), (1, .long 0), (0, .ref (a 0))]) hx hb d_Md_foretold_74 hl (by decide) rfl (fun ls hl => ?_)
  refine lv_lload_n hx hb d_Md_foretold_76 rfl (lv_at hl 3 rfl) ?_
  refine lv_lload_n hx hb d_Md_foretold_77 rfl (lv_at hl 4 rfl) ?_
  refine lv_ladd hx hb d_Md_foretold_78 ?_
  refine hb_tl 0 (by decide +kernel) ?_
  refine lv_lstore_n (lv' := [(3, .long 0), (6, .int 2500), (5, .int 25), (7, .int 0), (1, .long 0), (0, .ref (a 0))]) hx hb d_Md_foretold_79 rfl hl (by decide) rfl (fun ls hl => ?_)
  refine lv_iconst (v := 0) hx hb d_Md_foretold_80 (by decide +kernel) ?_
  refine lv_istore (lv' := [(7, .int 0), (3, .long 0), (6, .int 2500), (5, .int 25), (1, .long 0), (0, .ref (a 0))]) hx hb d_Md_foretold_81 hl (by decide) rfl (fun ls hl => ?_)
  refine lv_iload hx hb d_Md_foretold_83 (lv_at hl 0 rfl) ?_
  refine lv_aload_n hx hb d_Md_foretold_85 rfl (lv_at hl 5 rfl) ?_
  refine va_get (D := (dC, dI)) (ci := 7) (v := .int 0) (C := R_Md) (T := F_Md) (N := 64) hx hb htb i_Md hown hK hP 0 rfl rfl 60 (by decide) (htb (.fieldLink R_Md 323 "WaterMenModel" "pensioners" "I") tw_202) (fun _ h9 => h9) rfl d_Md_foretold_86 ?_
  refine lv_icmp_ge (tgt := 140) hx hb d_Md_foretold_89 (by decide) (fun _ => ?_) (fun h => absurd (by decide +kernel) h)
  refine lv_iinc (v := 26) (lv' := [(5, .int 26), (7, .int 0), (3, .long 0), (6, .int 2500), (1, .long 0), (0, .ref (a 0))]) hx hb d_Md_foretold_140 hl (k := 3) rfl (by decide +kernel) (by decide) rfl (fun ls hl => ?_)
  refine lv_goto (tgt := 54) hx hb d_Md_foretold_143 (by decide) ?_
  refine lv_iload hx hb d_Md_foretold_54 (lv_at hl 0 rfl) ?_
  refine lv_bipush (v := 40) hx hb d_Md_foretold_56 (by decide +kernel) ?_
  refine lv_icmp_gt (tgt := 146) hx hb d_Md_foretold_58 (by decide) (fun h => absurd h (by decide +kernel)) (fun _ => ?_)
  refine lv_aload_n hx hb d_Md_foretold_61 rfl (lv_at hl 5 rfl) ?_
  refine vp_callSi (va_Run.run (va_runV (As := []) (rest := []) ⟨hx, hb, hml, hown, htb⟩ (c_Md_today l dC dI a k) (cwV 0 htb (gd_V tw_159 tw_160 tw_161 tw_138 tw_158) rfl rfl rfl (by decide +kernel) ⟨Nat.le_of_ble_eq_true rfl, Nat.le_of_ble_eq_true rfl⟩) ⟨pr_blind, va_recv hK hP (ci := 7) (q0 := 0) rfl rfl, pr_pre hP hK hN⟩ rfl rfl hl.1 rfl (lv_room (Nat.le_of_ble_eq_true rfl)) d_Md_foretold_62 ⟨Nat.le_of_ble_eq_true rfl, Nat.le_of_ble_eq_true rfl⟩)) (fun r er => ?_)
  subst er
  refine hb_ti 0 rfl ?_
  refine lv_bipush (v := 100) hx hb d_Md_foretold_65 (by decide +kernel) ?_
  refine lv_idiv hx hb d_Md_foretold_67 (by decide) ?_
  refine hb_ti 0 (by decide +kernel) ?_
  refine lv_iload hx hb d_Md_foretold_68 (lv_at hl 0 rfl) ?_
  refine lv_iadd hx hb d_Md_foretold_70 ?_
  refine hb_ti 26 (by decide +kernel) ?_
  refine lv_bipush (v := 100) hx hb d_Md_foretold_71 (by decide +kernel) ?_
  refine lv_imul hx hb d_Md_foretold_73 ?_
  refine hb_ti 2600 (by decide +kernel) ?_
  refine lv_istore (lv' := [(6, .int 2600), (5, .int 26), (7, .int 0), (3, .long 0), (1, .long 0), (0, .ref (a 0))]) hx hb d_Md_foretold_74 hl (by decide) rfl (fun ls hl => ?_)
  refine lv_lload_n hx hb d_Md_foretold_76 rfl (lv_at hl 3 rfl) ?_
  refine lv_lload_n hx hb d_Md_foretold_77 rfl (lv_at hl 4 rfl) ?_
  refine lv_ladd hx hb d_Md_foretold_78 ?_
  refine hb_tl 0 (by decide +kernel) ?_
  refine lv_lstore_n (lv' := [(3, .long 0), (6, .int 2600), (5, .int 26), (7, .int 0), (1, .long 0), (0, .ref (a 0))]) hx hb d_Md_foretold_79 rfl hl (by decide) rfl (fun ls hl => ?_)
  refine lv_iconst (v := 0) hx hb d_Md_foretold_80 (by decide +kernel) ?_
  refine lv_istore (lv' := [(7, .int 0), (3, .long 0), (6, .int 2600), (5, .int 26), (1, .long 0), (0, .ref (a 0))]) hx hb d_Md_foretold_81 hl (by decide) rfl (fun ls hl => ?_)
  refine lv_iload hx hb d_Md_foretold_83 (lv_at hl 0 rfl) ?_
  refine lv_aload_n hx hb d_Md_foretold_85 rfl (lv_at hl 5 rfl) ?_
  refine va_get (D := (dC, dI)) (ci := 7) (v := .int 0) (C := R_Md) (T := F_Md) (N := 64) hx hb htb i_Md hown hK hP 0 rfl rfl 60 (by decide) (htb (.fieldLink R_Md 323 "WaterMenModel" "pensioners" "I") tw_202) (fun _ h9 => h9) rfl d_Md_foretold_86 ?_
  refine lv_icmp_ge (tgt := 140) hx hb d_Md_foretold_89 (by decide) (fun _ => ?_) (fun h => absurd (by decide +kernel) h)
  refine lv_iinc (v := 27) (lv' := [(5, .int 27), (7, .int 0), (3, .long 0), (6, .int 2600), (1, .long 0), (0, .ref (a 0))]) hx hb d_Md_foretold_140 hl (k := 3) rfl (by decide +kernel) (by decide) rfl (fun ls hl => ?_)
  refine lv_goto (tgt := 54) hx hb d_Md_foretold_143 (by decide) ?_
  refine lv_iload hx hb d_Md_foretold_54 (lv_at hl 0 rfl) ?_
  refine lv_bipush (v := 40) hx hb d_Md_foretold_56 (by decide +kernel) ?_
  refine lv_icmp_gt (tgt := 146) hx hb d_Md_foretold_58 (by decide) (fun h => absurd h (by decide +kernel)) (fun _ => ?_)
  refine lv_aload_n hx hb d_Md_foretold_61 rfl (lv_at hl 5 rfl) ?_
  refine vp_callSi (va_Run.run (va_runV (As := []) (rest := []) ⟨hx, hb, hml, hown, htb⟩ (c_Md_today l dC dI a k) (cwV 0 htb (gd_V tw_159 tw_160 tw_161 tw_138 tw_158) rfl rfl rfl (by decide +kernel) ⟨Nat.le_of_ble_eq_true rfl, Nat.le_of_ble_eq_true rfl⟩) ⟨pr_blind, va_recv hK hP (ci := 7) (q0 := 0) rfl rfl, pr_pre hP hK hN⟩ rfl rfl hl.1 rfl (lv_room (Nat.le_of_ble_eq_true rfl)) d_Md_foretold_62 ⟨Nat.le_of_ble_eq_true rfl, Nat.le_of_ble_eq_true rfl⟩)) (fun r er => ?_)
  subst er
  refine hb_ti 0 rfl ?_
  refine lv_bipush (v := 100) hx hb d_Md_foretold_65 (by decide +kernel) ?_
  refine lv_idiv hx hb d_Md_foretold_67 (by decide) ?_
  refine hb_ti 0 (by decide +kernel) ?_
  refine lv_iload hx hb d_Md_foretold_68 (lv_at hl 0 rfl) ?_
  refine lv_iadd hx hb d_Md_foretold_70 ?_
  refine hb_ti 27 (by decide +kernel) ?_
  refine lv_bipush (v := 100) hx hb d_Md_foretold_71 (by decide +kernel) ?_
  refine lv_imul hx hb d_Md_foretold_73 ?_
  refine hb_ti 2700 (by decide +kernel) ?_
  refine lv_istore (lv' := [(6, .int 2700), (5, .int 27), (7, .int 0), (3, .long 0), (1, .long 0), (0, .ref (a 0))]) hx hb d_Md_foretold_74 hl (by decide) rfl (fun ls hl => ?_)
  refine lv_lload_n hx hb d_Md_foretold_76 rfl (lv_at hl 3 rfl) ?_
  refine lv_lload_n hx hb d_Md_foretold_77 rfl (lv_at hl 4 rfl) ?_
  refine lv_ladd hx hb d_Md_foretold_78 ?_
  refine hb_tl 0 (by decide +kernel) ?_
  refine lv_lstore_n (lv' := [(3, .long 0), (6, .int 2700), (5, .int 27), (7, .int 0), (1, .long 0), (0, .ref (a 0))]) hx hb d_Md_foretold_79 rfl hl (by decide) rfl (fun ls hl => ?_)
  refine lv_iconst (v := 0) hx hb d_Md_foretold_80 (by decide +kernel) ?_
  refine lv_istore (lv' := [(7, .int 0), (3, .long 0), (6, .int 2700), (5, .int 27), (1, .long 0), (0, .ref (a 0))]) hx hb d_Md_foretold_81 hl (by decide) rfl (fun ls hl => ?_)
  refine lv_iload hx hb d_Md_foretold_83 (lv_at hl 0 rfl) ?_
  refine lv_aload_n hx hb d_Md_foretold_85 rfl (lv_at hl 5 rfl) ?_
  refine va_get (D := (dC, dI)) (ci := 7) (v := .int 0) (C := R_Md) (T := F_Md) (N := 64) hx hb htb i_Md hown hK hP 0 rfl rfl 60 (by decide) (htb (.fieldLink R_Md 323 "WaterMenModel" "pensioners" "I") tw_202) (fun _ h9 => h9) rfl d_Md_foretold_86 ?_
  refine lv_icmp_ge (tgt := 140) hx hb d_Md_foretold_89 (by decide) (fun _ => ?_) (fun h => absurd (by decide +kernel) h)
  refine lv_iinc (v := 28) (lv' := [(5, .int 28), (7, .int 0), (3, .long 0), (6, .int 2700), (1, .long 0), (0, .ref (a 0))]) hx hb d_Md_foretold_140 hl (k := 3) rfl (by decide +kernel) (by decide) rfl (fun ls hl => ?_)
  refine lv_goto (tgt := 54) hx hb d_Md_foretold_143 (by decide) ?_
  refine lv_iload hx hb d_Md_foretold_54 (lv_at hl 0 rfl) ?_
  refine lv_bipush (v := 40) hx hb d_Md_foretold_56 (by decide +kernel) ?_
  refine lv_icmp_gt (tgt := 146) hx hb d_Md_foretold_58 (by decide) (fun h => absurd h (by decide +kernel)) (fun _ => ?_)
  refine lv_aload_n hx hb d_Md_foretold_61 rfl (lv_at hl 5 rfl) ?_
  refine vp_callSi (va_Run.run (va_runV (As := []) (rest := []) ⟨hx, hb, hml, hown, htb⟩ (c_Md_today l dC dI a k) (cwV 0 htb (gd_V tw_159 tw_160 tw_161 tw_138 tw_158) rfl rfl rfl (by decide +kernel) ⟨Nat.le_of_ble_eq_true rfl, Nat.le_of_ble_eq_true rfl⟩) ⟨pr_blind, va_recv hK hP (ci := 7) (q0 := 0) rfl rfl, pr_pre hP hK hN⟩ rfl rfl hl.1 rfl (lv_room (Nat.le_of_ble_eq_true rfl)) d_Md_foretold_62 ⟨Nat.le_of_ble_eq_true rfl, Nat.le_of_ble_eq_true rfl⟩)) (fun r er => ?_)
  subst er
  refine hb_ti 0 rfl ?_
  refine lv_bipush (v := 100) hx hb d_Md_foretold_65 (by decide +kernel) ?_
  refine lv_idiv hx hb d_Md_foretold_67 (by decide) ?_
  refine hb_ti 0 (by decide +kernel) ?_
  refine lv_iload hx hb d_Md_foretold_68 (lv_at hl 0 rfl) ?_
  refine lv_iadd hx hb d_Md_foretold_70 ?_
  refine hb_ti 28 (by decide +kernel) ?_
  refine lv_bipush (v := 100) hx hb d_Md_foretold_71 (by decide +kernel) ?_
  refine lv_imul hx hb d_Md_foretold_73 ?_
  refine hb_ti 2800 (by decide +kernel) ?_
  refine lv_istore (lv' := [(6, .int 2800), (5, .int 28), (7, .int 0), (3, .long 0), (1, .long 0), (0, .ref (a 0))]) hx hb d_Md_foretold_74 hl (by decide) rfl (fun ls hl => ?_)
  refine lv_lload_n hx hb d_Md_foretold_76 rfl (lv_at hl 3 rfl) ?_
  refine lv_lload_n hx hb d_Md_foretold_77 rfl (lv_at hl 4 rfl) ?_
  refine lv_ladd hx hb d_Md_foretold_78 ?_
  refine hb_tl 0 (by decide +kernel) ?_
  refine lv_lstore_n (lv' := [(3, .long 0), (6, .int 2800), (5, .int 28), (7, .int 0), (1, .long 0), (0, .ref (a 0))]) hx hb d_Md_foretold_79 rfl hl (by decide) rfl (fun ls hl => ?_)
  refine lv_iconst (v := 0) hx hb d_Md_foretold_80 (by decide +kernel) ?_
  refine lv_istore (lv' := [(7, .int 0), (3, .long 0), (6, .int 2800), (5, .int 28), (1, .long 0), (0, .ref (a 0))]) hx hb d_Md_foretold_81 hl (by decide) rfl (fun ls hl => ?_)
  refine lv_iload hx hb d_Md_foretold_83 (lv_at hl 0 rfl) ?_
  refine lv_aload_n hx hb d_Md_foretold_85 rfl (lv_at hl 5 rfl) ?_
  refine va_get (D := (dC, dI)) (ci := 7) (v := .int 0) (C := R_Md) (T := F_Md) (N := 64) hx hb htb i_Md hown hK hP 0 rfl rfl 60 (by decide) (htb (.fieldLink R_Md 323 "WaterMenModel" "pensioners" "I") tw_202) (fun _ h9 => h9) rfl d_Md_foretold_86 ?_
  refine lv_icmp_ge (tgt := 140) hx hb d_Md_foretold_89 (by decide) (fun _ => ?_) (fun h => absurd (by decide +kernel) h)
  refine lv_iinc (v := 29) (lv' := [(5, .int 29), (7, .int 0), (3, .long 0), (6, .int 2800), (1, .long 0), (0, .ref (a 0))]) hx hb d_Md_foretold_140 hl (k := 3) rfl (by decide +kernel) (by decide) rfl (fun ls hl => ?_)
  refine lv_goto (tgt := 54) hx hb d_Md_foretold_143 (by decide) ?_
  refine lv_iload hx hb d_Md_foretold_54 (lv_at hl 0 rfl) ?_
  refine lv_bipush (v := 40) hx hb d_Md_foretold_56 (by decide +kernel) ?_
  refine lv_icmp_gt (tgt := 146) hx hb d_Md_foretold_58 (by decide) (fun h => absurd h (by decide +kernel)) (fun _ => ?_)
  refine lv_aload_n hx hb d_Md_foretold_61 rfl (lv_at hl 5 rfl) ?_
  refine vp_callSi (va_Run.run (va_runV (As := []) (rest := []) ⟨hx, hb, hml, hown, htb⟩ (c_Md_today l dC dI a k) (cwV 0 htb (gd_V tw_159 tw_160 tw_161 tw_138 tw_158) rfl rfl rfl (by decide +kernel) ⟨Nat.le_of_ble_eq_true rfl, Nat.le_of_ble_eq_true rfl⟩) ⟨pr_blind, va_recv hK hP (ci := 7) (q0 := 0) rfl rfl, pr_pre hP hK hN⟩ rfl rfl hl.1 rfl (lv_room (Nat.le_of_ble_eq_true rfl)) d_Md_foretold_62 ⟨Nat.le_of_ble_eq_true rfl, Nat.le_of_ble_eq_true rfl⟩)) (fun r er => ?_)
  subst er
  refine hb_ti 0 rfl ?_
  refine lv_bipush (v := 100) hx hb d_Md_foretold_65 (by decide +kernel) ?_
  refine lv_idiv hx hb d_Md_foretold_67 (by decide) ?_
  refine hb_ti 0 (by decide +kernel) ?_
  refine lv_iload hx hb d_Md_foretold_68 (lv_at hl 0 rfl) ?_
  refine lv_iadd hx hb d_Md_foretold_70 ?_
  refine hb_ti 29 (by decide +kernel) ?_
  refine lv_bipush (v := 100) hx hb d_Md_foretold_71 (by decide +kernel) ?_
  refine lv_imul hx hb d_Md_foretold_73 ?_
  refine hb_ti 2900 (by decide +kernel) ?_
  refine lv_istore (lv' := [(6, .int 2900), (5, .int 29), (7, .int 0), (3, .long 0), (1, .long 0), (0, .ref (a 0))]) hx hb d_Md_foretold_74 hl (by decide) rfl (fun ls hl => ?_)
  refine lv_lload_n hx hb d_Md_foretold_76 rfl (lv_at hl 3 rfl) ?_
  refine lv_lload_n hx hb d_Md_foretold_77 rfl (lv_at hl 4 rfl) ?_
  refine lv_ladd hx hb d_Md_foretold_78 ?_
  refine hb_tl 0 (by decide +kernel) ?_
  refine lv_lstore_n (lv' := [(3, .long 0), (6, .int 2900), (5, .int 29), (7, .int 0), (1, .long 0), (0, .ref (a 0))]) hx hb d_Md_foretold_79 rfl hl (by decide) rfl (fun ls hl => ?_)
  refine lv_iconst (v := 0) hx hb d_Md_foretold_80 (by decide +kernel) ?_
  refine lv_istore (lv' := [(7, .int 0), (3, .long 0), (6, .int 2900), (5, .int 29), (1, .long 0), (0, .ref (a 0))]) hx hb d_Md_foretold_81 hl (by decide) rfl (fun ls hl => ?_)
  refine lv_iload hx hb d_Md_foretold_83 (lv_at hl 0 rfl) ?_
  refine lv_aload_n hx hb d_Md_foretold_85 rfl (lv_at hl 5 rfl) ?_
  refine va_get (D := (dC, dI)) (ci := 7) (v := .int 0) (C := R_Md) (T := F_Md) (N := 64) hx hb htb i_Md hown hK hP 0 rfl rfl 60 (by decide) (htb (.fieldLink R_Md 323 "WaterMenModel" "pensioners" "I") tw_202) (fun _ h9 => h9) rfl d_Md_foretold_86 ?_
  refine lv_icmp_ge (tgt := 140) hx hb d_Md_foretold_89 (by decide) (fun _ => ?_) (fun h => absurd (by decide +kernel) h)
  refine lv_iinc (v := 30) (lv' := [(5, .int 30), (7, .int 0), (3, .long 0), (6, .int 2900), (1, .long 0), (0, .ref (a 0))]) hx hb d_Md_foretold_140 hl (k := 3) rfl (by decide +kernel) (by decide) rfl (fun ls hl => ?_)
  refine lv_goto (tgt := 54) hx hb d_Md_foretold_143 (by decide) ?_
  refine lv_iload hx hb d_Md_foretold_54 (lv_at hl 0 rfl) ?_
  refine lv_bipush (v := 40) hx hb d_Md_foretold_56 (by decide +kernel) ?_
  refine lv_icmp_gt (tgt := 146) hx hb d_Md_foretold_58 (by decide) (fun h => absurd h (by decide +kernel)) (fun _ => ?_)
  refine lv_aload_n hx hb d_Md_foretold_61 rfl (lv_at hl 5 rfl) ?_
  refine vp_callSi (va_Run.run (va_runV (As := []) (rest := []) ⟨hx, hb, hml, hown, htb⟩ (c_Md_today l dC dI a k) (cwV 0 htb (gd_V tw_159 tw_160 tw_161 tw_138 tw_158) rfl rfl rfl (by decide +kernel) ⟨Nat.le_of_ble_eq_true rfl, Nat.le_of_ble_eq_true rfl⟩) ⟨pr_blind, va_recv hK hP (ci := 7) (q0 := 0) rfl rfl, pr_pre hP hK hN⟩ rfl rfl hl.1 rfl (lv_room (Nat.le_of_ble_eq_true rfl)) d_Md_foretold_62 ⟨Nat.le_of_ble_eq_true rfl, Nat.le_of_ble_eq_true rfl⟩)) (fun r er => ?_)
  subst er
  refine hb_ti 0 rfl ?_
  refine lv_bipush (v := 100) hx hb d_Md_foretold_65 (by decide +kernel) ?_
  refine lv_idiv hx hb d_Md_foretold_67 (by decide) ?_
  refine hb_ti 0 (by decide +kernel) ?_
  refine lv_iload hx hb d_Md_foretold_68 (lv_at hl 0 rfl) ?_
  refine lv_iadd hx hb d_Md_foretold_70 ?_
  refine hb_ti 30 (by decide +kernel) ?_
  refine lv_bipush (v := 100) hx hb d_Md_foretold_71 (by decide +kernel) ?_
  refine lv_imul hx hb d_Md_foretold_73 ?_
  refine hb_ti 3000 (by decide +kernel) ?_
  refine lv_istore (lv' := [(6, .int 3000), (5, .int 30), (7, .int 0), (3, .long 0), (1, .long 0), (0, .ref (a 0))]) hx hb d_Md_foretold_74 hl (by decide) rfl (fun ls hl => ?_)
  refine lv_lload_n hx hb d_Md_foretold_76 rfl (lv_at hl 3 rfl) ?_
  refine lv_lload_n hx hb d_Md_foretold_77 rfl (lv_at hl 4 rfl) ?_
  refine lv_ladd hx hb d_Md_foretold_78 ?_
  refine hb_tl 0 (by decide +kernel) ?_
  refine lv_lstore_n (lv' := [(3, .long 0), (6, .int 3000), (5, .int 30), (7, .int 0), (1, .long 0), (0, .ref (a 0))]) hx hb d_Md_foretold_79 rfl hl (by decide) rfl (fun ls hl => ?_)
  refine lv_iconst (v := 0) hx hb d_Md_foretold_80 (by decide +kernel) ?_
  refine lv_istore (lv' := [(7, .int 0), (3, .long 0), (6, .int 3000), (5, .int 30), (1, .long 0), (0, .ref (a 0))]) hx hb d_Md_foretold_81 hl (by decide) rfl (fun ls hl => ?_)
  refine lv_iload hx hb d_Md_foretold_83 (lv_at hl 0 rfl) ?_
  refine lv_aload_n hx hb d_Md_foretold_85 rfl (lv_at hl 5 rfl) ?_
  refine va_get (D := (dC, dI)) (ci := 7) (v := .int 0) (C := R_Md) (T := F_Md) (N := 64) hx hb htb i_Md hown hK hP 0 rfl rfl 60 (by decide) (htb (.fieldLink R_Md 323 "WaterMenModel" "pensioners" "I") tw_202) (fun _ h9 => h9) rfl d_Md_foretold_86 ?_
  refine lv_icmp_ge (tgt := 140) hx hb d_Md_foretold_89 (by decide) (fun _ => ?_) (fun h => absurd (by decide +kernel) h)
  refine lv_iinc (v := 31) (lv' := [(5, .int 31), (7, .int 0), (3, .long 0), (6, .int 3000), (1, .long 0), (0, .ref (a 0))]) hx hb d_Md_foretold_140 hl (k := 3) rfl (by decide +kernel) (by decide) rfl (fun ls hl => ?_)
  refine lv_goto (tgt := 54) hx hb d_Md_foretold_143 (by decide) ?_
  refine lv_iload hx hb d_Md_foretold_54 (lv_at hl 0 rfl) ?_
  refine lv_bipush (v := 40) hx hb d_Md_foretold_56 (by decide +kernel) ?_
  refine lv_icmp_gt (tgt := 146) hx hb d_Md_foretold_58 (by decide) (fun h => absurd h (by decide +kernel)) (fun _ => ?_)
  refine lv_aload_n hx hb d_Md_foretold_61 rfl (lv_at hl 5 rfl) ?_
  refine vp_callSi (va_Run.run (va_runV (As := []) (rest := []) ⟨hx, hb, hml, hown, htb⟩ (c_Md_today l dC dI a k) (cwV 0 htb (gd_V tw_159 tw_160 tw_161 tw_138 tw_158) rfl rfl rfl (by decide +kernel) ⟨Nat.le_of_ble_eq_true rfl, Nat.le_of_ble_eq_true rfl⟩) ⟨pr_blind, va_recv hK hP (ci := 7) (q0 := 0) rfl rfl, pr_pre hP hK hN⟩ rfl rfl hl.1 rfl (lv_room (Nat.le_of_ble_eq_true rfl)) d_Md_foretold_62 ⟨Nat.le_of_ble_eq_true rfl, Nat.le_of_ble_eq_true rfl⟩)) (fun r er => ?_)
  subst er
  refine hb_ti 0 rfl ?_
  refine lv_bipush (v := 100) hx hb d_Md_foretold_65 (by decide +kernel) ?_
  refine lv_idiv hx hb d_Md_foretold_67 (by decide) ?_
  refine hb_ti 0 (by decide +kernel) ?_
  refine lv_iload hx hb d_Md_foretold_68 (lv_at hl 0 rfl) ?_
  refine lv_iadd hx hb d_Md_foretold_70 ?_
  refine hb_ti 31 (by decide +kernel) ?_
  refine lv_bipush (v := 100) hx hb d_Md_foretold_71 (by decide +kernel) ?_
  refine lv_imul hx hb d_Md_foretold_73 ?_
  refine hb_ti 3100 (by decide +kernel) ?_
  refine lv_istore (lv' := [(6, .int 3100), (5, .int 31), (7, .int 0), (3, .long 0), (1, .long 0), (0, .ref (a 0))]) hx hb d_Md_foretold_74 hl (by decide) rfl (fun ls hl => ?_)
  refine lv_lload_n hx hb d_Md_foretold_76 rfl (lv_at hl 3 rfl) ?_
  refine lv_lload_n hx hb d_Md_foretold_77 rfl (lv_at hl 4 rfl) ?_
  refine lv_ladd hx hb d_Md_foretold_78 ?_
  refine hb_tl 0 (by decide +kernel) ?_
  refine lv_lstore_n (lv' := [(3, .long 0), (6, .int 3100), (5, .int 31), (7, .int 0), (1, .long 0), (0, .ref (a 0))]) hx hb d_Md_foretold_79 rfl hl (by decide) rfl (fun ls hl => ?_)
  refine lv_iconst (v := 0) hx hb d_Md_foretold_80 (by decide +kernel) ?_
  refine lv_istore (lv' := [(7, .int 0), (3, .long 0), (6, .int 3100), (5, .int 31), (1, .long 0), (0, .ref (a 0))]) hx hb d_Md_foretold_81 hl (by decide) rfl (fun ls hl => ?_)
  refine lv_iload hx hb d_Md_foretold_83 (lv_at hl 0 rfl) ?_
  refine lv_aload_n hx hb d_Md_foretold_85 rfl (lv_at hl 5 rfl) ?_
  refine va_get (D := (dC, dI)) (ci := 7) (v := .int 0) (C := R_Md) (T := F_Md) (N := 64) hx hb htb i_Md hown hK hP 0 rfl rfl 60 (by decide) (htb (.fieldLink R_Md 323 "WaterMenModel" "pensioners" "I") tw_202) (fun _ h9 => h9) rfl d_Md_foretold_86 ?_
  refine lv_icmp_ge (tgt := 140) hx hb d_Md_foretold_89 (by decide) (fun _ => ?_) (fun h => absurd (by decide +kernel) h)
  refine lv_iinc (v := 32) (lv' := [(5, .int 32), (7, .int 0), (3, .long 0), (6, .int 3100), (1, .long 0), (0, .ref (a 0))]) hx hb d_Md_foretold_140 hl (k := 3) rfl (by decide +kernel) (by decide) rfl (fun ls hl => ?_)
  refine lv_goto (tgt := 54) hx hb d_Md_foretold_143 (by decide) ?_
  refine lv_iload hx hb d_Md_foretold_54 (lv_at hl 0 rfl) ?_
  refine lv_bipush (v := 40) hx hb d_Md_foretold_56 (by decide +kernel) ?_
  refine lv_icmp_gt (tgt := 146) hx hb d_Md_foretold_58 (by decide) (fun h => absurd h (by decide +kernel)) (fun _ => ?_)
  refine lv_aload_n hx hb d_Md_foretold_61 rfl (lv_at hl 5 rfl) ?_
  refine vp_callSi (va_Run.run (va_runV (As := []) (rest := []) ⟨hx, hb, hml, hown, htb⟩ (c_Md_today l dC dI a k) (cwV 0 htb (gd_V tw_159 tw_160 tw_161 tw_138 tw_158) rfl rfl rfl (by decide +kernel) ⟨Nat.le_of_ble_eq_true rfl, Nat.le_of_ble_eq_true rfl⟩) ⟨pr_blind, va_recv hK hP (ci := 7) (q0 := 0) rfl rfl, pr_pre hP hK hN⟩ rfl rfl hl.1 rfl (lv_room (Nat.le_of_ble_eq_true rfl)) d_Md_foretold_62 ⟨Nat.le_of_ble_eq_true rfl, Nat.le_of_ble_eq_true rfl⟩)) (fun r er => ?_)
  subst er
  refine hb_ti 0 rfl ?_
  refine lv_bipush (v := 100) hx hb d_Md_foretold_65 (by decide +kernel) ?_
  refine lv_idiv hx hb d_Md_foretold_67 (by decide) ?_
  refine hb_ti 0 (by decide +kernel) ?_
  refine lv_iload hx hb d_Md_foretold_68 (lv_at hl 0 rfl) ?_
  refine lv_iadd hx hb d_Md_foretold_70 ?_
  refine hb_ti 32 (by decide +kernel) ?_
  refine lv_bipush (v := 100) hx hb d_Md_foretold_71 (by decide +kernel) ?_
  refine lv_imul hx hb d_Md_foretold_73 ?_
  refine hb_ti 3200 (by decide +kernel) ?_
  refine lv_istore (lv' := [(6, .int 3200), (5, .int 32), (7, .int 0), (3, .long 0), (1, .long 0), (0, .ref (a 0))]) hx hb d_Md_foretold_74 hl (by decide) rfl (fun ls hl => ?_)
  refine lv_lload_n hx hb d_Md_foretold_76 rfl (lv_at hl 3 rfl) ?_
  refine lv_lload_n hx hb d_Md_foretold_77 rfl (lv_at hl 4 rfl) ?_
  refine lv_ladd hx hb d_Md_foretold_78 ?_
  refine hb_tl 0 (by decide +kernel) ?_
  refine lv_lstore_n (lv' := [(3, .long 0), (6, .int 3200), (5, .int 32), (7, .int 0), (1, .long 0), (0, .ref (a 0))]) hx hb d_Md_foretold_79 rfl hl (by decide) rfl (fun ls hl => ?_)
  refine lv_iconst (v := 0) hx hb d_Md_foretold_80 (by decide +kernel) ?_
  refine lv_istore (lv' := [(7, .int 0), (3, .long 0), (6, .int 3200), (5, .int 32), (1, .long 0), (0, .ref (a 0))]) hx hb d_Md_foretold_81 hl (by decide) rfl (fun ls hl => ?_)
  refine lv_iload hx hb d_Md_foretold_83 (lv_at hl 0 rfl) ?_
  refine lv_aload_n hx hb d_Md_foretold_85 rfl (lv_at hl 5 rfl) ?_
  refine va_get (D := (dC, dI)) (ci := 7) (v := .int 0) (C := R_Md) (T := F_Md) (N := 64) hx hb htb i_Md hown hK hP 0 rfl rfl 60 (by decide) (htb (.fieldLink R_Md 323 "WaterMenModel" "pensioners" "I") tw_202) (fun _ h9 => h9) rfl d_Md_foretold_86 ?_
  refine lv_icmp_ge (tgt := 140) hx hb d_Md_foretold_89 (by decide) (fun _ => ?_) (fun h => absurd (by decide +kernel) h)
  refine lv_iinc (v := 33) (lv' := [(5, .int 33), (7, .int 0), (3, .long 0), (6, .int 3200), (1, .long 0), (0, .ref (a 0))]) hx hb d_Md_foretold_140 hl (k := 3) rfl (by decide +kernel) (by decide) rfl (fun ls hl => ?_)
  refine lv_goto (tgt := 54) hx hb d_Md_foretold_143 (by decide) ?_
  refine lv_iload hx hb d_Md_foretold_54 (lv_at hl 0 rfl) ?_
  refine lv_bipush (v := 40) hx hb d_Md_foretold_56 (by decide +kernel) ?_
  refine lv_icmp_gt (tgt := 146) hx hb d_Md_foretold_58 (by decide) (fun h => absurd h (by decide +kernel)) (fun _ => ?_)
  refine lv_aload_n hx hb d_Md_foretold_61 rfl (lv_at hl 5 rfl) ?_
  refine vp_callSi (va_Run.run (va_runV (As := []) (rest := []) ⟨hx, hb, hml, hown, htb⟩ (c_Md_today l dC dI a k) (cwV 0 htb (gd_V tw_159 tw_160 tw_161 tw_138 tw_158) rfl rfl rfl (by decide +kernel) ⟨Nat.le_of_ble_eq_true rfl, Nat.le_of_ble_eq_true rfl⟩) ⟨pr_blind, va_recv hK hP (ci := 7) (q0 := 0) rfl rfl, pr_pre hP hK hN⟩ rfl rfl hl.1 rfl (lv_room (Nat.le_of_ble_eq_true rfl)) d_Md_foretold_62 ⟨Nat.le_of_ble_eq_true rfl, Nat.le_of_ble_eq_true rfl⟩)) (fun r er => ?_)
  subst er
  refine hb_ti 0 rfl ?_
  refine lv_bipush (v := 100) hx hb d_Md_foretold_65 (by decide +kernel) ?_
  refine lv_idiv hx hb d_Md_foretold_67 (by decide) ?_
  refine hb_ti 0 (by decide +kernel) ?_
  refine lv_iload hx hb d_Md_foretold_68 (lv_at hl 0 rfl) ?_
  refine lv_iadd hx hb d_Md_foretold_70 ?_
  refine hb_ti 33 (by decide +kernel) ?_
  refine lv_bipush (v := 100) hx hb d_Md_foretold_71 (by decide +kernel) ?_
  refine lv_imul hx hb d_Md_foretold_73 ?_
  refine hb_ti 3300 (by decide +kernel) ?_
  refine lv_istore (lv' := [(6, .int 3300), (5, .int 33), (7, .int 0), (3, .long 0), (1, .long 0), (0, .ref (a 0))]) hx hb d_Md_foretold_74 hl (by decide) rfl (fun ls hl => ?_)
  refine lv_lload_n hx hb d_Md_foretold_76 rfl (lv_at hl 3 rfl) ?_
  refine lv_lload_n hx hb d_Md_foretold_77 rfl (lv_at hl 4 rfl) ?_
  refine lv_ladd hx hb d_Md_foretold_78 ?_
  refine hb_tl 0 (by decide +kernel) ?_
  refine lv_lstore_n (lv' := [(3, .long 0), (6, .int 3300), (5, .int 33), (7, .int 0), (1, .long 0), (0, .ref (a 0))]) hx hb d_Md_foretold_79 rfl hl (by decide) rfl (fun ls hl => ?_)
  refine lv_iconst (v := 0) hx hb d_Md_foretold_80 (by decide +kernel) ?_
  refine lv_istore (lv' := [(7, .int 0), (3, .long 0), (6, .int 3300), (5, .int 33), (1, .long 0), (0, .ref (a 0))]) hx hb d_Md_foretold_81 hl (by decide) rfl (fun ls hl => ?_)
  refine lv_iload hx hb d_Md_foretold_83 (lv_at hl 0 rfl) ?_
  refine lv_aload_n hx hb d_Md_foretold_85 rfl (lv_at hl 5 rfl) ?_
  refine va_get (D := (dC, dI)) (ci := 7) (v := .int 0) (C := R_Md) (T := F_Md) (N := 64) hx hb htb i_Md hown hK hP 0 rfl rfl 60 (by decide) (htb (.fieldLink R_Md 323 "WaterMenModel" "pensioners" "I") tw_202) (fun _ h9 => h9) rfl d_Md_foretold_86 ?_
  refine lv_icmp_ge (tgt := 140) hx hb d_Md_foretold_89 (by decide) (fun _ => ?_) (fun h => absurd (by decide +kernel) h)
  refine lv_iinc (v := 34) (lv' := [(5, .int 34), (7, .int 0), (3, .long 0), (6, .int 3300), (1, .long 0), (0, .ref (a 0))]) hx hb d_Md_foretold_140 hl (k := 3) rfl (by decide +kernel) (by decide) rfl (fun ls hl => ?_)
  refine lv_goto (tgt := 54) hx hb d_Md_foretold_143 (by decide) ?_
  refine lv_iload hx hb d_Md_foretold_54 (lv_at hl 0 rfl) ?_
  refine lv_bipush (v := 40) hx hb d_Md_foretold_56 (by decide +kernel) ?_
  refine lv_icmp_gt (tgt := 146) hx hb d_Md_foretold_58 (by decide) (fun h => absurd h (by decide +kernel)) (fun _ => ?_)
  refine lv_aload_n hx hb d_Md_foretold_61 rfl (lv_at hl 5 rfl) ?_
  refine vp_callSi (va_Run.run (va_runV (As := []) (rest := []) ⟨hx, hb, hml, hown, htb⟩ (c_Md_today l dC dI a k) (cwV 0 htb (gd_V tw_159 tw_160 tw_161 tw_138 tw_158) rfl rfl rfl (by decide +kernel) ⟨Nat.le_of_ble_eq_true rfl, Nat.le_of_ble_eq_true rfl⟩) ⟨pr_blind, va_recv hK hP (ci := 7) (q0 := 0) rfl rfl, pr_pre hP hK hN⟩ rfl rfl hl.1 rfl (lv_room (Nat.le_of_ble_eq_true rfl)) d_Md_foretold_62 ⟨Nat.le_of_ble_eq_true rfl, Nat.le_of_ble_eq_true rfl⟩)) (fun r er => ?_)
  subst er
  refine hb_ti 0 rfl ?_
  refine lv_bipush (v := 100) hx hb d_Md_foretold_65 (by decide +kernel) ?_
  refine lv_idiv hx hb d_Md_foretold_67 (by decide) ?_
  refine hb_ti 0 (by decide +kernel) ?_
  refine lv_iload hx hb d_Md_foretold_68 (lv_at hl 0 rfl) ?_
  refine lv_iadd hx hb d_Md_foretold_70 ?_
  refine hb_ti 34 (by decide +kernel) ?_
  refine lv_bipush (v := 100) hx hb d_Md_foretold_71 (by decide +kernel) ?_
  refine lv_imul hx hb d_Md_foretold_73 ?_
  refine hb_ti 3400 (by decide +kernel) ?_
  refine lv_istore (lv' := [(6, .int 3400), (5, .int 34), (7, .int 0), (3, .long 0), (1, .long 0), (0, .ref (a 0))]) hx hb d_Md_foretold_74 hl (by decide) rfl (fun ls hl => ?_)
  refine lv_lload_n hx hb d_Md_foretold_76 rfl (lv_at hl 3 rfl) ?_
  refine lv_lload_n hx hb d_Md_foretold_77 rfl (lv_at hl 4 rfl) ?_
  refine lv_ladd hx hb d_Md_foretold_78 ?_
  refine hb_tl 0 (by decide +kernel) ?_
  refine lv_lstore_n (lv' := [(3, .long 0), (6, .int 3400), (5, .int 34), (7, .int 0), (1, .long 0), (0, .ref (a 0))]) hx hb d_Md_foretold_79 rfl hl (by decide) rfl (fun ls hl => ?_)
  refine lv_iconst (v := 0) hx hb d_Md_foretold_80 (by decide +kernel) ?_
  refine lv_istore (lv' := [(7, .int 0), (3, .long 0), (6, .int 3400), (5, .int 34), (1, .long 0), (0, .ref (a 0))]) hx hb d_Md_foretold_81 hl (by decide) rfl (fun ls hl => ?_)
  refine lv_iload hx hb d_Md_foretold_83 (lv_at hl 0 rfl) ?_
  refine lv_aload_n hx hb d_Md_foretold_85 rfl (lv_at hl 5 rfl) ?_
  refine va_get (D := (dC, dI)) (ci := 7) (v := .int 0) (C := R_Md) (T := F_Md) (N := 64) hx hb htb i_Md hown hK hP 0 rfl rfl 60 (by decide) (htb (.fieldLink R_Md 323 "WaterMenModel" "pensioners" "I") tw_202) (fun _ h9 => h9) rfl d_Md_foretold_86 ?_
  refine lv_icmp_ge (tgt := 140) hx hb d_Md_foretold_89 (by decide) (fun _ => ?_) (fun h => absurd (by decide +kernel) h)
  refine lv_iinc (v := 35) (lv' := [(5, .int 35), (7, .int 0), (3, .long 0), (6, .int 3400), (1, .long 0), (0, .ref (a 0))]) hx hb d_Md_foretold_140 hl (k := 3) rfl (by decide +kernel) (by decide) rfl (fun ls hl => ?_)
  refine lv_goto (tgt := 54) hx hb d_Md_foretold_143 (by decide) ?_
  refine lv_iload hx hb d_Md_foretold_54 (lv_at hl 0 rfl) ?_
  refine lv_bipush (v := 40) hx hb d_Md_foretold_56 (by decide +kernel) ?_
  refine lv_icmp_gt (tgt := 146) hx hb d_Md_foretold_58 (by decide) (fun h => absurd h (by decide +kernel)) (fun _ => ?_)
  refine lv_aload_n hx hb d_Md_foretold_61 rfl (lv_at hl 5 rfl) ?_
  refine vp_callSi (va_Run.run (va_runV (As := []) (rest := []) ⟨hx, hb, hml, hown, htb⟩ (c_Md_today l dC dI a k) (cwV 0 htb (gd_V tw_159 tw_160 tw_161 tw_138 tw_158) rfl rfl rfl (by decide +kernel) ⟨Nat.le_of_ble_eq_true rfl, Nat.le_of_ble_eq_true rfl⟩) ⟨pr_blind, va_recv hK hP (ci := 7) (q0 := 0) rfl rfl, pr_pre hP hK hN⟩ rfl rfl hl.1 rfl (lv_room (Nat.le_of_ble_eq_true rfl)) d_Md_foretold_62 ⟨Nat.le_of_ble_eq_true rfl, Nat.le_of_ble_eq_true rfl⟩)) (fun r er => ?_)
  subst er
  refine hb_ti 0 rfl ?_
  refine lv_bipush (v := 100) hx hb d_Md_foretold_65 (by decide +kernel) ?_
  refine lv_idiv hx hb d_Md_foretold_67 (by decide) ?_
  refine hb_ti 0 (by decide +kernel) ?_
  refine lv_iload hx hb d_Md_foretold_68 (lv_at hl 0 rfl) ?_
  refine lv_iadd hx hb d_Md_foretold_70 ?_
  refine hb_ti 35 (by decide +kernel) ?_
  refine lv_bipush (v := 100) hx hb d_Md_foretold_71 (by decide +kernel) ?_
  refine lv_imul hx hb d_Md_foretold_73 ?_
  refine hb_ti 3500 (by decide +kernel) ?_
  refine lv_istore (lv' := [(6, .int 3500), (5, .int 35), (7, .int 0), (3, .long 0), (1, .long 0), (0, .ref (a 0))]) hx hb d_Md_foretold_74 hl (by decide) rfl (fun ls hl => ?_)
  refine lv_lload_n hx hb d_Md_foretold_76 rfl (lv_at hl 3 rfl) ?_
  refine lv_lload_n hx hb d_Md_foretold_77 rfl (lv_at hl 4 rfl) ?_
  refine lv_ladd hx hb d_Md_foretold_78 ?_
  refine hb_tl 0 (by decide +kernel) ?_
  refine lv_lstore_n (lv' := [(3, .long 0), (6, .int 3500), (5, .int 35), (7, .int 0), (1, .long 0), (0, .ref (a 0))]) hx hb d_Md_foretold_79 rfl hl (by decide) rfl (fun ls hl => ?_)
  refine lv_iconst (v := 0) hx hb d_Md_foretold_80 (by decide +kernel) ?_
  refine lv_istore (lv' := [(7, .int 0), (3, .long 0), (6, .int 3500), (5, .int 35), (1, .long 0), (0, .ref (a 0))]) hx hb d_Md_foretold_81 hl (by decide) rfl (fun ls hl => ?_)
  refine lv_iload hx hb d_Md_foretold_83 (lv_at hl 0 rfl) ?_
  refine lv_aload_n hx hb d_Md_foretold_85 rfl (lv_at hl 5 rfl) ?_
  refine va_get (D := (dC, dI)) (ci := 7) (v := .int 0) (C := R_Md) (T := F_Md) (N := 64) hx hb htb i_Md hown hK hP 0 rfl rfl 60 (by decide) (htb (.fieldLink R_Md 323 "WaterMenModel" "pensioners" "I") tw_202) (fun _ h9 => h9) rfl d_Md_foretold_86 ?_
  refine lv_icmp_ge (tgt := 140) hx hb d_Md_foretold_89 (by decide) (fun _ => ?_) (fun h => absurd (by decide +kernel) h)
  refine lv_iinc (v := 36) (lv' := [(5, .int 36), (7, .int 0), (3, .long 0), (6, .int 3500), (1, .long 0), (0, .ref (a 0))]) hx hb d_Md_foretold_140 hl (k := 3) rfl (by decide +kernel) (by decide) rfl (fun ls hl => ?_)
  refine lv_goto (tgt := 54) hx hb d_Md_foretold_143 (by decide) ?_
  refine lv_iload hx hb d_Md_foretold_54 (lv_at hl 0 rfl) ?_
  refine lv_bipush (v := 40) hx hb d_Md_foretold_56 (by decide +kernel) ?_
  refine lv_icmp_gt (tgt := 146) hx hb d_Md_foretold_58 (by decide) (fun h => absurd h (by decide +kernel)) (fun _ => ?_)
  refine lv_aload_n hx hb d_Md_foretold_61 rfl (lv_at hl 5 rfl) ?_
  refine vp_callSi (va_Run.run (va_runV (As := []) (rest := []) ⟨hx, hb, hml, hown, htb⟩ (c_Md_today l dC dI a k) (cwV 0 htb (gd_V tw_159 tw_160 tw_161 tw_138 tw_158) rfl rfl rfl (by decide +kernel) ⟨Nat.le_of_ble_eq_true rfl, Nat.le_of_ble_eq_true rfl⟩) ⟨pr_blind, va_recv hK hP (ci := 7) (q0 := 0) rfl rfl, pr_pre hP hK hN⟩ rfl rfl hl.1 rfl (lv_room (Nat.le_of_ble_eq_true rfl)) d_Md_foretold_62 ⟨Nat.le_of_ble_eq_true rfl, Nat.le_of_ble_eq_true rfl⟩)) (fun r er => ?_)
  subst er
  refine hb_ti 0 rfl ?_
  refine lv_bipush (v := 100) hx hb d_Md_foretold_65 (by decide +kernel) ?_
  refine lv_idiv hx hb d_Md_foretold_67 (by decide) ?_
  refine hb_ti 0 (by decide +kernel) ?_
  refine lv_iload hx hb d_Md_foretold_68 (lv_at hl 0 rfl) ?_
  refine lv_iadd hx hb d_Md_foretold_70 ?_
  refine hb_ti 36 (by decide +kernel) ?_
  refine lv_bipush (v := 100) hx hb d_Md_foretold_71 (by decide +kernel) ?_
  refine lv_imul hx hb d_Md_foretold_73 ?_
  refine hb_ti 3600 (by decide +kernel) ?_
  refine lv_istore (lv' := [(6, .int 3600), (5, .int 36), (7, .int 0), (3, .long 0), (1, .long 0), (0, .ref (a 0))]) hx hb d_Md_foretold_74 hl (by decide) rfl (fun ls hl => ?_)
  refine lv_lload_n hx hb d_Md_foretold_76 rfl (lv_at hl 3 rfl) ?_
  refine lv_lload_n hx hb d_Md_foretold_77 rfl (lv_at hl 4 rfl) ?_
  refine lv_ladd hx hb d_Md_foretold_78 ?_
  refine hb_tl 0 (by decide +kernel) ?_
  refine lv_lstore_n (lv' := [(3, .long 0), (6, .int 3600), (5, .int 36), (7, .int 0), (1, .long 0), (0, .ref (a 0))]) hx hb d_Md_foretold_79 rfl hl (by decide) rfl (fun ls hl => ?_)
  refine lv_iconst (v := 0) hx hb d_Md_foretold_80 (by decide +kernel) ?_
  refine lv_istore (lv' := [(7, .int 0), (3, .long 0), (6, .int 3600), (5, .int 36), (1, .long 0), (0, .ref (a 0))]) hx hb d_Md_foretold_81 hl (by decide) rfl (fun ls hl => ?_)
  refine lv_iload hx hb d_Md_foretold_83 (lv_at hl 0 rfl) ?_
  refine lv_aload_n hx hb d_Md_foretold_85 rfl (lv_at hl 5 rfl) ?_
  refine va_get (D := (dC, dI)) (ci := 7) (v := .int 0) (C := R_Md) (T := F_Md) (N := 64) hx hb htb i_Md hown hK hP 0 rfl rfl 60 (by decide) (htb (.fieldLink R_Md 323 "WaterMenModel" "pensioners" "I") tw_202) (fun _ h9 => h9) rfl d_Md_foretold_86 ?_
  refine lv_icmp_ge (tgt := 140) hx hb d_Md_foretold_89 (by decide) (fun _ => ?_) (fun h => absurd (by decide +kernel) h)
  refine lv_iinc (v := 37) (lv' := [(5, .int 37), (7, .int 0), (3, .long 0), (6, .int 3600), (1, .long 0), (0, .ref (a 0))]) hx hb d_Md_foretold_140 hl (k := 3) rfl (by decide +kernel) (by decide) rfl (fun ls hl => ?_)
  refine lv_goto (tgt := 54) hx hb d_Md_foretold_143 (by decide) ?_
  refine lv_iload hx hb d_Md_foretold_54 (lv_at hl 0 rfl) ?_
  refine lv_bipush (v := 40) hx hb d_Md_foretold_56 (by decide +kernel) ?_
  refine lv_icmp_gt (tgt := 146) hx hb d_Md_foretold_58 (by decide) (fun h => absurd h (by decide +kernel)) (fun _ => ?_)
  refine lv_aload_n hx hb d_Md_foretold_61 rfl (lv_at hl 5 rfl) ?_
  refine vp_callSi (va_Run.run (va_runV (As := []) (rest := []) ⟨hx, hb, hml, hown, htb⟩ (c_Md_today l dC dI a k) (cwV 0 htb (gd_V tw_159 tw_160 tw_161 tw_138 tw_158) rfl rfl rfl (by decide +kernel) ⟨Nat.le_of_ble_eq_true rfl, Nat.le_of_ble_eq_true rfl⟩) ⟨pr_blind, va_recv hK hP (ci := 7) (q0 := 0) rfl rfl, pr_pre hP hK hN⟩ rfl rfl hl.1 rfl (lv_room (Nat.le_of_ble_eq_true rfl)) d_Md_foretold_62 ⟨Nat.le_of_ble_eq_true rfl, Nat.le_of_ble_eq_true rfl⟩)) (fun r er => ?_)
  subst er
  refine hb_ti 0 rfl ?_
  refine lv_bipush (v := 100) hx hb d_Md_foretold_65 (by decide +kernel) ?_
  refine lv_idiv hx hb d_Md_foretold_67 (by decide) ?_
  refine hb_ti 0 (by decide +kernel) ?_
  refine lv_iload hx hb d_Md_foretold_68 (lv_at hl 0 rfl) ?_
  refine lv_iadd hx hb d_Md_foretold_70 ?_
  refine hb_ti 37 (by decide +kernel) ?_
  refine lv_bipush (v := 100) hx hb d_Md_foretold_71 (by decide +kernel) ?_
  refine lv_imul hx hb d_Md_foretold_73 ?_
  refine hb_ti 3700 (by decide +kernel) ?_
  refine lv_istore (lv' := [(6, .int 3700), (5, .int 37), (7, .int 0), (3, .long 0), (1, .long 0), (0, .ref (a 0))]) hx hb d_Md_foretold_74 hl (by decide) rfl (fun ls hl => ?_)
  refine lv_lload_n hx hb d_Md_foretold_76 rfl (lv_at hl 3 rfl) ?_
  refine lv_lload_n hx hb d_Md_foretold_77 rfl (lv_at hl 4 rfl) ?_
  refine lv_ladd hx hb d_Md_foretold_78 ?_
  refine hb_tl 0 (by decide +kernel) ?_
  refine lv_lstore_n (lv' := [(3, .long 0), (6, .int 3700), (5, .int 37), (7, .int 0), (1, .long 0), (0, .ref (a 0))]) hx hb d_Md_foretold_79 rfl hl (by decide) rfl (fun ls hl => ?_)
  refine lv_iconst (v := 0) hx hb d_Md_foretold_80 (by decide +kernel) ?_
  refine lv_istore (lv' := [(7, .int 0), (3, .long 0), (6, .int 3700), (5, .int 37), (1, .long 0), (0, .ref (a 0))]) hx hb d_Md_foretold_81 hl (by decide) rfl (fun ls hl => ?_)
  refine lv_iload hx hb d_Md_foretold_83 (lv_at hl 0 rfl) ?_
  refine lv_aload_n hx hb d_Md_foretold_85 rfl (lv_at hl 5 rfl) ?_
  refine va_get (D := (dC, dI)) (ci := 7) (v := .int 0) (C := R_Md) (T := F_Md) (N := 64) hx hb htb i_Md hown hK hP 0 rfl rfl 60 (by decide) (htb (.fieldLink R_Md 323 "WaterMenModel" "pensioners" "I") tw_202) (fun _ h9 => h9) rfl d_Md_foretold_86 ?_
  refine lv_icmp_ge (tgt := 140) hx hb d_Md_foretold_89 (by decide) (fun _ => ?_) (fun h => absurd (by decide +kernel) h)
  refine lv_iinc (v := 38) (lv' := [(5, .int 38), (7, .int 0), (3, .long 0), (6, .int 3700), (1, .long 0), (0, .ref (a 0))]) hx hb d_Md_foretold_140 hl (k := 3) rfl (by decide +kernel) (by decide) rfl (fun ls hl => ?_)
  refine lv_goto (tgt := 54) hx hb d_Md_foretold_143 (by decide) ?_
  refine lv_iload hx hb d_Md_foretold_54 (lv_at hl 0 rfl) ?_
  refine lv_bipush (v := 40) hx hb d_Md_foretold_56 (by decide +kernel) ?_
  refine lv_icmp_gt (tgt := 146) hx hb d_Md_foretold_58 (by decide) (fun h => absurd h (by decide +kernel)) (fun _ => ?_)
  refine lv_aload_n hx hb d_Md_foretold_61 rfl (lv_at hl 5 rfl) ?_
  refine vp_callSi (va_Run.run (va_runV (As := []) (rest := []) ⟨hx, hb, hml, hown, htb⟩ (c_Md_today l dC dI a k) (cwV 0 htb (gd_V tw_159 tw_160 tw_161 tw_138 tw_158) rfl rfl rfl (by decide +kernel) ⟨Nat.le_of_ble_eq_true rfl, Nat.le_of_ble_eq_true rfl⟩) ⟨pr_blind, va_recv hK hP (ci := 7) (q0 := 0) rfl rfl, pr_pre hP hK hN⟩ rfl rfl hl.1 rfl (lv_room (Nat.le_of_ble_eq_true rfl)) d_Md_foretold_62 ⟨Nat.le_of_ble_eq_true rfl, Nat.le_of_ble_eq_true rfl⟩)) (fun r er => ?_)
  subst er
  refine hb_ti 0 rfl ?_
  refine lv_bipush (v := 100) hx hb d_Md_foretold_65 (by decide +kernel) ?_
  refine lv_idiv hx hb d_Md_foretold_67 (by decide) ?_
  refine hb_ti 0 (by decide +kernel) ?_
  refine lv_iload hx hb d_Md_foretold_68 (lv_at hl 0 rfl) ?_
  refine lv_iadd hx hb d_Md_foretold_70 ?_
  refine hb_ti 38 (by decide +kernel) ?_
  refine lv_bipush (v := 100) hx hb d_Md_foretold_71 (by decide +kernel) ?_
  refine lv_imul hx hb d_Md_foretold_73 ?_
  refine hb_ti 3800 (by decide +kernel) ?_
  refine lv_istore (lv' := [(6, .int 3800), (5, .int 38), (7, .int 0), (3, .long 0), (1, .long 0), (0, .ref (a 0))]) hx hb d_Md_foretold_74 hl (by decide) rfl (fun ls hl => ?_)
  refine lv_lload_n hx hb d_Md_foretold_76 rfl (lv_at hl 3 rfl) ?_
  refine lv_lload_n hx hb d_Md_foretold_77 rfl (lv_at hl 4 rfl) ?_
  refine lv_ladd hx hb d_Md_foretold_78 ?_
  refine hb_tl 0 (by decide +kernel) ?_
  refine lv_lstore_n (lv' := [(3, .long 0), (6, .int 3800), (5, .int 38), (7, .int 0), (1, .long 0), (0, .ref (a 0))]) hx hb d_Md_foretold_79 rfl hl (by decide) rfl (fun ls hl => ?_)
  refine lv_iconst (v := 0) hx hb d_Md_foretold_80 (by decide +kernel) ?_
  refine lv_istore (lv' := [(7, .int 0), (3, .long 0), (6, .int 3800), (5, .int 38), (1, .long 0), (0, .ref (a 0))]) hx hb d_Md_foretold_81 hl (by decide) rfl (fun ls hl => ?_)
  refine lv_iload hx hb d_Md_foretold_83 (lv_at hl 0 rfl) ?_
  refine lv_aload_n hx hb d_Md_foretold_85 rfl (lv_at hl 5 rfl) ?_
  refine va_get (D := (dC, dI)) (ci := 7) (v := .int 0) (C := R_Md) (T := F_Md) (N := 64) hx hb htb i_Md hown hK hP 0 rfl rfl 60 (by decide) (htb (.fieldLink R_Md 323 "WaterMenModel" "pensioners" "I") tw_202) (fun _ h9 => h9) rfl d_Md_foretold_86 ?_
  refine lv_icmp_ge (tgt := 140) hx hb d_Md_foretold_89 (by decide) (fun _ => ?_) (fun h => absurd (by decide +kernel) h)
  refine lv_iinc (v := 39) (lv' := [(5, .int 39), (7, .int 0), (3, .long 0), (6, .int 3800), (1, .long 0), (0, .ref (a 0))]) hx hb d_Md_foretold_140 hl (k := 3) rfl (by decide +kernel) (by decide) rfl (fun ls hl => ?_)
  refine lv_goto (tgt := 54) hx hb d_Md_foretold_143 (by decide) ?_
  refine lv_iload hx hb d_Md_foretold_54 (lv_at hl 0 rfl) ?_
  refine lv_bipush (v := 40) hx hb d_Md_foretold_56 (by decide +kernel) ?_
  refine lv_icmp_gt (tgt := 146) hx hb d_Md_foretold_58 (by decide) (fun h => absurd h (by decide +kernel)) (fun _ => ?_)
  refine lv_aload_n hx hb d_Md_foretold_61 rfl (lv_at hl 5 rfl) ?_
  refine vp_callSi (va_Run.run (va_runV (As := []) (rest := []) ⟨hx, hb, hml, hown, htb⟩ (c_Md_today l dC dI a k) (cwV 0 htb (gd_V tw_159 tw_160 tw_161 tw_138 tw_158) rfl rfl rfl (by decide +kernel) ⟨Nat.le_of_ble_eq_true rfl, Nat.le_of_ble_eq_true rfl⟩) ⟨pr_blind, va_recv hK hP (ci := 7) (q0 := 0) rfl rfl, pr_pre hP hK hN⟩ rfl rfl hl.1 rfl (lv_room (Nat.le_of_ble_eq_true rfl)) d_Md_foretold_62 ⟨Nat.le_of_ble_eq_true rfl, Nat.le_of_ble_eq_true rfl⟩)) (fun r er => ?_)
  subst er
  refine hb_ti 0 rfl ?_
  refine lv_bipush (v := 100) hx hb d_Md_foretold_65 (by decide +kernel) ?_
  refine lv_idiv hx hb d_Md_foretold_67 (by decide) ?_
  refine hb_ti 0 (by decide +kernel) ?_
  refine lv_iload hx hb d_Md_foretold_68 (lv_at hl 0 rfl) ?_
  refine lv_iadd hx hb d_Md_foretold_70 ?_
  refine hb_ti 39 (by decide +kernel) ?_
  refine lv_bipush (v := 100) hx hb d_Md_foretold_71 (by decide +kernel) ?_
  refine lv_imul hx hb d_Md_foretold_73 ?_
  refine hb_ti 3900 (by decide +kernel) ?_
  refine lv_istore (lv' := [(6, .int 3900), (5, .int 39), (7, .int 0), (3, .long 0), (1, .long 0), (0, .ref (a 0))]) hx hb d_Md_foretold_74 hl (by decide) rfl (fun ls hl => ?_)
  refine lv_lload_n hx hb d_Md_foretold_76 rfl (lv_at hl 3 rfl) ?_
  refine lv_lload_n hx hb d_Md_foretold_77 rfl (lv_at hl 4 rfl) ?_
  refine lv_ladd hx hb d_Md_foretold_78 ?_
  refine hb_tl 0 (by decide +kernel) ?_
  refine lv_lstore_n (lv' := [(3, .long 0), (6, .int 3900), (5, .int 39), (7, .int 0), (1, .long 0), (0, .ref (a 0))]) hx hb d_Md_foretold_79 rfl hl (by decide) rfl (fun ls hl => ?_)
  refine lv_iconst (v := 0) hx hb d_Md_foretold_80 (by decide +kernel) ?_
  refine lv_istore (lv' := [(7, .int 0), (3, .long 0), (6, .int 3900), (5, .int 39), (1, .long 0), (0, .ref (a 0))]) hx hb d_Md_foretold_81 hl (by decide) rfl (fun ls hl => ?_)
  refine lv_iload hx hb d_Md_foretold_83 (lv_at hl 0 rfl) ?_
  refine lv_aload_n hx hb d_Md_foretold_85 rfl (lv_at hl 5 rfl) ?_
  refine va_get (D := (dC, dI)) (ci := 7) (v := .int 0) (C := R_Md) (T := F_Md) (N := 64) hx hb htb i_Md hown hK hP 0 rfl rfl 60 (by decide) (htb (.fieldLink R_Md 323 "WaterMenModel" "pensioners" "I") tw_202) (fun _ h9 => h9) rfl d_Md_foretold_86 ?_
  refine lv_icmp_ge (tgt := 140) hx hb d_Md_foretold_89 (by decide) (fun _ => ?_) (fun h => absurd (by decide +kernel) h)
  refine lv_iinc (v := 40) (lv' := [(5, .int 40), (7, .int 0), (3, .long 0), (6, .int 3900), (1, .long 0), (0, .ref (a 0))]) hx hb d_Md_foretold_140 hl (k := 3) rfl (by decide +kernel) (by decide) rfl (fun ls hl => ?_)
  refine lv_goto (tgt := 54) hx hb d_Md_foretold_143 (by decide) ?_
  refine lv_iload hx hb d_Md_foretold_54 (lv_at hl 0 rfl) ?_
  refine lv_bipush (v := 40) hx hb d_Md_foretold_56 (by decide +kernel) ?_
  refine lv_icmp_gt (tgt := 146) hx hb d_Md_foretold_58 (by decide) (fun h => absurd h (by decide +kernel)) (fun _ => ?_)
  refine lv_aload_n hx hb d_Md_foretold_61 rfl (lv_at hl 5 rfl) ?_
  refine vp_callSi (va_Run.run (va_runV (As := []) (rest := []) ⟨hx, hb, hml, hown, htb⟩ (c_Md_today l dC dI a k) (cwV 0 htb (gd_V tw_159 tw_160 tw_161 tw_138 tw_158) rfl rfl rfl (by decide +kernel) ⟨Nat.le_of_ble_eq_true rfl, Nat.le_of_ble_eq_true rfl⟩) ⟨pr_blind, va_recv hK hP (ci := 7) (q0 := 0) rfl rfl, pr_pre hP hK hN⟩ rfl rfl hl.1 rfl (lv_room (Nat.le_of_ble_eq_true rfl)) d_Md_foretold_62 ⟨Nat.le_of_ble_eq_true rfl, Nat.le_of_ble_eq_true rfl⟩)) (fun r er => ?_)
  subst er
  refine hb_ti 0 rfl ?_
  refine lv_bipush (v := 100) hx hb d_Md_foretold_65 (by decide +kernel) ?_
  refine lv_idiv hx hb d_Md_foretold_67 (by decide) ?_
  refine hb_ti 0 (by decide +kernel) ?_
  refine lv_iload hx hb d_Md_foretold_68 (lv_at hl 0 rfl) ?_
  refine lv_iadd hx hb d_Md_foretold_70 ?_
  refine hb_ti 40 (by decide +kernel) ?_
  refine lv_bipush (v := 100) hx hb d_Md_foretold_71 (by decide +kernel) ?_
  refine lv_imul hx hb d_Md_foretold_73 ?_
  refine hb_ti 4000 (by decide +kernel) ?_
  refine lv_istore (lv' := [(6, .int 4000), (5, .int 40), (7, .int 0), (3, .long 0), (1, .long 0), (0, .ref (a 0))]) hx hb d_Md_foretold_74 hl (by decide) rfl (fun ls hl => ?_)
  refine lv_lload_n hx hb d_Md_foretold_76 rfl (lv_at hl 3 rfl) ?_
  refine lv_lload_n hx hb d_Md_foretold_77 rfl (lv_at hl 4 rfl) ?_
  refine lv_ladd hx hb d_Md_foretold_78 ?_
  refine hb_tl 0 (by decide +kernel) ?_
  refine lv_lstore_n (lv' := [(3, .long 0), (6, .int 4000), (5, .int 40), (7, .int 0), (1, .long 0), (0, .ref (a 0))]) hx hb d_Md_foretold_79 rfl hl (by decide) rfl (fun ls hl => ?_)
  refine lv_iconst (v := 0) hx hb d_Md_foretold_80 (by decide +kernel) ?_
  refine lv_istore (lv' := [(7, .int 0), (3, .long 0), (6, .int 4000), (5, .int 40), (1, .long 0), (0, .ref (a 0))]) hx hb d_Md_foretold_81 hl (by decide) rfl (fun ls hl => ?_)
  refine lv_iload hx hb d_Md_foretold_83 (lv_at hl 0 rfl) ?_
  refine lv_aload_n hx hb d_Md_foretold_85 rfl (lv_at hl 5 rfl) ?_
  refine va_get (D := (dC, dI)) (ci := 7) (v := .int 0) (C := R_Md) (T := F_Md) (N := 64) hx hb htb i_Md hown hK hP 0 rfl rfl 60 (by decide) (htb (.fieldLink R_Md 323 "WaterMenModel" "pensioners" "I") tw_202) (fun _ h9 => h9) rfl d_Md_foretold_86 ?_
  refine lv_icmp_ge (tgt := 140) hx hb d_Md_foretold_89 (by decide) (fun _ => ?_) (fun h => absurd (by decide +kernel) h)
  refine lv_iinc (v := 41) (lv' := [(5, .int 41), (7, .int 0), (3, .long 0), (6, .int 4000), (1, .long 0), (0, .ref (a 0))]) hx hb d_Md_foretold_140 hl (k := 3) rfl (by decide +kernel) (by decide) rfl (fun ls hl => ?_)
  refine lv_goto (tgt := 54) hx hb d_Md_foretold_143 (by decide) ?_
  refine lv_iload hx hb d_Md_foretold_54 (lv_at hl 0 rfl) ?_
  refine lv_bipush (v := 40) hx hb d_Md_foretold_56 (by decide +kernel) ?_
  refine lv_icmp_gt (tgt := 146) hx hb d_Md_foretold_58 (by decide) (fun _ => ?_) (fun h => absurd (by decide +kernel) h)
  refine lv_bipush (v := (-2)) hx hb d_Md_foretold_146 (by decide +kernel) ?_
  exact W.iret (v := (-2)) hx hb hr (fun t ht hW => ⟨(-2), rfl, rfl, ht⟩) t_nil d_Md_foretold_148
