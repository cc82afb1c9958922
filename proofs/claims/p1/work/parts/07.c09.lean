def f_WM_coins (p_0 : Int32) : Int32 := if p_0 = 0 then (0) else (if p_0 = 1 then (0) else (if p_0 = 2 then (0) else (if p_0 = 3 then (0) else (if p_0 = 4 then (0) else ((-1))))))
set_option maxHeartbeats 4000000 in
set_option maxRecDepth 100000 in
theorem c_WM_coins (l : Launch) (dC : Nat → ClassId) (dI : Nat → Nat → Nat) (a : Nat → Nat) (k : Nat → ClassId) (L : List Nat) (hL : L.length = 40)  (p_0 : Int32)  : Met l y_WM_coins (.code y_WM_coins b_WM_coins 2 (some .int) :: TB) ({ frames := 1, cells := 0, slots := 0, locals := 23 }) (va_Pc [.ref (a 0), .int p_0] (PR dC dI (XW a k L) (XT k))) (vp_Si (fun r => r = f_WM_coins p_0)) 0 0 (fun _ => False) := by
  refine Met.ofW (cc := b_WM_coins) (maxL := 2) (ret := (some .int)) (by decide) rfl ?_
  intro p e s m args below meth c s₁ B hml hv
  obtain ⟨rfl, hP, hK, hN⟩ := hv
  have hx := B.exec
  have hb := B.bytes
  have hr := B.returns
  have hts := atoms_spec (ws := (.code y_WM_coins b_WM_coins 2 (some .int) :: TB)) B.pre
  have htb := fun w (h : w ∈ TB) => hts w (List.mem_cons_of_mem _ h)
  have hown : s.vm.findClass R_WM = some m.cls := findClass_of_methodNamed B.named
  have hlocks := B.notSynchronized
  have hl := lv_entry ([.ref (a 0), .int p_0]) (n := 2) (Nat.le_of_ble_eq_true rfl)
  rw [lg_entry_eq]
  generalize (lg_sl ([.ref (a 0), .int p_0]) ++ List.replicate (2 - (lg_sl ([.ref (a 0), .int p_0])).length) Slot.unset).toArray = ls at hl ⊢
  have hl : lv_has ls 2 [(0, .ref (a 0)), (1, .int p_0)] := hl
  refine lv_iload_n hx hb d_WM_coins_0 rfl (lv_at hl 1 rfl) ?_
  by_cases c_1 : p_0 = 0
  · refine lv_tableIn (off := 35) (tgt := 36) hx hb d_WM_coins_1 (by rw [c_1]; decide +kernel) (by rw [c_1]; decide +kernel) (by rw [c_1]; decide +kernel) (by decide) ?_
    refine lv_aload_n hx hb d_WM_coins_36 rfl (lv_at hl 0 rfl) ?_
    refine va_get (D := (dC, dI)) (ci := 0) (v := .ref (a 12)) (C := R_WM) (T := F_WM) (N := 13) hx hb htb i_WM hown hK hP 0 rfl rfl 6 (by decide) (htb (.fieldLink R_WM 50 "WaterMen" "box" "LWaterMen$Box;") tw_94) (fun _ h9 => h9) rfl d_WM_coins_37 ?_
    refine va_get (D := (dC, dI)) (ci := 5) (v := .int 0) (C := R_Bx) (T := F_Bx) (N := 7) hx hb htb i_Bx hown hK hP 12 rfl rfl 0 (by decide) (htb (.fieldLink R_WM 343 "WaterMen$Box" "coins" "I") tw_287) (fun _ h9 => h9) rfl d_WM_coins_40 ?_
    exact W.iret (v := 0) hx hb hr (fun t ht hW => ⟨0, rfl, (by unfold f_WM_coins; rw [if_pos c_1]), ht⟩) t_nil d_WM_coins_43
  · by_cases c_2 : p_0 = 1
    · refine lv_tableIn (off := 43) (tgt := 44) hx hb d_WM_coins_1 (by rw [c_2]; decide +kernel) (by rw [c_2]; decide +kernel) (by rw [c_2]; decide +kernel) (by decide) ?_
      refine lv_aload_n hx hb d_WM_coins_44 rfl (lv_at hl 0 rfl) ?_
      refine va_get (D := (dC, dI)) (ci := 0) (v := .ref (a 12)) (C := R_WM) (T := F_WM) (N := 13) hx hb htb i_WM hown hK hP 0 rfl rfl 6 (by decide) (htb (.fieldLink R_WM 50 "WaterMen" "box" "LWaterMen$Box;") tw_94) (fun _ h9 => h9) rfl d_WM_coins_45 ?_
      refine va_get (D := (dC, dI)) (ci := 5) (v := .int 0) (C := R_Bx) (T := F_Bx) (N := 7) hx hb htb i_Bx hown hK hP 12 rfl rfl 1 (by decide) (htb (.fieldLink R_WM 344 "WaterMen$Box" "pot" "I") tw_288) (fun _ h9 => h9) rfl d_WM_coins_48 ?_
      exact W.iret (v := 0) hx hb hr (fun t ht hW => ⟨0, rfl, (by unfold f_WM_coins; rw [if_neg c_1, if_pos c_2]), ht⟩) t_nil d_WM_coins_51
    · by_cases c_3 : p_0 = 2
      · refine lv_tableIn (off := 51) (tgt := 52) hx hb d_WM_coins_1 (by rw [c_3]; decide +kernel) (by rw [c_3]; decide +kernel) (by rw [c_3]; decide +kernel) (by decide) ?_
        refine lv_aload_n hx hb d_WM_coins_52 rfl (lv_at hl 0 rfl) ?_
        refine vp_callSi (va_Run.run (va_runV (As := []) (rest := []) ⟨hx, hb, hml, hown, htb⟩ (c_WM_coinsOfMen l dC dI a k L hL) (cwV 0 htb (gd_V tw_290 tw_291 tw_292 tw_124 tw_289) rfl rfl rfl (by decide +kernel) ⟨Nat.le_of_ble_eq_true rfl, Nat.le_of_ble_eq_true rfl⟩) ⟨pr_blind, va_recv hK hP (ci := 0) (q0 := 0) rfl rfl, pr_pre hP hK hN⟩ rfl rfl hl.1 rfl (lv_room (Nat.le_of_ble_eq_true rfl)) d_WM_coins_53 ⟨Nat.le_of_ble_eq_true rfl, Nat.le_of_ble_eq_true rfl⟩)) (fun r er => ?_)
        subst er
        refine hb_ti 0 rfl ?_
        exact W.iret (v := 0) hx hb hr (fun t ht hW => ⟨0, rfl, (by unfold f_WM_coins; rw [if_neg c_1, if_neg c_2, if_pos c_3]), ht⟩) t_nil d_WM_coins_56
      · by_cases c_4 : p_0 = 3
        · refine lv_tableIn (off := 56) (tgt := 57) hx hb d_WM_coins_1 (by rw [c_4]; decide +kernel) (by rw [c_4]; decide +kernel) (by rw [c_4]; decide +kernel) (by decide) ?_
          refine lv_aload_n hx hb d_WM_coins_57 rfl (lv_at hl 0 rfl) ?_
          refine va_get (D := (dC, dI)) (ci := 0) (v := .ref (a 12)) (C := R_WM) (T := F_WM) (N := 13) hx hb htb i_WM hown hK hP 0 rfl rfl 6 (by decide) (htb (.fieldLink R_WM 50 "WaterMen" "box" "LWaterMen$Box;") tw_94) (fun _ h9 => h9) rfl d_WM_coins_58 ?_
          refine va_get (D := (dC, dI)) (ci := 5) (v := .int 0) (C := R_Bx) (T := F_Bx) (N := 7) hx hb htb i_Bx hown hK hP 12 rfl rfl 2 (by decide) (htb (.fieldLink R_WM 350 "WaterMen$Box" "allPaid" "I") tw_293) (fun _ h9 => h9) rfl d_WM_coins_61 ?_
          exact W.iret (v := 0) hx hb hr (fun t ht hW => ⟨0, rfl, (by unfold f_WM_coins; rw [if_neg c_1, if_neg c_2, if_neg c_3, if_pos c_4]), ht⟩) t_nil d_WM_coins_64
        · by_cases c_5 : p_0 = 4
          · refine lv_tableIn (off := 64) (tgt := 65) hx hb d_WM_coins_1 (by rw [c_5]; decide +kernel) (by rw [c_5]; decide +kernel) (by rw [c_5]; decide +kernel) (by decide) ?_
            refine lv_aload_n hx hb d_WM_coins_65 rfl (lv_at hl 0 rfl) ?_
            refine va_get (D := (dC, dI)) (ci := 0) (v := .ref (a 12)) (C := R_WM) (T := F_WM) (N := 13) hx hb htb i_WM hown hK hP 0 rfl rfl 6 (by decide) (htb (.fieldLink R_WM 50 "WaterMen" "box" "LWaterMen$Box;") tw_94) (fun _ h9 => h9) rfl d_WM_coins_66 ?_
            refine va_get (D := (dC, dI)) (ci := 5) (v := .int 0) (C := R_Bx) (T := F_Bx) (N := 7) hx hb htb i_Bx hown hK hP 12 rfl rfl 3 (by decide) (htb (.fieldLink R_WM 353 "WaterMen$Box" "allPensions" "I") tw_294) (fun _ h9 => h9) rfl d_WM_coins_69 ?_
            exact W.iret (v := 0) hx hb hr (fun t ht hW => ⟨0, rfl, (by unfold f_WM_coins; rw [if_neg c_1, if_neg c_2, if_neg c_3, if_neg c_4, if_pos c_5]), ht⟩) t_nil d_WM_coins_72
          · refine lv_tableOut (tgt := 73) hx hb d_WM_coins_1 (by have h0 := lv_neT c_1 (show (0 : Int32).toInt = 0 by decide +kernel); have h1 := lv_neT c_2 (show (1 : Int32).toInt = 1 by decide +kernel); have h2 := lv_neT c_3 (show (2 : Int32).toInt = 2 by decide +kernel); have h3 := lv_neT c_4 (show (3 : Int32).toInt = 3 by decide +kernel); have h4 := lv_neT c_5 (show (4 : Int32).toInt = 4 by decide +kernel); omega) (by decide) ?_
            refine lv_iconst (v := (-1)) hx hb d_WM_coins_73 (by decide +kernel) ?_
            exact W.iret (v := (-1)) hx hb hr (fun t ht hW => ⟨(-1), rfl, (by unfold f_WM_coins; rw [if_neg c_1, if_neg c_2, if_neg c_3, if_neg c_4, if_neg c_5]), ht⟩) t_nil d_WM_coins_74
def f_Md_in (p_0 : Int32) (p_1 : Int32) (p_2 : Int32) : Int32 := if p_0 < p_1 then (0) else (if p_2 < p_0 then (0) else (1))
set_option maxHeartbeats 4000000 in
set_option maxRecDepth 100000 in
theorem c_Md_in (l : Launch)  (p_0 : Int32) (p_1 : Int32) (p_2 : Int32)  : Met l y_Md_in (.code y_Md_in b_Md_in 3 (some .boolean) :: TB) ({ frames := 0, cells := 0, slots := 0, locals := 0 }) (va_Pc [.int p_0, .int p_1, .int p_2] (fun _ => True)) (vp_Si (fun r => r = f_Md_in p_0 p_1 p_2)) 0 0 (fun _ => False) := by
  refine Met.ofW (cc := b_Md_in) (maxL := 3) (ret := (some .boolean)) (by decide) rfl ?_
  intro p e s m args below meth c s₁ B hml hv
  obtain ⟨rfl, -⟩ := hv
  have hx := B.exec
  have hb := B.bytes
  have hr := B.returns
  have hts := atoms_spec (ws := (.code y_Md_in b_Md_in 3 (some .boolean) :: TB)) B.pre
  have htb := fun w (h : w ∈ TB) => hts w (List.mem_cons_of_mem _ h)
  have hown : s.vm.findClass R_Md = some m.cls := findClass_of_methodNamed B.named
  have hlocks := B.notSynchronized
  have hl := lv_entry ([.int p_0, .int p_1, .int p_2]) (n := 3) (Nat.le_of_ble_eq_true rfl)
  rw [lg_entry_eq]
  generalize (lg_sl ([.int p_0, .int p_1, .int p_2]) ++ List.replicate (3 - (lg_sl ([.int p_0, .int p_1, .int p_2])).length) Slot.unset).toArray = ls at hl ⊢
  have hl : lv_has ls 3 [(0, .int p_0), (1, .int p_1), (2, .int p_2)] := hl
  refine lv_iload_n hx hb d_Md_in_0 rfl (lv_at hl 0 rfl) ?_
  refine lv_iload_n hx hb d_Md_in_1 rfl (lv_at hl 1 rfl) ?_
  refine lv_icmp_lt (tgt := 14) hx hb d_Md_in_2 (by decide) (fun c_1 => ?_) (fun c_1 => ?_)
  · refine lv_iconst (v := 0) hx hb d_Md_in_14 (by decide +kernel) ?_
    exact W.zret (v := 0) hx hb hr (by decide +kernel) (fun t ht hW => ⟨0, rfl, (by unfold f_Md_in; rw [if_pos c_1]), ht⟩) t_nil d_Md_in_15
  · refine lv_iload_n hx hb d_Md_in_5 rfl (lv_at hl 0 rfl) ?_
    refine lv_iload_n hx hb d_Md_in_6 rfl (lv_at hl 2 rfl) ?_
    refine lv_icmp_gt (tgt := 14) hx hb d_Md_in_7 (by decide) (fun c_2 => ?_) (fun c_2 => ?_)
    · refine lv_iconst (v := 0) hx hb d_Md_in_14 (by decide +kernel) ?_
      exact W.zret (v := 0) hx hb hr (by decide +kernel) (fun t ht hW => ⟨0, rfl, (by unfold f_Md_in; rw [if_neg c_1, if_pos c_2]), ht⟩) t_nil d_Md_in_15
    · refine lv_iconst (v := 1) hx hb d_Md_in_10 (by decide +kernel) ?_
      refine lv_goto (tgt := 15) hx hb d_Md_in_11 (by decide) ?_
      exact W.zret (v := 1) hx hb hr (by decide +kernel) (fun t ht hW => ⟨1, rfl, (by unfold f_Md_in; rw [if_neg c_1, if_neg c_2]), ht⟩) t_nil d_Md_in_15
def f_Md_stairs (p_0 : Int32) : Int32 := if p_0 < 0 then ((-1)) else (if 60 < p_0 then ((-1)) else (0))
set_option maxHeartbeats 4000000 in
set_option maxRecDepth 100000 in
theorem c_Md_stairs (l : Launch) (dC : Nat → ClassId) (dI : Nat → Nat → Nat) (a : Nat → Nat) (k : Nat → ClassId) (sz : Nat) (p_0 : Int32)  : Met l y_Md_stairs (.code y_Md_stairs b_Md_stairs 2 (some .int) :: TB) ({ frames := 1, cells := 0, slots := 0, locals := 22 }) (va_Pc [.ref (a 0), .int p_0] (PC dC dI (MW a k) (MT k) sz)) (va_Qi (fun r (_ : Unit) => r = f_Md_stairs p_0) (fun (_ : Unit) (_ : State) => True) (va_A (MW a k) sz)) 0 0 (va_A (MW a k) sz) := by
  refine Met.ofW (cc := b_Md_stairs) (maxL := 2) (ret := (some .int)) (by decide) rfl ?_
  intro p e s m args below meth c s₁ B hml hv
  obtain ⟨rfl, hsz, hP, hK, hD0, hN⟩ := hv
  have hx := B.exec
  have hb := B.bytes
  have hr := B.returns
  have hts := atoms_spec (ws := (.code y_Md_stairs b_Md_stairs 2 (some .int) :: TB)) B.pre
  have htb := fun w (h : w ∈ TB) => hts w (List.mem_cons_of_mem _ h)
  have hown : s.vm.findClass R_Md = some m.cls := findClass_of_methodNamed B.named
  have hlocks := B.notSynchronized
  have hl := lv_entry ([.ref (a 0), .int p_0]) (n := 2) (Nat.le_of_ble_eq_true rfl)
  rw [lg_entry_eq]
  generalize (lg_sl ([.ref (a 0), .int p_0]) ++ List.replicate (2 - (lg_sl ([.ref (a 0), .int p_0])).length) Slot.unset).toArray = ls at hl ⊢
  have hl : lv_has ls 2 [(0, .ref (a 0)), (1, .int p_0)] := hl
  subst hsz
  have hD := hD0.self (sz := s.heap.size)
  obtain ⟨A, hAe⟩ : ∃ A, va_A (MW a k) s.heap.size = A := ⟨_, rfl⟩
  rw [hAe] at hD
  have hA : ∀ q : Nat, s.heap.size ≤ q → A q := fun q h => by rw [← hAe]; exact Or.inr h
  have hS : va_S A s.heap s.heap [] := va_S.rf
  have hP := hP
  refine lv_iload_n hx hb d_Md_stairs_0 rfl (lv_at hl 1 rfl) ?_
  refine lv_iconst (v := 0) hx hb d_Md_stairs_1 (by decide +kernel) ?_
  refine lv_bipush (v := 60) hx hb d_Md_stairs_2 (by decide +kernel) ?_
  refine vp_callSi (va_Run.run (va_runS (As := [.int p_0, .int 0, .int 60]) (rest := []) ⟨hx, hb, hml, hown, htb⟩ (c_Md_in l p_0 0 60) (cwS 3 htb (gd_S tw_297 tw_298 tw_296 tw_295) rfl rfl rfl (by decide +kernel) ⟨Nat.le_of_ble_eq_true rfl, Nat.le_of_ble_eq_true rfl⟩) ⟨fun _ _ _ _ h => h, fun U _ _ => ⟨rfl, trivial⟩⟩ rfl rfl hl.1 rfl (lv_room (Nat.le_of_ble_eq_true rfl)) d_Md_stairs_4 ⟨Nat.le_of_ble_eq_true rfl, Nat.le_of_ble_eq_true rfl⟩)) (fun r er => ?_)
  subst er
  by_cases c_1 : p_0 < 0
  · refine hb_ti 0 (by unfold f_Md_in; rw [if_pos c_1]) ?_
    refine lv_if_eq (tgt := 32) hx hb d_Md_stairs_7 (by decide) (fun _ => ?_) (fun h => absurd (by decide +kernel) h)
    refine lv_iconst (v := (-1)) hx hb d_Md_stairs_32 (by decide +kernel) ?_
    refine W.widen (k := 0) (n := 0) (Nat.le_of_ble_eq_true rfl) (Nat.le_of_ble_eq_true rfl) ?_
    exact W.iret (v := (-1)) hx hb hr (fun t ht hW => ⟨⟨(-1), (), rfl, (by unfold f_Md_stairs; rw [if_pos c_1]), trivial⟩, by rw [hAe]; exact hS.F ht⟩) (by rw [hAe]; exact hS.2.2) d_Md_stairs_33
  · by_cases c_2 : 60 < p_0
    · refine hb_ti 0 (by unfold f_Md_in; rw [if_neg c_1, if_pos c_2]) ?_
      refine lv_if_eq (tgt := 32) hx hb d_Md_stairs_7 (by decide) (fun _ => ?_) (fun h => absurd (by decide +kernel) h)
      refine lv_iconst (v := (-1)) hx hb d_Md_stairs_32 (by decide +kernel) ?_
      refine W.widen (k := 0) (n := 0) (Nat.le_of_ble_eq_true rfl) (Nat.le_of_ble_eq_true rfl) ?_
      exact W.iret (v := (-1)) hx hb hr (fun t ht hW => ⟨⟨(-1), (), rfl, (by unfold f_Md_stairs; rw [if_neg c_1, if_pos c_2]), trivial⟩, by rw [hAe]; exact hS.F ht⟩) (by rw [hAe]; exact hS.2.2) d_Md_stairs_33
    · refine hb_ti 1 (by unfold f_Md_in; rw [if_neg c_1, if_neg c_2]) ?_
      refine lv_if_eq (tgt := 32) hx hb d_Md_stairs_7 (by decide) (fun h => absurd h (by decide +kernel)) (fun _ => ?_)
      refine lv_aload_n hx hb d_Md_stairs_10 rfl (lv_at hl 0 rfl) ?_
      refine va_get (D := (dC, dI)) (ci := 7) (v := .int 0) (C := R_Md) (T := F_Md) (N := 64) hx hb htb i_Md hown hK hP 0 rfl rfl 2 (by decide) (htb (.fieldLink R_Md 14 "WaterMenModel" "stairs" "I") tw_299) (fun _ h9 => h9) rfl d_Md_stairs_11 ?_
      refine lv_if_le (tgt := 34) hx hb d_Md_stairs_14 (by decide) (fun _ => ?_) (fun h => absurd (by decide +kernel) h)
      refine lv_aload_n hx hb d_Md_stairs_34 rfl (lv_at hl 0 rfl) ?_
      refine va_get (D := (dC, dI)) (ci := 7) (v := .int 0) (C := R_Md) (T := F_Md) (N := 64) hx hb htb i_Md hown hK hP 0 rfl rfl 2 (by decide) (htb (.fieldLink R_Md 14 "WaterMenModel" "stairs" "I") tw_299) (fun _ h9 => h9) rfl d_Md_stairs_35 ?_
      refine lv_bipush (v := 12) hx hb d_Md_stairs_38 (by decide +kernel) ?_
      refine lv_icmp_ne (tgt := 46) hx hb d_Md_stairs_40 (by decide) (fun _ => ?_) (fun h => absurd h (by decide +kernel))
      refine lv_aload_n hx hb d_Md_stairs_46 rfl (lv_at hl 0 rfl) ?_
      refine va_get (D := (dC, dI)) (ci := 7) (v := .ref (a 1)) (C := R_Md) (T := F_Md) (N := 64) hx hb htb i_Md hown hK hP 0 rfl rfl 3 (by decide) (htb (.fieldLink R_Md 32 "WaterMenModel" "miles" "[I") tw_4) (fun _ h9 => h9) rfl d_Md_stairs_47 ?_
      refine lv_aload_n hx hb d_Md_stairs_50 rfl (lv_at hl 0 rfl) ?_
      refine va_get (D := (dC, dI)) (ci := 7) (v := .int 0) (C := R_Md) (T := F_Md) (N := 64) hx hb htb i_Md hown hK hP 0 rfl rfl 2 (by decide) (htb (.fieldLink R_Md 14 "WaterMenModel" "stairs" "I") tw_299) (fun _ h9 => h9) rfl d_Md_stairs_51 ?_
      refine lv_iload_n hx hb d_Md_stairs_54 rfl (lv_at hl 1 rfl) ?_
      refine va_iast hx hb hK hP hD hS 1 0 rfl rfl (by unfold vp_in; decide +kernel) d_Md_stairs_55 (fun H locs hP hD hS => ?_)
      refine lv_aload_n hx hb d_Md_stairs_56 rfl (lv_at hl 0 rfl) ?_
      refine lv_dup hx hb d_Md_stairs_57 rfl ?_
      refine va_get (D := (dC, dI)) (ci := 7) (v := .int 0) (C := R_Md) (T := F_Md) (N := 64) hx hb htb i_Md hown hK hP 0 rfl rfl 2 (by decide) (htb (.fieldLink R_Md 14 "WaterMenModel" "stairs" "I") tw_299) (fun _ h9 => h9) rfl d_Md_stairs_58 ?_
      refine lv_iconst (v := 1) hx hb d_Md_stairs_61 (by decide +kernel) ?_
      refine lv_iadd hx hb d_Md_stairs_62 ?_
      refine hb_ti 1 (by decide +kernel) ?_
      refine va_put (D := (dC, dI)) (ci := 7) (v := .int 1) (ty := .int) (C := R_Md) (T := F_Md) (N := 64) hx hb htb i_Md t_Md t_Md_ok n_Md hown hK hP hD hS 0 rfl rfl 2 (by decide) (htb (.fieldLink R_Md 14 "WaterMenModel" "stairs" "I") tw_299) (fun _ h9 => h9) rfl (by decide +kernel) rfl rfl (Nat.le_of_ble_eq_true rfl) d_Md_stairs_63 (fun H locs hP hD hS => ?_)
      refine lv_aload_n hx hb d_Md_stairs_66 rfl (lv_at hl 0 rfl) ?_
      refine va_get (D := (dC, dI)) (ci := 7) (v := .int 1) (C := R_Md) (T := F_Md) (N := 64) hx hb htb i_Md hown hK hP 0 rfl rfl 2 (by decide) (htb (.fieldLink R_Md 14 "WaterMenModel" "stairs" "I") tw_299) (fun _ h9 => h9) rfl d_Md_stairs_67 ?_
      refine lv_iconst (v := 1) hx hb d_Md_stairs_70 (by decide +kernel) ?_
      refine lv_isub hx hb d_Md_stairs_71 ?_
      refine hb_ti 0 (by decide +kernel) ?_
      refine W.widen (k := 0) (n := 0) (Nat.le_of_ble_eq_true rfl) (Nat.le_of_ble_eq_true rfl) ?_
      exact W.iret (v := 0) hx hb hr (fun t ht hW => ⟨⟨0, (), rfl, (by unfold f_Md_stairs; rw [if_neg c_1, if_neg c_2]), trivial⟩, by rw [hAe]; exact hS.F ht⟩) (by rw [hAe]; exact hS.2.2) d_Md_stairs_72
def f_Md_bridge (p_0 : Int32) : Int32 := if p_0 = (-1) then (1) else (if p_0 < 0 then ((-1)) else ((-1)))
set_option maxHeartbeats 4000000 in
set_option maxRecDepth 100000 in
theorem c_Md_bridge (l : Launch) (dC : Nat → ClassId) (dI : Nat → Nat → Nat) (a : Nat → Nat) (k : Nat → ClassId) (sz : Nat) (p_0 : Int32)  : Met l y_Md_bridge (.code y_Md_bridge b_Md_bridge 2 (some .int) :: TB) ({ frames := 1, cells := 0, slots := 0, locals := 22 }) (va_Pc [.ref (a 0), .int p_0] (PC dC dI (MW a k) (MT k) sz)) (va_Qi (fun r (_ : Unit) => r = f_Md_bridge p_0) (fun (_ : Unit) (_ : State) => True) (va_A (MW a k) sz)) 0 0 (va_A (MW a k) sz) := by
  refine Met.ofW (cc := b_Md_bridge) (maxL := 2) (ret := (some .int)) (by decide) rfl ?_
  intro p e s m args below meth c s₁ B hml hv
  obtain ⟨rfl, hsz, hP, hK, hD0, hN⟩ := hv
  have hx := B.exec
  have hb := B.bytes
  have hr := B.returns
  have hts := atoms_spec (ws := (.code y_Md_bridge b_Md_bridge 2 (some .int) :: TB)) B.pre
  have htb := fun w (h : w ∈ TB) => hts w (List.mem_cons_of_mem _ h)
  have hown : s.vm.findClass R_Md = some m.cls := findClass_of_methodNamed B.named
  have hlocks := B.notSynchronized
  have hl := lv_entry ([.ref (a 0), .int p_0]) (n := 2) (Nat.le_of_ble_eq_true rfl)
  rw [lg_entry_eq]
  generalize (lg_sl ([.ref (a 0), .int p_0]) ++ List.replicate (2 - (lg_sl ([.ref (a 0), .int p_0])).length) Slot.unset).toArray = ls at hl ⊢
  have hl : lv_has ls 2 [(0, .ref (a 0)), (1, .int p_0)] := hl
  subst hsz
  have hD := hD0.self (sz := s.heap.size)
  obtain ⟨A, hAe⟩ : ∃ A, va_A (MW a k) s.heap.size = A := ⟨_, rfl⟩
  rw [hAe] at hD
  have hA : ∀ q : Nat, s.heap.size ≤ q → A q := fun q h => by rw [← hAe]; exact Or.inr h
  have hS : va_S A s.heap s.heap [] := va_S.rf
  have hP := hP
  refine lv_iload_n hx hb d_Md_bridge_0 rfl (lv_at hl 1 rfl) ?_
  refine lv_iconst (v := (-1)) hx hb d_Md_bridge_1 (by decide +kernel) ?_
  refine lv_icmp_eq (tgt := 21) hx hb d_Md_bridge_2 (by decide) (fun c_1 => ?_) (fun c_1 => ?_)
  · refine lv_aload_n hx hb d_Md_bridge_21 rfl (lv_at hl 0 rfl) ?_
    refine lv_iload_n hx hb d_Md_bridge_22 rfl (lv_at hl 1 rfl) ?_
    refine va_put (D := (dC, dI)) (ci := 7) (v := .int p_0) (ty := .int) (C := R_Md) (T := F_Md) (N := 64) hx hb htb i_Md t_Md t_Md_ok n_Md hown hK hP hD hS 0 rfl rfl 4 (by decide) (htb (.fieldLink R_Md 35 "WaterMenModel" "bridge" "I") tw_5) (fun _ h9 => h9) rfl (by decide +kernel) rfl rfl (Nat.le_of_ble_eq_true rfl) d_Md_bridge_23 (fun H locs hP hD hS => ?_)
    refine lv_iconst (v := 1) hx hb d_Md_bridge_26 (by decide +kernel) ?_
    refine W.widen (k := 0) (n := 0) (Nat.le_of_ble_eq_true rfl) (Nat.le_of_ble_eq_true rfl) ?_
    exact W.iret (v := 1) hx hb hr (fun t ht hW => ⟨⟨1, (), rfl, (by unfold f_Md_bridge; rw [if_pos c_1]), trivial⟩, by rw [hAe]; exact hS.F ht⟩) (by rw [hAe]; exact hS.2.2) d_Md_bridge_27
  · refine lv_iload_n hx hb d_Md_bridge_5 rfl (lv_at hl 1 rfl) ?_
    refine lv_iconst (v := 0) hx hb d_Md_bridge_6 (by decide +kernel) ?_
    refine lv_aload_n hx hb d_Md_bridge_7 rfl (lv_at hl 0 rfl) ?_
    refine va_get (D := (dC, dI)) (ci := 7) (v := .int 0) (C := R_Md) (T := F_Md) (N := 64) hx hb htb i_Md hown hK hP 0 rfl rfl 2 (by decide) (htb (.fieldLink R_Md 14 "WaterMenModel" "stairs" "I") tw_299) (fun _ h9 => h9) rfl d_Md_bridge_8 ?_
    refine lv_iconst (v := 2) hx hb d_Md_bridge_11 (by decide +kernel) ?_
    refine lv_isub hx hb d_Md_bridge_12 ?_
    refine hb_ti (-2) (by decide +kernel) ?_
    refine vp_callSi (va_Run.run (va_runS (As := [.int p_0, .int 0, .int (-2)]) (rest := []) ⟨hx, hb, hml, hown, htb⟩ (c_Md_in l p_0 0 (-2)) (cwS 3 htb (gd_S tw_297 tw_298 tw_296 tw_295) rfl rfl rfl (by decide +kernel) ⟨Nat.le_of_ble_eq_true rfl, Nat.le_of_ble_eq_true rfl⟩) ⟨fun _ _ _ _ h => h, fun U _ _ => ⟨rfl, trivial⟩⟩ rfl rfl hl.1 rfl (lv_room (Nat.le_of_ble_eq_true rfl)) d_Md_bridge_13 ⟨Nat.le_of_ble_eq_true rfl, Nat.le_of_ble_eq_true rfl⟩)) (fun r er => ?_)
    subst er
    by_cases c_2 : p_0 < 0
    · refine hb_ti 0 (by unfold f_Md_in; rw [if_pos c_2]) ?_
      refine lv_if_ne (tgt := 21) hx hb d_Md_bridge_16 (by decide) (fun h => absurd (by decide +kernel) h) (fun _ => ?_)
      refine lv_iconst (v := (-1)) hx hb d_Md_bridge_19 (by decide +kernel) ?_
      refine W.widen (k := 0) (n := 0) (Nat.le_of_ble_eq_true rfl) (Nat.le_of_ble_eq_true rfl) ?_
      exact W.iret (v := (-1)) hx hb hr (fun t ht hW => ⟨⟨(-1), (), rfl, (by unfold f_Md_bridge; rw [if_neg c_1, if_pos c_2]), trivial⟩, by rw [hAe]; exact hS.F ht⟩) (by rw [hAe]; exact hS.2.2) d_Md_bridge_20
    · refine hb_ti 0 (by unfold f_Md_in; rw [if_neg c_2, if_pos (show (-2) < p_0 from by have e0 := c_2; rw [Int32.lt_iff_toInt_lt] at e0; have z0 : ((-2) : Int32).toInt = -2 := (by decide +kernel); have z1 : (0 : Int32).toInt = 0 := (by decide +kernel); rw [Int32.lt_iff_toInt_lt]; omega)]) ?_
      refine lv_if_ne (tgt := 21) hx hb d_Md_bridge_16 (by decide) (fun h => absurd (by decide +kernel) h) (fun _ => ?_)
      refine lv_iconst (v := (-1)) hx hb d_Md_bridge_19 (by decide +kernel) ?_
      refine W.widen (k := 0) (n := 0) (Nat.le_of_ble_eq_true rfl) (Nat.le_of_ble_eq_true rfl) ?_
      exact W.iret (v := (-1)) hx hb hr (fun t ht hW => ⟨⟨(-1), (), rfl, (by unfold f_Md_bridge; rw [if_neg c_1, if_neg c_2]), trivial⟩, by rw [hAe]; exact hS.F ht⟩) (by rw [hAe]; exact hS.2.2) d_Md_bridge_20
def f_Md_isDay (p_0 : Int32) : Int32 := if p_0 < 0 then (0) else (if 499 < p_0 then (0) else (1))
set_option maxHeartbeats 4000000 in
set_option maxRecDepth 100000 in
theorem c_Md_isDay (l : Launch)  (p_0 : Int32)  : Met l y_Md_isDay (.code y_Md_isDay b_Md_isDay 1 (some .boolean) :: TB) ({ frames := 1, cells := 0, slots := 0, locals := 22 }) (va_Pc [.int p_0] (fun _ => True)) (vp_Si (fun r => r = f_Md_isDay p_0)) 0 0 (fun _ => False) := by
  refine Met.ofW (cc := b_Md_isDay) (maxL := 1) (ret := (some .boolean)) (by decide) rfl ?_
  intro p e s m args below meth c s₁ B hml hv
  obtain ⟨rfl, -⟩ := hv
  have hx := B.exec
  have hb := B.bytes
  have hr := B.returns
  have hts := atoms_spec (ws := (.code y_Md_isDay b_Md_isDay 1 (some .boolean) :: TB)) B.pre
  have htb := fun w (h : w ∈ TB) => hts w (List.mem_cons_of_mem _ h)
  have hown : s.vm.findClass R_Md = some m.cls := findClass_of_methodNamed B.named
  have hlocks := B.notSynchronized
  have hl := lv_entry ([.int p_0]) (n := 1) (Nat.le_of_ble_eq_true rfl)
  rw [lg_entry_eq]
  generalize (lg_sl ([.int p_0]) ++ List.replicate (1 - (lg_sl ([.int p_0])).length) Slot.unset).toArray = ls at hl ⊢
  have hl : lv_has ls 1 [(0, .int p_0)] := hl
  refine lv_iload_n hx hb d_Md_isDay_0 rfl (lv_at hl 0 rfl) ?_
  refine lv_iconst (v := 0) hx hb d_Md_isDay_1 (by decide +kernel) ?_
  refine lv_sipush (v := 499) hx hb d_Md_isDay_2 (by decide +kernel) ?_
  refine vp_callSi (va_Run.run (va_runS (As := [.int p_0, .int 0, .int 499]) (rest := []) ⟨hx, hb, hml, hown, htb⟩ (c_Md_in l p_0 0 499) (cwS 3 htb (gd_S tw_297 tw_298 tw_296 tw_295) rfl rfl rfl (by decide +kernel) ⟨Nat.le_of_ble_eq_true rfl, Nat.le_of_ble_eq_true rfl⟩) ⟨fun _ _ _ _ h => h, fun U _ _ => ⟨rfl, trivial⟩⟩ rfl rfl hl.1 rfl (lv_room (Nat.le_of_ble_eq_true rfl)) d_Md_isDay_5 ⟨Nat.le_of_ble_eq_true rfl, Nat.le_of_ble_eq_true rfl⟩)) (fun r er => ?_)
  subst er
  by_cases c_1 : p_0 < 0
  · refine hb_ti 0 (by unfold f_Md_in; rw [if_pos c_1]) ?_
    exact W.zret (v := 0) hx hb hr (by decide +kernel) (fun t ht hW => ⟨0, rfl, (by unfold f_Md_isDay; rw [if_pos c_1]), ht⟩) t_nil d_Md_isDay_8
  · by_cases c_2 : 499 < p_0
    · refine hb_ti 0 (by unfold f_Md_in; rw [if_neg c_1, if_pos c_2]) ?_
      exact W.zret (v := 0) hx hb hr (by decide +kernel) (fun t ht hW => ⟨0, rfl, (by unfold f_Md_isDay; rw [if_neg c_1, if_pos c_2]), ht⟩) t_nil d_Md_isDay_8
    · refine hb_ti 1 (by unfold f_Md_in; rw [if_neg c_1, if_neg c_2]) ?_
      exact W.zret (v := 1) hx hb hr (by decide +kernel) (fun t ht hW => ⟨1, rfl, (by unfold f_Md_isDay; rw [if_neg c_1, if_neg c_2]), ht⟩) t_nil d_Md_isDay_8
def f_Md_level (p_0 : Int32) (p_1 : Int32) (p_2 : Int32) : Int32 := if p_0 < 0 then ((-1)) else (if 499 < p_0 then ((-1)) else (if p_1 < 0 then ((-1)) else (if 11 < p_1 then ((-1)) else (if p_2 < (-90) then ((-1)) else (if 90 < p_2 then ((-1)) else (1))))))
set_option maxHeartbeats 4000000 in
set_option maxRecDepth 100000 in
theorem c_Md_level (l : Launch) (dC : Nat → ClassId) (dI : Nat → Nat → Nat) (a : Nat → Nat) (k : Nat → ClassId) (sz : Nat) (p_0 : Int32) (p_1 : Int32) (p_2 : Int32)  : Met l y_Md_level (.code y_Md_level b_Md_level 5 (some .int) :: TB) ({ frames := 2, cells := 0, slots := 0, locals := 42 }) (va_Pc [.ref (a 0), .int p_0, .int p_1, .int p_2] (PC dC dI (MW a k) (MT k) sz)) (va_Qi (fun r (_ : Unit) => r = f_Md_level p_0 p_1 p_2) (fun (_ : Unit) (_ : State) => True) (va_A (MW a k) sz)) 0 0 (va_A (MW a k) sz) := by
  refine Met.ofW (cc := b_Md_level) (maxL := 5) (ret := (some .int)) (by decide) rfl ?_
  intro p e s m args below meth c s₁ B hml hv
  obtain ⟨rfl, hsz, hP, hK, hD0, hN⟩ := hv
  have hx := B.exec
  have hb := B.bytes
  have hr := B.returns
  have hts := atoms_spec (ws := (.code y_Md_level b_Md_level 5 (some .int) :: TB)) B.pre
  have htb := fun w (h : w ∈ TB) => hts w (List.mem_cons_of_mem _ h)
  have hown : s.vm.findClass R_Md = some m.cls := findClass_of_methodNamed B.named
  have hlocks := B.notSynchronized
  have hl := lv_entry ([.ref (a 0), .int p_0, .int p_1, .int p_2]) (n := 5) (Nat.le_of_ble_eq_true rfl)
  rw [lg_entry_eq]
  generalize (lg_sl ([.ref (a 0), .int p_0, .int p_1, .int p_2]) ++ List.replicate (5 - (lg_sl ([.ref (a 0), .int p_0, .int p_1, .int p_2])).length) Slot.unset).toArray = ls at hl ⊢
  have hl : lv_has ls 5 [(0, .ref (a 0)), (1, .int p_0), (2, .int p_1), (3, .int p_2)] := hl
  subst hsz
  have hD := hD0.self (sz := s.heap.size)
  obtain ⟨A, hAe⟩ : ∃ A, va_A (MW a k) s.heap.size = A := ⟨_, rfl⟩
  rw [hAe] at hD
  have hA : ∀ q : Nat, s.heap.size ≤ q → A q := fun q h => by rw [← hAe]; exact Or.inr h
  have hS : va_S A s.heap s.heap [] := va_S.rf
  have hP := hP
  have hP := hP.sub (ws' := [((a 0), .inr (7, [.int 0, .int 0, .int 0, .ref (a 1), .int (-1), .ref (a 2), .ref (a 3), .ref (a 4), .ref (a 5), .ref (a 6), .ref (a 7), .ref (a 8), .ref (a 9), .ref (a 10), .ref (a 11), .ref (a 12), .ref (a 13), .ref (a 14), .ref (a 15), .ref (a 16), .ref (a 17), .int 0, .ref (a 18), .ref (a 19), .ref (a 20), .ref (a 21), .ref (a 22), .ref (a 23), .int 0, .int 0, .ref (a 24), .ref (a 25), .ref (a 26), .ref (a 27), .ref (a 28), .ref (a 29), .ref (a 30), .ref (a 31), .ref (a 32), .ref (a 33), .ref (a 34), .ref (a 35), .int 0, .int 0, .int 0, .int 0, .int 0, .int 0, .ref (a 36), .ref (a 37), .ref (a 38), .ref (a 39), .ref (a 40), .ref (a 41), .ref (a 42), .ref (a 43), .long 0, .long 0, .long 0, .ref (a 44), .int 0, .ref (a 45), .ref (a 46), .ref (a 47)])), ((a 2), .inl ((k 2), 12, .inl (fun _ => 0))), ((a 3), .inl ((k 3), 500, .inl (fun _ => 0))), ((a 4), .inl ((k 4), 6000, .inl (fun _ => 0)))]) [0, 2, 3, 4] rfl
  have hD := hD.sub (ws' := [((a 0), .inr (7, [.int 0, .int 0, .int 0, .ref (a 1), .int (-1), .ref (a 2), .ref (a 3), .ref (a 4), .ref (a 5), .ref (a 6), .ref (a 7), .ref (a 8), .ref (a 9), .ref (a 10), .ref (a 11), .ref (a 12), .ref (a 13), .ref (a 14), .ref (a 15), .ref (a 16), .ref (a 17), .int 0, .ref (a 18), .ref (a 19), .ref (a 20), .ref (a 21), .ref (a 22), .ref (a 23), .int 0, .int 0, .ref (a 24), .ref (a 25), .ref (a 26), .ref (a 27), .ref (a 28), .ref (a 29), .ref (a 30), .ref (a 31), .ref (a 32), .ref (a 33), .ref (a 34), .ref (a 35), .int 0, .int 0, .int 0, .int 0, .int 0, .int 0, .ref (a 36), .ref (a 37), .ref (a 38), .ref (a 39), .ref (a 40), .ref (a 41), .ref (a 42), .ref (a 43), .long 0, .long 0, .long 0, .ref (a 44), .int 0, .ref (a 45), .ref (a 46), .ref (a 47)])), ((a 2), .inl ((k 2), 12, .inl (fun _ => 0))), ((a 3), .inl ((k 3), 500, .inl (fun _ => 0))), ((a 4), .inl ((k 4), 6000, .inl (fun _ => 0)))]) [0, 2, 3, 4] (by decide) rfl
  have hK := hK.sub (tys' := [((k 2), .int), ((k 3), .boolean), ((k 4), .int)]) [1, 2, 3] rfl
  refine lv_iload_n hx hb d_Md_level_0 rfl (lv_at hl 1 rfl) ?_
  refine vp_callSi (va_Run.run (va_runS (As := [.int p_0]) (rest := []) ⟨hx, hb, hml, hown, htb⟩ (c_Md_isDay l p_0) (cwS 1 htb (gd_S tw_301 tw_302 tw_296 tw_300) rfl rfl rfl (by decide +kernel) ⟨Nat.le_of_ble_eq_true rfl, Nat.le_of_ble_eq_true rfl⟩) ⟨fun _ _ _ _ h => h, fun U _ _ => ⟨rfl, trivial⟩⟩ rfl rfl hl.1 rfl (lv_room (Nat.le_of_ble_eq_true rfl)) d_Md_level_1 ⟨Nat.le_of_ble_eq_true rfl, Nat.le_of_ble_eq_true rfl⟩)) (fun r er => ?_)
  subst er
  by_cases c_1 : p_0 < 0
  · refine hb_ti 0 (by unfold f_Md_isDay; rw [if_pos c_1]) ?_
    refine lv_if_eq (tgt := 28) hx hb d_Md_level_4 (by decide) (fun _ => ?_) (fun h => absurd (by decide +kernel) h)
    refine lv_iconst (v := (-1)) hx hb d_Md_level_28 (by decide +kernel) ?_
    refine W.widen (k := 0) (n := 0) (Nat.le_of_ble_eq_true rfl) (Nat.le_of_ble_eq_true rfl) ?_
    exact W.iret (v := (-1)) hx hb hr (fun t ht hW => ⟨⟨(-1), (), rfl, (by unfold f_Md_level; rw [if_pos c_1]), trivial⟩, by rw [hAe]; exact hS.F ht⟩) (by rw [hAe]; exact hS.2.2) d_Md_level_29
  · by_cases c_2 : 499 < p_0
    · refine hb_ti 0 (by unfold f_Md_isDay; rw [if_neg c_1, if_pos c_2]) ?_
      refine lv_if_eq (tgt := 28) hx hb d_Md_level_4 (by decide) (fun _ => ?_) (fun h => absurd (by decide +kernel) h)
      refine lv_iconst (v := (-1)) hx hb d_Md_level_28 (by decide +kernel) ?_
      refine W.widen (k := 0) (n := 0) (Nat.le_of_ble_eq_true rfl) (Nat.le_of_ble_eq_true rfl) ?_
      exact W.iret (v := (-1)) hx hb hr (fun t ht hW => ⟨⟨(-1), (), rfl, (by unfold f_Md_level; rw [if_neg c_1, if_pos c_2]), trivial⟩, by rw [hAe]; exact hS.F ht⟩) (by rw [hAe]; exact hS.2.2) d_Md_level_29
    · refine hb_ti 1 (by unfold f_Md_isDay; rw [if_neg c_1, if_neg c_2]) ?_
      refine lv_if_eq (tgt := 28) hx hb d_Md_level_4 (by decide) (fun h => absurd h (by decide +kernel)) (fun _ => ?_)
      refine lv_iload_n hx hb d_Md_level_7 rfl (lv_at hl 2 rfl) ?_
      refine lv_iconst (v := 0) hx hb d_Md_level_8 (by decide +kernel) ?_
      refine lv_bipush (v := 11) hx hb d_Md_level_9 (by decide +kernel) ?_
      refine vp_callSi (va_Run.run (va_runS (As := [.int p_1, .int 0, .int 11]) (rest := []) ⟨hx, hb, hml, hown, htb⟩ (c_Md_in l p_1 0 11) (cwS 3 htb (gd_S tw_297 tw_298 tw_296 tw_295) rfl rfl rfl (by decide +kernel) ⟨Nat.le_of_ble_eq_true rfl, Nat.le_of_ble_eq_true rfl⟩) ⟨fun _ _ _ _ h => h, fun U _ _ => ⟨rfl, trivial⟩⟩ rfl rfl hl.1 rfl (lv_room (Nat.le_of_ble_eq_true rfl)) d_Md_level_11 ⟨Nat.le_of_ble_eq_true rfl, Nat.le_of_ble_eq_true rfl⟩)) (fun r er => ?_)
      subst er
      by_cases c_3 : p_1 < 0
      · refine hb_ti 0 (by unfold f_Md_in; rw [if_pos c_3]) ?_
        refine lv_if_eq (tgt := 28) hx hb d_Md_level_14 (by decide) (fun _ => ?_) (fun h => absurd (by decide +kernel) h)
        refine lv_iconst (v := (-1)) hx hb d_Md_level_28 (by decide +kernel) ?_
        refine W.widen (k := 0) (n := 0) (Nat.le_of_ble_eq_true rfl) (Nat.le_of_ble_eq_true rfl) ?_
        exact W.iret (v := (-1)) hx hb hr (fun t ht hW => ⟨⟨(-1), (), rfl, (by unfold f_Md_level; rw [if_neg c_1, if_neg c_2, if_pos c_3]), trivial⟩, by rw [hAe]; exact hS.F ht⟩) (by rw [hAe]; exact hS.2.2) d_Md_level_29
      · by_cases c_4 : 11 < p_1
        · refine hb_ti 0 (by unfold f_Md_in; rw [if_neg c_3, if_pos c_4]) ?_
          refine lv_if_eq (tgt := 28) hx hb d_Md_level_14 (by decide) (fun _ => ?_) (fun h => absurd (by decide +kernel) h)
          refine lv_iconst (v := (-1)) hx hb d_Md_level_28 (by decide +kernel) ?_
          refine W.widen (k := 0) (n := 0) (Nat.le_of_ble_eq_true rfl) (Nat.le_of_ble_eq_true rfl) ?_
          exact W.iret (v := (-1)) hx hb hr (fun t ht hW => ⟨⟨(-1), (), rfl, (by unfold f_Md_level; rw [if_neg c_1, if_neg c_2, if_neg c_3, if_pos c_4]), trivial⟩, by rw [hAe]; exact hS.F ht⟩) (by rw [hAe]; exact hS.2.2) d_Md_level_29
        · refine hb_ti 1 (by unfold f_Md_in; rw [if_neg c_3, if_neg c_4]) ?_
          refine lv_if_eq (tgt := 28) hx hb d_Md_level_14 (by decide) (fun h => absurd h (by decide +kernel)) (fun _ => ?_)
          refine lv_iload_n hx hb d_Md_level_17 rfl (lv_at hl 3 rfl) ?_
          refine lv_bipush (v := (-90)) hx hb d_Md_level_18 (by decide +kernel) ?_
          refine lv_bipush (v := 90) hx hb d_Md_level_20 (by decide +kernel) ?_
          refine vp_callSi (va_Run.run (va_runS (As := [.int p_2, .int (-90), .int 90]) (rest := []) ⟨hx, hb, hml, hown, htb⟩ (c_Md_in l p_2 (-90) 90) (cwS 3 htb (gd_S tw_297 tw_298 tw_296 tw_295) rfl rfl rfl (by decide +kernel) ⟨Nat.le_of_ble_eq_true rfl, Nat.le_of_ble_eq_true rfl⟩) ⟨fun _ _ _ _ h => h, fun U _ _ => ⟨rfl, trivial⟩⟩ rfl rfl hl.1 rfl (lv_room (Nat.le_of_ble_eq_true rfl)) d_Md_level_22 ⟨Nat.le_of_ble_eq_true rfl, Nat.le_of_ble_eq_true rfl⟩)) (fun r er => ?_)
          subst er
          by_cases c_5 : p_2 < (-90)
          · refine hb_ti 0 (by unfold f_Md_in; rw [if_pos c_5]) ?_
            refine lv_if_ne (tgt := 30) hx hb d_Md_level_25 (by decide) (fun h => absurd (by decide +kernel) h) (fun _ => ?_)
            refine lv_iconst (v := (-1)) hx hb d_Md_level_28 (by decide +kernel) ?_
            refine W.widen (k := 0) (n := 0) (Nat.le_of_ble_eq_true rfl) (Nat.le_of_ble_eq_true rfl) ?_
            exact W.iret (v := (-1)) hx hb hr (fun t ht hW => ⟨⟨(-1), (), rfl, (by unfold f_Md_level; rw [if_neg c_1, if_neg c_2, if_neg c_3, if_neg c_4, if_pos c_5]), trivial⟩, by rw [hAe]; exact hS.F ht⟩) (by rw [hAe]; exact hS.2.2) d_Md_level_29
          · by_cases c_6 : 90 < p_2
            · refine hb_ti 0 (by unfold f_Md_in; rw [if_neg c_5, if_pos c_6]) ?_
              refine lv_if_ne (tgt := 30) hx hb d_Md_level_25 (by decide) (fun h => absurd (by decide +kernel) h) (fun _ => ?_)
              refine lv_iconst (v := (-1)) hx hb d_Md_level_28 (by decide +kernel) ?_
              refine W.widen (k := 0) (n := 0) (Nat.le_of_ble_eq_true rfl) (Nat.le_of_ble_eq_true rfl) ?_
              exact W.iret (v := (-1)) hx hb hr (fun t ht hW => ⟨⟨(-1), (), rfl, (by unfold f_Md_level; rw [if_neg c_1, if_neg c_2, if_neg c_3, if_neg c_4, if_neg c_5, if_pos c_6]), trivial⟩, by rw [hAe]; exact hS.F ht⟩) (by rw [hAe]; exact hS.2.2) d_Md_level_29
            · refine hb_ti 1 (by unfold f_Md_in; rw [if_neg c_5, if_neg c_6]) ?_
              refine lv_if_ne (tgt := 30) hx hb d_Md_level_25 (by decide) (fun _ => ?_) (fun h => absurd h (by decide +kernel))
              refine lv_iconst (v := 0) hx hb d_Md_level_30 (by decide +kernel) ?_
              refine lv_istore (lv' := [(4, .int 0), (0, .ref (a 0)), (1, .int p_0), (2, .int p_1), (3, .int p_2)]) hx hb d_Md_level_31 hl (by decide) rfl (fun ls hl => ?_)
              refine lv_iload hx hb d_Md_level_33 (lv_at hl 0 rfl) ?_
              refine lv_bipush (v := 12) hx hb d_Md_level_35 (by decide +kernel) ?_
              refine lv_icmp_ge (tgt := 79) hx hb d_Md_level_37 (by decide) (fun h => absurd h (by decide +kernel)) (fun _ => ?_)
              refine lv_aload_n hx hb d_Md_level_40 rfl (lv_at hl 1 rfl) ?_
              refine va_get (D := (dC, dI)) (ci := 7) (v := .ref (a 3)) (C := R_Md) (T := F_Md) (N := 64) hx hb htb i_Md hown hK hP 0 rfl rfl 6 (by decide) (htb (.fieldLink R_Md 17 "WaterMenModel" "hasRow" "[Z") tw_8) (fun _ h9 => h9) rfl d_Md_level_41 ?_
              refine lv_iload_n hx hb d_Md_level_44 rfl (lv_at hl 2 rfl) ?_
              refine va_zald hx hb hK hP 2 1 rfl rfl (hb_inl c_1 c_2 (by decide +kernel)) d_Md_level_45 ?_
              refine hb_ti 0 rfl ?_
              refine lv_if_ne (tgt := 79) hx hb d_Md_level_46 (by decide) (fun h => absurd (by decide +kernel) h) (fun _ => ?_)
              refine lv_aload_n hx hb d_Md_level_49 rfl (lv_at hl 1 rfl) ?_
              refine va_get (D := (dC, dI)) (ci := 7) (v := .ref (a 4)) (C := R_Md) (T := F_Md) (N := 64) hx hb htb i_Md hown hK hP 0 rfl rfl 7 (by decide) (htb (.fieldLink R_Md 21 "WaterMenModel" "rows" "[I") tw_9) (fun _ h9 => h9) rfl d_Md_level_50 ?_
              refine lv_bipush (v := 12) hx hb d_Md_level_53 (by decide +kernel) ?_
              refine lv_iload_n hx hb d_Md_level_55 rfl (lv_at hl 2 rfl) ?_
              refine lv_imul hx hb d_Md_level_56 ?_
              refine lv_iload hx hb d_Md_level_57 (lv_at hl 0 rfl) ?_
              refine lv_iadd hx hb d_Md_level_59 ?_
              refine lv_aload_n hx hb d_Md_level_60 rfl (lv_at hl 1 rfl) ?_
              refine va_get (D := (dC, dI)) (ci := 7) (v := .ref (a 2)) (C := R_Md) (T := F_Md) (N := 64) hx hb htb i_Md hown hK hP 0 rfl rfl 5 (by decide) (htb (.fieldLink R_Md 25 "WaterMenModel" "table" "[I") tw_6) (fun _ h9 => h9) rfl d_Md_level_61 ?_
              refine lv_iload hx hb d_Md_level_64 (lv_at hl 0 rfl) ?_
              refine lv_iload_n hx hb d_Md_level_66 rfl (lv_at hl 2 rfl) ?_
              refine lv_iadd hx hb d_Md_level_67 ?_
              refine lv_bipush (v := 12) hx hb d_Md_level_68 (by decide +kernel) ?_
              refine lv_irem hx hb d_Md_level_70 (by decide) ?_
              refine va_iald hx hb hK hP 1 0 rfl rfl (hb_rem12 (by decide +kernel) (by decide +kernel) c_1 (show ¬ (1000 < p_0) from by have e0 := c_1; rw [Int32.lt_iff_toInt_lt] at e0; have e1 := c_2; rw [Int32.lt_iff_toInt_lt] at e1; have z0 : (0 : Int32).toInt = 0 := (by decide +kernel); have z1 : (499 : Int32).toInt = 499 := (by decide +kernel); have z2 : (1000 : Int32).toInt = 1000 := (by decide +kernel); rw [Int32.lt_iff_toInt_lt]; omega)) d_Md_level_71 ?_
              refine hb_ti 0 rfl ?_
              refine va_iast hx hb hK hP hD hS 3 2 rfl rfl (hb_i6000 c_1 c_2 (by decide +kernel) (by decide +kernel)) d_Md_level_72 (fun H locs hP hD hS => ?_)
              rw [hb_upd0 0 (((12 * p_0) + 0) : Int32).toNatClampNeg (0) (by decide +kernel)] at hP hD
              have hP : va_P (dC, dI) vwCl [((a 0), .inr (7, [.int 0, .int 0, .int 0, .ref (a 1), .int (-1), .ref (a 2), .ref (a 3), .ref (a 4), .ref (a 5), .ref (a 6), .ref (a 7), .ref (a 8), .ref (a 9), .ref (a 10), .ref (a 11), .ref (a 12), .ref (a 13), .ref (a 14), .ref (a 15), .ref (a 16), .ref (a 17), .int 0, .ref (a 18), .ref (a 19), .ref (a 20), .ref (a 21), .ref (a 22), .ref (a 23), .int 0, .int 0, .ref (a 24), .ref (a 25), .ref (a 26), .ref (a 27), .ref (a 28), .ref (a 29), .ref (a 30), .ref (a 31), .ref (a 32), .ref (a 33), .ref (a 34), .ref (a 35), .int 0, .int 0, .int 0, .int 0, .int 0, .int 0, .ref (a 36), .ref (a 37), .ref (a 38), .ref (a 39), .ref (a 40), .ref (a 41), .ref (a 42), .ref (a 43), .long 0, .long 0, .long 0, .ref (a 44), .int 0, .ref (a 45), .ref (a 46), .ref (a 47)])), ((a 2), .inl ((k 2), 12, .inl (fun _ => 0))), ((a 3), .inl ((k 3), 500, .inl (fun _ => 0))), ((a 4), .inl ((k 4), 6000, .inl (fun _ => 0)))] H := hP
              have hD : va_D A [((a 0), .inr (7, [.int 0, .int 0, .int 0, .ref (a 1), .int (-1), .ref (a 2), .ref (a 3), .ref (a 4), .ref (a 5), .ref (a 6), .ref (a 7), .ref (a 8), .ref (a 9), .ref (a 10), .ref (a 11), .ref (a 12), .ref (a 13), .ref (a 14), .ref (a 15), .ref (a 16), .ref (a 17), .int 0, .ref (a 18), .ref (a 19), .ref (a 20), .ref (a 21), .ref (a 22), .ref (a 23), .int 0, .int 0, .ref (a 24), .ref (a 25), .ref (a 26), .ref (a 27), .ref (a 28), .ref (a 29), .ref (a 30), .ref (a 31), .ref (a 32), .ref (a 33), .ref (a 34), .ref (a 35), .int 0, .int 0, .int 0, .int 0, .int 0, .int 0, .ref (a 36), .ref (a 37), .ref (a 38), .ref (a 39), .ref (a 40), .ref (a 41), .ref (a 42), .ref (a 43), .long 0, .long 0, .long 0, .ref (a 44), .int 0, .ref (a 45), .ref (a 46), .ref (a 47)])), ((a 2), .inl ((k 2), 12, .inl (fun _ => 0))), ((a 3), .inl ((k 3), 500, .inl (fun _ => 0))), ((a 4), .inl ((k 4), 6000, .inl (fun _ => 0)))] := hD
              refine lv_iinc (v := 1) (lv' := [(4, .int 1), (0, .ref (a 0)), (1, .int p_0), (2, .int p_1), (3, .int p_2)]) hx hb d_Md_level_73 hl (k := 0) rfl (by decide +kernel) (by decide) rfl (fun ls hl => ?_)
              refine lv_goto (tgt := 33) hx hb d_Md_level_76 (by decide) ?_
              refine lv_iload hx hb d_Md_level_33 (lv_at hl 0 rfl) ?_
              refine lv_bipush (v := 12) hx hb d_Md_level_35 (by decide +kernel) ?_
              refine lv_icmp_ge (tgt := 79) hx hb d_Md_level_37 (by decide) (fun h => absurd h (by decide +kernel)) (fun _ => ?_)
              refine lv_aload_n hx hb d_Md_level_40 rfl (lv_at hl 1 rfl) ?_
              refine va_get (D := (dC, dI)) (ci := 7) (v := .ref (a 3)) (C := R_Md) (T := F_Md) (N := 64) hx hb htb i_Md hown hK hP 0 rfl rfl 6 (by decide) (htb (.fieldLink R_Md 17 "WaterMenModel" "hasRow" "[Z") tw_8) (fun _ h9 => h9) rfl d_Md_level_41 ?_
              refine lv_iload_n hx hb d_Md_level_44 rfl (lv_at hl 2 rfl) ?_
              refine va_zald hx hb hK hP 2 1 rfl rfl (hb_inl c_1 c_2 (by decide +kernel)) d_Md_level_45 ?_
              refine hb_ti 0 rfl ?_
              refine lv_if_ne (tgt := 79) hx hb d_Md_level_46 (by decide) (fun h => absurd (by decide +kernel) h) (fun _ => ?_)
              refine lv_aload_n hx hb d_Md_level_49 rfl (lv_at hl 1 rfl) ?_
              refine va_get (D := (dC, dI)) (ci := 7) (v := .ref (a 4)) (C := R_Md) (T := F_Md) (N := 64) hx hb htb i_Md hown hK hP 0 rfl rfl 7 (by decide) (htb (.fieldLink R_Md 21 "WaterMenModel" "rows" "[I") tw_9) (fun _ h9 => h9) rfl d_Md_level_50 ?_
              refine lv_bipush (v := 12) hx hb d_Md_level_53 (by decide +kernel) ?_
              refine lv_iload_n hx hb d_Md_level_55 rfl (lv_at hl 2 rfl) ?_
              refine lv_imul hx hb d_Md_level_56 ?_
              refine lv_iload hx hb d_Md_level_57 (lv_at hl 0 rfl) ?_
              refine lv_iadd hx hb d_Md_level_59 ?_
              refine lv_aload_n hx hb d_Md_level_60 rfl (lv_at hl 1 rfl) ?_
              refine va_get (D := (dC, dI)) (ci := 7) (v := .ref (a 2)) (C := R_Md) (T := F_Md) (N := 64) hx hb htb i_Md hown hK hP 0 rfl rfl 5 (by decide) (htb (.fieldLink R_Md 25 "WaterMenModel" "table" "[I") tw_6) (fun _ h9 => h9) rfl d_Md_level_61 ?_
              refine lv_iload hx hb d_Md_level_64 (lv_at hl 0 rfl) ?_
              refine lv_iload_n hx hb d_Md_level_66 rfl (lv_at hl 2 rfl) ?_
              refine lv_iadd hx hb d_Md_level_67 ?_
              refine lv_bipush (v := 12) hx hb d_Md_level_68 (by decide +kernel) ?_
              refine lv_irem hx hb d_Md_level_70 (by decide) ?_
              refine va_iald hx hb hK hP 1 0 rfl rfl (hb_rem12 (by decide +kernel) (by decide +kernel) c_1 (show ¬ (1000 < p_0) from by have e0 := c_1; rw [Int32.lt_iff_toInt_lt] at e0; have e1 := c_2; rw [Int32.lt_iff_toInt_lt] at e1; have z0 : (0 : Int32).toInt = 0 := (by decide +kernel); have z1 : (499 : Int32).toInt = 499 := (by decide +kernel); have z2 : (1000 : Int32).toInt = 1000 := (by decide +kernel); rw [Int32.lt_iff_toInt_lt]; omega)) d_Md_level_71 ?_
              refine hb_ti 0 rfl ?_
              refine va_iast hx hb hK hP hD hS 3 2 rfl rfl (hb_i6000 c_1 c_2 (by decide +kernel) (by decide +kernel)) d_Md_level_72 (fun H locs hP hD hS => ?_)
              rw [hb_upd0 0 (((12 * p_0) + 1) : Int32).toNatClampNeg (0) (by decide +kernel)] at hP hD
              have hP : va_P (dC, dI) vwCl [((a 0), .inr (7, [.int 0, .int 0, .int 0, .ref (a 1), .int (-1), .ref (a 2), .ref (a 3), .ref (a 4), .ref (a 5), .ref (a 6), .ref (a 7), .ref (a 8), .ref (a 9), .ref (a 10), .ref (a 11), .ref (a 12), .ref (a 13), .ref (a 14), .ref (a 15), .ref (a 16), .ref (a 17), .int 0, .ref (a 18), .ref (a 19), .ref (a 20), .ref (a 21), .ref (a 22), .ref (a 23), .int 0, .int 0, .ref (a 24), .ref (a 25), .ref (a 26), .ref (a 27), .ref (a 28), .ref (a 29), .ref (a 30), .ref (a 31), .ref (a 32), .ref (a 33), .ref (a 34), .ref (a 35), .int 0, .int 0, .int 0, .int 0, .int 0, .int 0, .ref (a 36), .ref (a 37), .ref (a 38), .ref (a 39), .ref (a 40), .ref (a 41), .ref (a 42), .ref (a 43), .long 0, .long 0, .long 0, .ref (a 44), .int 0, .ref (a 45), .ref (a 46), .ref (a 47)])), ((a 2), .inl ((k 2), 12, .inl (fun _ => 0))), ((a 3), .inl ((k 3), 500, .inl (fun _ => 0))), ((a 4), .inl ((k 4), 6000, .inl (fun _ => 0)))] H := hP
              have hD : va_D A [((a 0), .inr (7, [.int 0, .int 0, .int 0, .ref (a 1), .int (-1), .ref (a 2), .ref (a 3), .ref (a 4), .ref (a 5), .ref (a 6), .ref (a 7), .ref (a 8), .ref (a 9), .ref (a 10), .ref (a 11), .ref (a 12), .ref (a 13), .ref (a 14), .ref (a 15), .ref (a 16), .ref (a 17), .int 0, .ref (a 18), .ref (a 19), .ref (a 20), .ref (a 21), .ref (a 22), .ref (a 23), .int 0, .int 0, .ref (a 24), .ref (a 25), .ref (a 26), .ref (a 27), .ref (a 28), .ref (a 29), .ref (a 30), .ref (a 31), .ref (a 32), .ref (a 33), .ref (a 34), .ref (a 35), .int 0, .int 0, .int 0, .int 0, .int 0, .int 0, .ref (a 36), .ref (a 37), .ref (a 38), .ref (a 39), .ref (a 40), .ref (a 41), .ref (a 42), .ref (a 43), .long 0, .long 0, .long 0, .ref (a 44), .int 0, .ref (a 45), .ref (a 46), .ref (a 47)])), ((a 2), .inl ((k 2), 12, .inl (fun _ => 0))), ((a 3), .inl ((k 3), 500, .inl (fun _ => 0))), ((a 4), .inl ((k 4), 6000, .inl (fun _ => 0)))] := hD
              refine lv_iinc (v := 2) (lv' := [(4, .int 2), (0, .ref (a 0)), (1, .int p_0), (2, .int p_1), (3, .int p_2)]) hx hb d_Md_level_73 hl (k := 0) rfl (by decide +kernel) (by decide) rfl (fun ls hl => ?_)
              refine lv_goto (tgt := 33) hx hb d_Md_level_76 (by decide) ?_
              refine lv_iload hx hb d_Md_level_33 (lv_at hl 0 rfl) ?_
              refine lv_bipush (v := 12) hx hb d_Md_level_35 (by decide +kernel) ?_
              refine lv_icmp_ge (tgt := 79) hx hb d_Md_level_37 (by decide) (fun h => absurd h (by decide +kernel)) (fun _ => ?_)
              refine lv_aload_n hx hb d_Md_level_40 rfl (lv_at hl 1 rfl) ?_
              refine va_get (D := (dC, dI)) (ci := 7) (v := .ref (a 3)) (C := R_Md) (T := F_Md) (N := 64) hx hb htb i_Md hown hK hP 0 rfl rfl 6 (by decide) (htb (.fieldLink R_Md 17 "WaterMenModel" "hasRow" "[Z") tw_8) (fun _ h9 => h9) rfl d_Md_level_41 ?_
              refine lv_iload_n hx hb d_Md_level_44 rfl (lv_at hl 2 rfl) ?_
              refine va_zald hx hb hK hP 2 1 rfl rfl (hb_inl c_1 c_2 (by decide +kernel)) d_Md_level_45 ?_
              refine hb_ti 0 rfl ?_
              refine lv_if_ne (tgt := 79) hx hb d_Md_level_46 (by decide) (fun h => absurd (by decide +kernel) h) (fun _ => ?_)
              refine lv_aload_n hx hb d_Md_level_49 rfl (lv_at hl 1 rfl) ?_
              refine va_get (D := (dC, dI)) (ci := 7) (v := .ref (a 4)) (C := R_Md) (T := F_Md) (N := 64) hx hb htb i_Md hown hK hP 0 rfl rfl 7 (by decide) (htb (.fieldLink R_Md 21 "WaterMenModel" "rows" "[I") tw_9) (fun _ h9 => h9) rfl d_Md_level_50 ?_
              refine lv_bipush (v := 12) hx hb d_Md_level_53 (by decide +kernel) ?_
              refine lv_iload_n hx hb d_Md_level_55 rfl (lv_at hl 2 rfl) ?_
              refine lv_imul hx hb d_Md_level_56 ?_
              refine lv_iload hx hb d_Md_level_57 (lv_at hl 0 rfl) ?_
              refine lv_iadd hx hb d_Md_level_59 ?_
              refine lv_aload_n hx hb d_Md_level_60 rfl (lv_at hl 1 rfl) ?_
              refine va_get (D := (dC, dI)) (ci := 7) (v := .ref (a 2)) (C := R_Md) (T := F_Md) (N := 64) hx hb htb i_Md hown hK hP 0 rfl rfl 5 (by decide) (htb (.fieldLink R_Md 25 "WaterMenModel" "table" "[I") tw_6) (fun _ h9 => h9) rfl d_Md_level_61 ?_
              refine lv_iload hx hb d_Md_level_64 (lv_at hl 0 rfl) ?_
              refine lv_iload_n hx hb d_Md_level_66 rfl (lv_at hl 2 rfl) ?_
              refine lv_iadd hx hb d_Md_level_67 ?_
              refine lv_bipush (v := 12) hx hb d_Md_level_68 (by decide +kernel) ?_
              refine lv_irem hx hb d_Md_level_70 (by decide) ?_
              refine va_iald hx hb hK hP 1 0 rfl rfl (hb_rem12 (by decide +kernel) (by decide +kernel) c_1 (show ¬ (1000 < p_0) from by have e0 := c_1; rw [Int32.lt_iff_toInt_lt] at e0; have e1 := c_2; rw [Int32.lt_iff_toInt_lt] at e1; have z0 : (0 : Int32).toInt = 0 := (by decide +kernel); have z1 : (499 : Int32).toInt = 499 := (by decide +kernel); have z2 : (1000 : Int32).toInt = 1000 := (by decide +kernel); rw [Int32.lt_iff_toInt_lt]; omega)) d_Md_level_71 ?_
              refine hb_ti 0 rfl ?_
              refine va_iast hx hb hK hP hD hS 3 2 rfl rfl (hb_i6000 c_1 c_2 (by decide +kernel) (by decide +kernel)) d_Md_level_72 (fun H locs hP hD hS => ?_)
              rw [hb_upd0 0 (((12 * p_0) + 2) : Int32).toNatClampNeg (0) (by decide +kernel)] at hP hD
              have hP : va_P (dC, dI) vwCl [((a 0), .inr (7, [.int 0, .int 0, .int 0, .ref (a 1), .int (-1), .ref (a 2), .ref (a 3), .ref (a 4), .ref (a 5), .ref (a 6), .ref (a 7), .ref (a 8), .ref (a 9), .ref (a 10), .ref (a 11), .ref (a 12), .ref (a 13), .ref (a 14), .ref (a 15), .ref (a 16), .ref (a 17), .int 0, .ref (a 18), .ref (a 19), .ref (a 20), .ref (a 21), .ref (a 22), .ref (a 23), .int 0, .int 0, .ref (a 24), .ref (a 25), .ref (a 26), .ref (a 27), .ref (a 28), .ref (a 29), .ref (a 30), .ref (a 31), .ref (a 32), .ref (a 33), .ref (a 34), .ref (a 35), .int 0, .int 0, .int 0, .int 0, .int 0, .int 0, .ref (a 36), .ref (a 37), .ref (a 38), .ref (a 39), .ref (a 40), .ref (a 41), .ref (a 42), .ref (a 43), .long 0, .long 0, .long 0, .ref (a 44), .int 0, .ref (a 45), .ref (a 46), .ref (a 47)])), ((a 2), .inl ((k 2), 12, .inl (fun _ => 0))), ((a 3), .inl ((k 3), 500, .inl (fun _ => 0))), ((a 4), .inl ((k 4), 6000, .inl (fun _ => 0)))] H := hP
              have hD : va_D A [((a 0), .inr (7, [.int 0, .int 0, .int 0, .ref (a 1), .int (-1), .ref (a 2), .ref (a 3), .ref (a 4), .ref (a 5), .ref (a 6), .ref (a 7), .ref (a 8), .ref (a 9), .ref (a 10), .ref (a 11), .ref (a 12), .ref (a 13), .ref (a 14), .ref (a 15), .ref (a 16), .ref (a 17), .int 0, .ref (a 18), .ref (a 19), .ref (a 20), .ref (a 21), .ref (a 22), .ref (a 23), .int 0, .int 0, .ref (a 24), .ref (a 25), .ref (a 26), .ref (a 27), .ref (a 28), .ref (a 29), .ref (a 30), .ref (a 31), .ref (a 32), .ref (a 33), .ref (a 34), .ref (a 35), .int 0, .int 0, .int 0, .int 0, .int 0, .int 0, .ref (a 36), .ref (a 37), .ref (a 38), .ref (a 39), .ref (a 40), .ref (a 41), .ref (a 42), .ref (a 43), .long 0, .long 0, .long 0, .ref (a 44), .int 0, .ref (a 45), .ref (a 46), .ref (a 47)])), ((a 2), .inl ((k 2), 12, .inl (fun _ => 0))), ((a 3), .inl ((k 3), 500, .inl (fun _ => 0))), ((a 4), .inl ((k 4), 6000, .inl (fun _ => 0)))] := hD
              refine lv_iinc (v := 3) (lv' := [(4, .int 3), (0, .ref (a 0)), (1, .int p_0), (2, .int p_1), (3, .int p_2)]) hx hb d_Md_level_73 hl (k := 0) rfl (by decide +kernel) (by decide) rfl (fun ls hl => ?_)
              refine lv_goto (tgt := 33) hx hb d_Md_level_76 (by decide) ?_
              refine lv_iload hx hb d_Md_level_33 (lv_at hl 0 rfl) ?_
              refine lv_bipush (v := 12) hx hb d_Md_level_35 (by decide +kernel) ?_
              refine lv_icmp_ge (tgt := 79) hx hb d_Md_level_37 (by decide) (fun h => absurd h (by decide +kernel)) (fun _ => ?_)
              refine lv_aload_n hx hb d_Md_level_40 rfl (lv_at hl 1 rfl) ?_
              refine va_get (D := (dC, dI)) (ci := 7) (v := .ref (a 3)) (C := R_Md) (T := F_Md) (N := 64) hx hb htb i_Md hown hK hP 0 rfl rfl 6 (by decide) (htb (.fieldLink R_Md 17 "WaterMenModel" "hasRow" "[Z") tw_8) (fun _ h9 => h9) rfl d_Md_level_41 ?_
              refine lv_iload_n hx hb d_Md_level_44 rfl (lv_at hl 2 rfl) ?_
              refine va_zald hx hb hK hP 2 1 rfl rfl (hb_inl c_1 c_2 (by decide +kernel)) d_Md_level_45 ?_
              refine hb_ti 0 rfl ?_
              refine lv_if_ne (tgt := 79) hx hb d_Md_level_46 (by decide) (fun h => absurd (by decide +kernel) h) (fun _ => ?_)
              refine lv_aload_n hx hb d_Md_level_49 rfl (lv_at hl 1 rfl) ?_
              refine va_get (D := (dC, dI)) (ci := 7) (v := .ref (a 4)) (C := R_Md) (T := F_Md) (N := 64) hx hb htb i_Md hown hK hP 0 rfl rfl 7 (by decide) (htb (.fieldLink R_Md 21 "WaterMenModel" "rows" "[I") tw_9) (fun _ h9 => h9) rfl d_Md_level_50 ?_
              refine lv_bipush (v := 12) hx hb d_Md_level_53 (by decide +kernel) ?_
              refine lv_iload_n hx hb d_Md_level_55 rfl (lv_at hl 2 rfl) ?_
              refine lv_imul hx hb d_Md_level_56 ?_
              refine lv_iload hx hb d_Md_level_57 (lv_at hl 0 rfl) ?_
              refine lv_iadd hx hb d_Md_level_59 ?_
              refine lv_aload_n hx hb d_Md_level_60 rfl (lv_at hl 1 rfl) ?_
              refine va_get (D := (dC, dI)) (ci := 7) (v := .ref (a 2)) (C := R_Md) (T := F_Md) (N := 64) hx hb htb i_Md hown hK hP 0 rfl rfl 5 (by decide) (htb (.fieldLink R_Md 25 "WaterMenModel" "table" "[I") tw_6) (fun _ h9 => h9) rfl d_Md_level_61 ?_
              refine lv_iload hx hb d_Md_level_64 (lv_at hl 0 rfl) ?_
              refine lv_iload_n hx hb d_Md_level_66 rfl (lv_at hl 2 rfl) ?_
              refine lv_iadd hx hb d_Md_level_67 ?_
              refine lv_bipush (v := 12) hx hb d_Md_level_68 (by decide +kernel) ?_
              refine lv_irem hx hb d_Md_level_70 (by decide) ?_
              refine va_iald hx hb hK hP 1 0 rfl rfl (hb_rem12 (by decide +kernel) (by decide +kernel) c_1 (show ¬ (1000 < p_0) from by have e0 := c_1; rw [Int32.lt_iff_toInt_lt] at e0; have e1 := c_2; rw [Int32.lt_iff_toInt_lt] at e1; have z0 : (0 : Int32).toInt = 0 := (by decide +kernel); have z1 : (499 : Int32).toInt = 499 := (by decide +kernel); have z2 : (1000 : Int32).toInt = 1000 := (by decide +kernel); rw [Int32.lt_iff_toInt_lt]; omega)) d_Md_level_71 ?_
              refine hb_ti 0 rfl ?_
              refine va_iast hx hb hK hP hD hS 3 2 rfl rfl (hb_i6000 c_1 c_2 (by decide +kernel) (by decide +kernel)) d_Md_level_72 (fun H locs hP hD hS => ?_)
              rw [hb_upd0 0 (((12 * p_0) + 3) : Int32).toNatClampNeg (0) (by decide +kernel)] at hP hD
              have hP : va_P (dC, dI) vwCl [((a 0), .inr (7, [.int 0, .int 0, .int 0, .ref (a 1), .int (-1), .ref (a 2), .ref (a 3), .ref (a 4), .ref (a 5), .ref (a 6), .ref (a 7), .ref (a 8), .ref (a 9), .ref (a 10), .ref (a 11), .ref (a 12), .ref (a 13), .ref (a 14), .ref (a 15), .ref (a 16), .ref (a 17), .int 0, .ref (a 18), .ref (a 19), .ref (a 20), .ref (a 21), .ref (a 22), .ref (a 23), .int 0, .int 0, .ref (a 24), .ref (a 25), .ref (a 26), .ref (a 27), .ref (a 28), .ref (a 29), .ref (a 30), .ref (a 31), .ref (a 32), .ref (a 33), .ref (a 34), .ref (a 35), .int 0, .int 0, .int 0, .int 0, .int 0, .int 0, .ref (a 36), .ref (a 37), .ref (a 38), .ref (a 39), .ref (a 40), .ref (a 41), .ref (a 42), .ref (a 43), .long 0, .long 0, .long 0, .ref (a 44), .int 0, .ref (a 45), .ref (a 46), .ref (a 47)])), ((a 2), .inl ((k 2), 12, .inl (fun _ => 0))), ((a 3), .inl ((k 3), 500, .inl (fun _ => 0))), ((a 4), .inl ((k 4), 6000, .inl (fun _ => 0)))] H := hP
              have hD : va_D A [((a 0), .inr (7, [.int 0, .int 0, .int 0, .ref (a 1), .int (-1), .ref (a 2), .ref (a 3), .ref (a 4), .ref (a 5), .ref (a 6), .ref (a 7), .ref (a 8), .ref (a 9), .ref (a 10), .ref (a 11), .ref (a 12), .ref (a 13), .ref (a 14), .ref (a 15), .ref (a 16), .ref (a 17), .int 0, .ref (a 18), .ref (a 19), .ref (a 20), .ref (a 21), .ref (a 22), .ref (a 23), .int 0, .int 0, .ref (a 24), .ref (a 25), .ref (a 26), .ref (a 27), .ref (a 28), .ref (a 29), .ref (a 30), .ref (a 31), .ref (a 32), .ref (a 33), .ref (a 34), .ref (a 35), .int 0, .int 0, .int 0, .int 0, .int 0, .int 0, .ref (a 36), .ref (a 37), .ref (a 38), .ref (a 39), .ref (a 40), .ref (a 41), .ref (a 42), .ref (a 43), .long 0, .long 0, .long 0, .ref (a 44), .int 0, .ref (a 45), .ref (a 46), .ref (a 47)])), ((a 2), .inl ((k 2), 12, .inl (fun _ => 0))), ((a 3), .inl ((k 3), 500, .inl (fun _ => 0))), ((a 4), .inl ((k 4), 6000, .inl (fun _ => 0)))] := hD
              refine lv_iinc (v := 4) (lv' := [(4, .int 4), (0, .ref (a 0)), (1, .int p_0), (2, .int p_1), (3, .int p_2)]) hx hb d_Md_level_73 hl (k := 0) rfl (by decide +kernel) (by decide) rfl (fun ls hl => ?_)
              refine lv_goto (tgt := 33) hx hb d_Md_level_76 (by decide) ?_
              refine lv_iload hx hb d_Md_level_33 (lv_at hl 0 rfl) ?_
              refine lv_bipush (v := 12) hx hb d_Md_level_35 (by decide +kernel) ?_
              refine lv_icmp_ge (tgt := 79) hx hb d_Md_level_37 (by decide) (fun h => absurd h (by decide +kernel)) (fun _ => ?_)
              refine lv_aload_n hx hb d_Md_level_40 rfl (lv_at hl 1 rfl) ?_
              refine va_get (D := (dC, dI)) (ci := 7) (v := .ref (a 3)) (C := R_Md) (T := F_Md) (N := 64) hx hb htb i_Md hown hK hP 0 rfl rfl 6 (by decide) (htb (.fieldLink R_Md 17 "WaterMenModel" "hasRow" "[Z") tw_8) (fun _ h9 => h9) rfl d_Md_level_41 ?_
              refine lv_iload_n hx hb d_Md_level_44 rfl (lv_at hl 2 rfl) ?_
              refine va_zald hx hb hK hP 2 1 rfl rfl (hb_inl c_1 c_2 (by decide +kernel)) d_Md_level_45 ?_
              refine hb_ti 0 rfl ?_
              refine lv_if_ne (tgt := 79) hx hb d_Md_level_46 (by decide) (fun h => absurd (by decide +kernel) h) (fun _ => ?_)
              refine lv_aload_n hx hb d_Md_level_49 rfl (lv_at hl 1 rfl) ?_
              refine va_get (D := (dC, dI)) (ci := 7) (v := .ref (a 4)) (C := R_Md) (T := F_Md) (N := 64) hx hb htb i_Md hown hK hP 0 rfl rfl 7 (by decide) (htb (.fieldLink R_Md 21 "WaterMenModel" "rows" "[I") tw_9) (fun _ h9 => h9) rfl d_Md_level_50 ?_
              refine lv_bipush (v := 12) hx hb d_Md_level_53 (by decide +kernel) ?_
              refine lv_iload_n hx hb d_Md_level_55 rfl (lv_at hl 2 rfl) ?_
              refine lv_imul hx hb d_Md_level_56 ?_
              refine lv_iload hx hb d_Md_level_57 (lv_at hl 0 rfl) ?_
              refine lv_iadd hx hb d_Md_level_59 ?_
              refine lv_aload_n hx hb d_Md_level_60 rfl (lv_at hl 1 rfl) ?_
              refine va_get (D := (dC, dI)) (ci := 7) (v := .ref (a 2)) (C := R_Md) (T := F_Md) (N := 64) hx hb htb i_Md hown hK hP 0 rfl rfl 5 (by decide) (htb (.fieldLink R_Md 25 "WaterMenModel" "table" "[I") tw_6) (fun _ h9 => h9) rfl d_Md_level_61 ?_
              refine lv_iload hx hb d_Md_level_64 (lv_at hl 0 rfl) ?_
              refine lv_iload_n hx hb d_Md_level_66 rfl (lv_at hl 2 rfl) ?_
              refine lv_iadd hx hb d_Md_level_67 ?_
              refine lv_bipush (v := 12) hx hb d_Md_level_68 (by decide +kernel) ?_
              refine lv_irem hx hb d_Md_level_70 (by decide) ?_
              refine va_iald hx hb hK hP 1 0 rfl rfl (hb_rem12 (by decide +kernel) (by decide +kernel) c_1 (show ¬ (1000 < p_0) from by have e0 := c_1; rw [Int32.lt_iff_toInt_lt] at e0; have e1 := c_2; rw [Int32.lt_iff_toInt_lt] at e1; have z0 : (0 : Int32).toInt = 0 := (by decide +kernel); have z1 : (499 : Int32).toInt = 499 := (by decide +kernel); have z2 : (1000 : Int32).toInt = 1000 := (by decide +kernel); rw [Int32.lt_iff_toInt_lt]; omega)) d_Md_level_71 ?_
              refine hb_ti 0 rfl ?_
              refine va_iast hx hb hK hP hD hS 3 2 rfl rfl (hb_i6000 c_1 c_2 (by decide +kernel) (by decide +kernel)) d_Md_level_72 (fun H locs hP hD hS => ?_)
              rw [hb_upd0 0 (((12 * p_0) + 4) : Int32).toNatClampNeg (0) (by decide +kernel)] at hP hD
              have hP : va_P (dC, dI) vwCl [((a 0), .inr (7, [.int 0, .int 0, .int 0, .ref (a 1), .int (-1), .ref (a 2), .ref (a 3), .ref (a 4), .ref (a 5), .ref (a 6), .ref (a 7), .ref (a 8), .ref (a 9), .ref (a 10), .ref (a 11), .ref (a 12), .ref (a 13), .ref (a 14), .ref (a 15), .ref (a 16), .ref (a 17), .int 0, .ref (a 18), .ref (a 19), .ref (a 20), .ref (a 21), .ref (a 22), .ref (a 23), .int 0, .int 0, .ref (a 24), .ref (a 25), .ref (a 26), .ref (a 27), .ref (a 28), .ref (a 29), .ref (a 30), .ref (a 31), .ref (a 32), .ref (a 33), .ref (a 34), .ref (a 35), .int 0, .int 0, .int 0, .int 0, .int 0, .int 0, .ref (a 36), .ref (a 37), .ref (a 38), .ref (a 39), .ref (a 40), .ref (a 41), .ref (a 42), .ref (a 43), .long 0, .long 0, .long 0, .ref (a 44), .int 0, .ref (a 45), .ref (a 46), .ref (a 47)])), ((a 2), .inl ((k 2), 12, .inl (fun _ => 0))), ((a 3), .inl ((k 3), 500, .inl (fun _ => 0))), ((a 4), .inl ((k 4), 6000, .inl (fun _ => 0)))] H := hP
              have hD : va_D A [((a 0), .inr (7, [.int 0, .int 0, .int 0, .ref (a 1), .int (-1), .ref (a 2), .ref (a 3), .ref (a 4), .ref (a 5), .ref (a 6), .ref (a 7), .ref (a 8), .ref (a 9), .ref (a 10), .ref (a 11), .ref (a 12), .ref (a 13), .ref (a 14), .ref (a 15), .ref (a 16), .ref (a 17), .int 0, .ref (a 18), .ref (a 19), .ref (a 20), .ref (a 21), .ref (a 22), .ref (a 23), .int 0, .int 0, .ref (a 24), .ref (a 25), .ref (a 26), .ref (a 27), .ref (a 28), .ref (a 29), .ref (a 30), .ref (a 31), .ref (a 32), .ref (a 33), .ref (a 34), .ref (a 35), .int 0, .int 0, .int 0, .int 0, .int 0, .int 0, .ref (a 36), .ref (a 37), .ref (a 38), .ref (a 39), .ref (a 40), .ref (a 41), .ref (a 42), .ref (a 43), .long 0, .long 0, .long 0, .ref (a 44), .int 0, .ref (a 45), .ref (a 46), .ref (a 47)])), ((a 2), .inl ((k 2), 12, .inl (fun _ => 0))), ((a 3), .inl ((k 3), 500, .inl (fun _ => 0))), ((a 4), .inl ((k 4), 6000, .inl (fun _ => 0)))] := hD
              refine lv_iinc (v := 5) (lv' := [(4, .int 5), (0, .ref (a 0)), (1, .int p_0), (2, .int p_1), (3, .int p_2)]) hx hb d_Md_level_73 hl (k := 0) rfl (by decide +kernel) (by decide) rfl (fun ls hl => ?_)
              refine lv_goto (tgt := 33) hx hb d_Md_level_76 (by decide) ?_
              refine lv_iload hx hb d_Md_level_33 (lv_at hl 0 rfl) ?_
              refine lv_bipush (v := 12) hx hb d_Md_level_35 (by decide +kernel) ?_
              refine lv_icmp_ge (tgt := 79) hx hb d_Md_level_37 (by decide) (fun h => absurd h (by decide +kernel)) (fun _ => ?_)
              refine lv_aload_n hx hb d_Md_level_40 rfl (lv_at hl 1 rfl) ?_
              refine va_get (D := (dC, dI)) (ci := 7) (v := .ref (a 3)) (C := R_Md) (T := F_Md) (N := 64) hx hb htb i_Md hown hK hP 0 rfl rfl 6 (by decide) (htb (.fieldLink R_Md 17 "WaterMenModel" "hasRow" "[Z") tw_8) (fun _ h9 => h9) rfl d_Md_level_41 ?_
              refine lv_iload_n hx hb d_Md_level_44 rfl (lv_at hl 2 rfl) ?_
              refine va_zald hx hb hK hP 2 1 rfl rfl (hb_inl c_1 c_2 (by decide +kernel)) d_Md_level_45 ?_
              refine hb_ti 0 rfl ?_
              refine lv_if_ne (tgt := 79) hx hb d_Md_level_46 (by decide) (fun h => absurd (by decide +kernel) h) (fun _ => ?_)
              refine lv_aload_n hx hb d_Md_level_49 rfl (lv_at hl 1 rfl) ?_
              refine va_get (D := (dC, dI)) (ci := 7) (v := .ref (a 4)) (C := R_Md) (T := F_Md) (N := 64) hx hb htb i_Md hown hK hP 0 rfl rfl 7 (by decide) (htb (.fieldLink R_Md 21 "WaterMenModel" "rows" "[I") tw_9) (fun _ h9 => h9) rfl d_Md_level_50 ?_
              refine lv_bipush (v := 12) hx hb d_Md_level_53 (by decide +kernel) ?_
              refine lv_iload_n hx hb d_Md_level_55 rfl (lv_at hl 2 rfl) ?_
              refine lv_imul hx hb d_Md_level_56 ?_
              refine lv_iload hx hb d_Md_level_57 (lv_at hl 0 rfl) ?_
              refine lv_iadd hx hb d_Md_level_59 ?_
              refine lv_aload_n hx hb d_Md_level_60 rfl (lv_at hl 1 rfl) ?_
              refine va_get (D := (dC, dI)) (ci := 7) (v := .ref (a 2)) (C := R_Md) (T := F_Md) (N := 64) hx hb htb i_Md hown hK hP 0 rfl rfl 5 (by decide) (htb (.fieldLink R_Md 25 "WaterMenModel" "table" "[I") tw_6) (fun _ h9 => h9) rfl d_Md_level_61 ?_
              refine lv_iload hx hb d_Md_level_64 (lv_at hl 0 rfl) ?_
              refine lv_iload_n hx hb d_Md_level_66 rfl (lv_at hl 2 rfl) ?_
              refine lv_iadd hx hb d_Md_level_67 ?_
              refine lv_bipush (v := 12) hx hb d_Md_level_68 (by decide +kernel) ?_
              refine lv_irem hx hb d_Md_level_70 (by decide) ?_
              refine va_iald hx hb hK hP 1 0 rfl rfl (hb_rem12 (by decide +kernel) (by decide +kernel) c_1 (show ¬ (1000 < p_0) from by have e0 := c_1; rw [Int32.lt_iff_toInt_lt] at e0; have e1 := c_2; rw [Int32.lt_iff_toInt_lt] at e1; have z0 : (0 : Int32).toInt = 0 := (by decide +kernel); have z1 : (499 : Int32).toInt = 499 := (by decide +kernel); have z2 : (1000 : Int32).toInt = 1000 := (by decide +kernel); rw [Int32.lt_iff_toInt_lt]; omega)) d_Md_level_71 ?_
              refine hb_ti 0 rfl ?_
              refine va_iast hx hb hK hP hD hS 3 2 rfl rfl (hb_i6000 c_1 c_2 (by decide +kernel) (by decide +kernel)) d_Md_level_72 (fun H locs hP hD hS => ?_)
              rw [hb_upd0 0 (((12 * p_0) + 5) : Int32).toNatClampNeg (0) (by decide +kernel)] at hP hD
              have hP : va_P (dC, dI) vwCl [((a 0), .inr (7, [.int 0, .int 0, .int 0, .ref (a 1), .int (-1), .ref (a 2), .ref (a 3), .ref (a 4), .ref (a 5), .ref (a 6), .ref (a 7), .ref (a 8), .ref (a 9), .ref (a 10), .ref (a 11), .ref (a 12), .ref (a 13), .ref (a 14), .ref (a 15), .ref (a 16), .ref (a 17), .int 0, .ref (a 18), .ref (a 19), .ref (a 20), .ref (a 21), .ref (a 22), .ref (a 23), .int 0, .int 0, .ref (a 24), .ref (a 25), .ref (a 26), .ref (a 27), .ref (a 28), .ref (a 29), .ref (a 30), .ref (a 31), .ref (a 32), .ref (a 33), .ref (a 34), .ref (a 35), .int 0, .int 0, .int 0, .int 0, .int 0, .int 0, .ref (a 36), .ref (a 37), .ref (a 38), .ref (a 39), .ref (a 40), .ref (a 41), .ref (a 42), .ref (a 43), .long 0, .long 0, .long 0, .ref (a 44), .int 0, .ref (a 45), .ref (a 46), .ref (a 47)])), ((a 2), .inl ((k 2), 12, .inl (fun _ => 0))), ((a 3), .inl ((k 3), 500, .inl (fun _ => 0))), ((a 4), .inl ((k 4), 6000, .inl (fun _ => 0)))] H := hP
              have hD : va_D A [((a 0), .inr (7, [.int 0, .int 0, .int 0, .ref (a 1), .int (-1), .ref (a 2), .ref (a 3), .ref (a 4), .ref (a 5), .ref (a 6), .ref (a 7), .ref (a 8), .ref (a 9), .ref (a 10), .ref (a 11), .ref (a 12), .ref (a 13), .ref (a 14), .ref (a 15), .ref (a 16), .ref (a 17), .int 0, .ref (a 18), .ref (a 19), .ref (a 20), .ref (a 21), .ref (a 22), .ref (a 23), .int 0, .int 0, .ref (a 24), .ref (a 25), .ref (a 26), .ref (a 27), .ref (a 28), .ref (a 29), .ref (a 30), .ref (a 31), .ref (a 32), .ref (a 33), .ref (a 34), .ref (a 35), .int 0, .int 0, .int 0, .int 0, .int 0, .int 0, .ref (a 36), .ref (a 37), .ref (a 38), .ref (a 39), .ref (a 40), .ref (a 41), .ref (a 42), .ref (a 43), .long 0, .long 0, .long 0, .ref (a 44), .int 0, .ref (a 45), .ref (a 46), .ref (a 47)])), ((a 2), .inl ((k 2), 12, .inl (fun _ => 0))), ((a 3), .inl ((k 3), 500, .inl (fun _ => 0))), ((a 4), .inl ((k 4), 6000, .inl (fun _ => 0)))] := hD
              refine lv_iinc (v := 6) (lv' := [(4, .int 6), (0, .ref (a 0)), (1, .int p_0), (2, .int p_1), (3, .int p_2)]) hx hb d_Md_level_73 hl (k := 0) rfl (by decide +kernel) (by decide) rfl (fun ls hl => ?_)
              refine lv_goto (tgt := 33) hx hb d_Md_level_76 (by decide) ?_
              refine lv_iload hx hb d_Md_level_33 (lv_at hl 0 rfl) ?_
              refine lv_bipush (v := 12) hx hb d_Md_level_35 (by decide +kernel) ?_
              refine lv_icmp_ge (tgt := 79) hx hb d_Md_level_37 (by decide) (fun h => absurd h (by decide +kernel)) (fun _ => ?_)
              refine lv_aload_n hx hb d_Md_level_40 rfl (lv_at hl 1 rfl) ?_
              refine va_get (D := (dC, dI)) (ci := 7) (v := .ref (a 3)) (C := R_Md) (T := F_Md) (N := 64) hx hb htb i_Md hown hK hP 0 rfl rfl 6 (by decide) (htb (.fieldLink R_Md 17 "WaterMenModel" "hasRow" "[Z") tw_8) (fun _ h9 => h9) rfl d_Md_level_41 ?_
              refine lv_iload_n hx hb d_Md_level_44 rfl (lv_at hl 2 rfl) ?_
              refine va_zald hx hb hK hP 2 1 rfl rfl (hb_inl c_1 c_2 (by decide +kernel)) d_Md_level_45 ?_
              refine hb_ti 0 rfl ?_
              refine lv_if_ne (tgt := 79) hx hb d_Md_level_46 (by decide) (fun h => absurd (by decide +kernel) h) (fun _ => ?_)
              refine lv_aload_n hx hb d_Md_level_49 rfl (lv_at hl 1 rfl) ?_
              refine va_get (D := (dC, dI)) (ci := 7) (v := .ref (a 4)) (C := R_Md) (T := F_Md) (N := 64) hx hb htb i_Md hown hK hP 0 rfl rfl 7 (by decide) (htb (.fieldLink R_Md 21 "WaterMenModel" "rows" "[I") tw_9) (fun _ h9 => h9) rfl d_Md_level_50 ?_
              refine lv_bipush (v := 12) hx hb d_Md_level_53 (by decide +kernel) ?_
              refine lv_iload_n hx hb d_Md_level_55 rfl (lv_at hl 2 rfl) ?_
              refine lv_imul hx hb d_Md_level_56 ?_
              refine lv_iload hx hb d_Md_level_57 (lv_at hl 0 rfl) ?_
              refine lv_iadd hx hb d_Md_level_59 ?_
              refine lv_aload_n hx hb d_Md_level_60 rfl (lv_at hl 1 rfl) ?_
              refine va_get (D := (dC, dI)) (ci := 7) (v := .ref (a 2)) (C := R_Md) (T := F_Md) (N := 64) hx hb htb i_Md hown hK hP 0 rfl rfl 5 (by decide) (htb (.fieldLink R_Md 25 "WaterMenModel" "table" "[I") tw_6) (fun _ h9 => h9) rfl d_Md_level_61 ?_
              refine lv_iload hx hb d_Md_level_64 (lv_at hl 0 rfl) ?_
              refine lv_iload_n hx hb d_Md_level_66 rfl (lv_at hl 2 rfl) ?_
              refine lv_iadd hx hb d_Md_level_67 ?_
              refine lv_bipush (v := 12) hx hb d_Md_level_68 (by decide +kernel) ?_
              refine lv_irem hx hb d_Md_level_70 (by decide) ?_
              refine va_iald hx hb hK hP 1 0 rfl rfl (hb_rem12 (by decide +kernel) (by decide +kernel) c_1 (show ¬ (1000 < p_0) from by have e0 := c_1; rw [Int32.lt_iff_toInt_lt] at e0; have e1 := c_2; rw [Int32.lt_iff_toInt_lt] at e1; have z0 : (0 : Int32).toInt = 0 := (by decide +kernel); have z1 : (499 : Int32).toInt = 499 := (by decide +kernel); have z2 : (1000 : Int32).toInt = 1000 := (by decide +kernel); rw [Int32.lt_iff_toInt_lt]; omega)) d_Md_level_71 ?_
              refine hb_ti 0 rfl ?_
              refine va_iast hx hb hK hP hD hS 3 2 rfl rfl (hb_i6000 c_1 c_2 (by decide +kernel) (by decide +kernel)) d_Md_level_72 (fun H locs hP hD hS => ?_)
              rw [hb_upd0 0 (((12 * p_0) + 6) : Int32).toNatClampNeg (0) (by decide +kernel)] at hP hD
              have hP : va_P (dC, dI) vwCl [((a 0), .inr (7, [.int 0, .int 0, .int 0, .ref (a 1), .int (-1), .ref (a 2), .ref (a 3), .ref (a 4), .ref (a 5), .ref (a 6), .ref (a 7), .ref (a 8), .ref (a 9), .ref (a 10), .ref (a 11), .ref (a 12), .ref (a 13), .ref (a 14), .ref (a 15), .ref (a 16), .ref (a 17), .int 0, .ref (a 18), .ref (a 19), .ref (a 20), .ref (a 21), .ref (a 22), .ref (a 23), .int 0, .int 0, .ref (a 24), .ref (a 25), .ref (a 26), .ref (a 27), .ref (a 28), .ref (a 29), .ref (a 30), .ref (a 31), .ref (a 32), .ref (a 33), .ref (a 34), .ref (a 35), .int 0, .int 0, .int 0, .int 0, .int 0, .int 0, .ref (a 36), .ref (a 37), .ref (a 38), .ref (a 39), .ref (a 40), .ref (a 41), .ref (a 42), .ref (a 43), .long 0, .long 0, .long 0, .ref (a 44), .int 0, .ref (a 45), .ref (a 46), .ref (a 47)])), ((a 2), .inl ((k 2), 12, .inl (fun _ => 0))), ((a 3), .inl ((k 3), 500, .inl (fun _ => 0))), ((a 4), .inl ((k 4), 6000, .inl (fun _ => 0)))] H := hP
              have hD : va_D A [((a 0), .inr (7, [.int 0, .int 0, .int 0, .ref (a 1), .int (-1), .ref (a 2), .ref (a 3), .ref (a 4), .ref (a 5), .ref (a 6), .ref (a 7), .ref (a 8), .ref (a 9), .ref (a 10), .ref (a 11), .ref (a 12), .ref (a 13), .ref (a 14), .ref (a 15), .ref (a 16), .ref (a 17), .int 0, .ref (a 18), .ref (a 19), .ref (a 20), .ref (a 21), .ref (a 22), .ref (a 23), .int 0, .int 0, .ref (a 24), .ref (a 25), .ref (a 26), .ref (a 27), .ref (a 28), .ref (a 29), .ref (a 30), .ref (a 31), .ref (a 32), .ref (a 33), .ref (a 34), .ref (a 35), .int 0, .int 0, .int 0, .int 0, .int 0, .int 0, .ref (a 36), .ref (a 37), .ref (a 38), .ref (a 39), .ref (a 40), .ref (a 41), .ref (a 42), .ref (a 43), .long 0, .long 0, .long 0, .ref (a 44), .int 0, .ref (a 45), .ref (a 46), .ref (a 47)])), ((a 2), .inl ((k 2), 12, .inl (fun _ => 0))), ((a 3), .inl ((k 3), 500, .inl (fun _ => 0))), ((a 4), .inl ((k 4), 6000, .inl (fun _ => 0)))] := hD
              refine lv_iinc (v := 7) (lv' := [(4, .int 7), (0, .ref (a 0)), (1, .int p_0), (2, .int p_1), (3, .int p_2)]) hx hb d_Md_level_73 hl (k := 0) rfl (by decide +kernel) (by decide) rfl (fun ls hl => ?_)
              refine lv_goto (tgt := 33) hx hb d_Md_level_76 (by decide) ?_
              refine lv_iload hx hb d_Md_level_33 (lv_at hl 0 rfl) ?_
              refine lv_bipush (v := 12) hx hb d_Md_level_35 (by decide +kernel) ?_
              refine lv_icmp_ge (tgt := 79) hx hb d_Md_level_37 (by decide) (fun h => absurd h (by decide +kernel)) (fun _ => ?_)
              refine lv_aload_n hx hb d_Md_level_40 rfl (lv_at hl 1 rfl) ?_
              refine va_get (D := (dC, dI)) (ci := 7) (v := .ref (a 3)) (C := R_Md) (T := F_Md) (N := 64) hx hb htb i_Md hown hK hP 0 rfl rfl 6 (by decide) (htb (.fieldLink R_Md 17 "WaterMenModel" "hasRow" "[Z") tw_8) (fun _ h9 => h9) rfl d_Md_level_41 ?_
              refine lv_iload_n hx hb d_Md_level_44 rfl (lv_at hl 2 rfl) ?_
              refine va_zald hx hb hK hP 2 1 rfl rfl (hb_inl c_1 c_2 (by decide +kernel)) d_Md_level_45 ?_
              refine hb_ti 0 rfl ?_
              refine lv_if_ne (tgt := 79) hx hb d_Md_level_46 (by decide) (fun h => absurd (by decide +kernel) h) (fun _ => ?_)
              refine lv_aload_n hx hb d_Md_level_49 rfl (lv_at hl 1 rfl) ?_
              refine va_get (D := (dC, dI)) (ci := 7) (v := .ref (a 4)) (C := R_Md) (T := F_Md) (N := 64) hx hb htb i_Md hown hK hP 0 rfl rfl 7 (by decide) (htb (.fieldLink R_Md 21 "WaterMenModel" "rows" "[I") tw_9) (fun _ h9 => h9) rfl d_Md_level_50 ?_
              refine lv_bipush (v := 12) hx hb d_Md_level_53 (by decide +kernel) ?_
              refine lv_iload_n hx hb d_Md_level_55 rfl (lv_at hl 2 rfl) ?_
              refine lv_imul hx hb d_Md_level_56 ?_
              refine lv_iload hx hb d_Md_level_57 (lv_at hl 0 rfl) ?_
              refine lv_iadd hx hb d_Md_level_59 ?_
              refine lv_aload_n hx hb d_Md_level_60 rfl (lv_at hl 1 rfl) ?_
              refine va_get (D := (dC, dI)) (ci := 7) (v := .ref (a 2)) (C := R_Md) (T := F_Md) (N := 64) hx hb htb i_Md hown hK hP 0 rfl rfl 5 (by decide) (htb (.fieldLink R_Md 25 "WaterMenModel" "table" "[I") tw_6) (fun _ h9 => h9) rfl d_Md_level_61 ?_
              refine lv_iload hx hb d_Md_level_64 (lv_at hl 0 rfl) ?_
              refine lv_iload_n hx hb d_Md_level_66 rfl (lv_at hl 2 rfl) ?_
              refine lv_iadd hx hb d_Md_level_67 ?_
              refine lv_bipush (v := 12) hx hb d_Md_level_68 (by decide +kernel) ?_
              refine lv_irem hx hb d_Md_level_70 (by decide) ?_
              refine va_iald hx hb hK hP 1 0 rfl rfl (hb_rem12 (by decide +kernel) (by decide +kernel) c_1 (show ¬ (1000 < p_0) from by have e0 := c_1; rw [Int32.lt_iff_toInt_lt] at e0; have e1 := c_2; rw [Int32.lt_iff_toInt_lt] at e1; have z0 : (0 : Int32).toInt = 0 := (by decide +kernel); have z1 : (499 : Int32).toInt = 499 := (by decide +kernel); have z2 : (1000 : Int32).toInt = 1000 := (by decide +kernel); rw [Int32.lt_iff_toInt_lt]; omega)) d_Md_level_71 ?_
              refine hb_ti 0 rfl ?_
              refine va_iast hx hb hK hP hD hS 3 2 rfl rfl (hb_i6000 c_1 c_2 (by decide +kernel) (by decide +kernel)) d_Md_level_72 (fun H locs hP hD hS => ?_)
              rw [hb_upd0 0 (((12 * p_0) + 7) : Int32).toNatClampNeg (0) (by decide +kernel)] at hP hD
              have hP : va_P (dC, dI) vwCl [((a 0), .inr (7, [.int 0, .int 0, .int 0, .ref (a 1), .int (-1), .ref (a 2), .ref (a 3), .ref (a 4), .ref (a 5), .ref (a 6), .ref (a 7), .ref (a 8), .ref (a 9), .ref (a 10), .ref (a 11), .ref (a 12), .ref (a 13), .ref (a 14), .ref (a 15), .ref (a 16), .ref (a 17), .int 0, .ref (a 18), .ref (a 19), .ref (a 20), .ref (a 21), .ref (a 22), .ref (a 23), .int 0, .int 0, .ref (a 24), .ref (a 25), .ref (a 26), .ref (a 27), .ref (a 28), .ref (a 29), .ref (a 30), .ref (a 31), .ref (a 32), .ref (a 33), .ref (a 34), .ref (a 35), .int 0, .int 0, .int 0, .int 0, .int 0, .int 0, .ref (a 36), .ref (a 37), .ref (a 38), .ref (a 39), .ref (a 40), .ref (a 41), .ref (a 42), .ref (a 43), .long 0, .long 0, .long 0, .ref (a 44), .int 0, .ref (a 45), .ref (a 46), .ref (a 47)])), ((a 2), .inl ((k 2), 12, .inl (fun _ => 0))), ((a 3), .inl ((k 3), 500, .inl (fun _ => 0))), ((a 4), .inl ((k 4), 6000, .inl (fun _ => 0)))] H := hP
              have hD : va_D A [((a 0), .inr (7, [.int 0, .int 0, .int 0, .ref (a 1), .int (-1), .ref (a 2), .ref (a 3), .ref (a 4), .ref (a 5), .ref (a 6), .ref (a 7), .ref (a 8), .ref (a 9), .ref (a 10), .ref (a 11), .ref (a 12), .ref (a 13), .ref (a 14), .ref (a 15), .ref (a 16), .ref (a 17), .int 0, .ref (a 18), .ref (a 19), .ref (a 20), .ref (a 21), .ref (a 22), .ref (a 23), .int 0, .int 0, .ref (a 24), .ref (a 25), .ref (a 26), .ref (a 27), .ref (a 28), .ref (a 29), .ref (a 30), .ref (a 31), .ref (a 32), .ref (a 33), .ref (a 34), .ref (a 35), .int 0, .int 0, .int 0, .int 0, .int 0, .int 0, .ref (a 36), .ref (a 37), .ref (a 38), .ref (a 39), .ref (a 40), .ref (a 41), .ref (a 42), .ref (a 43), .long 0, .long 0, .long 0, .ref (a 44), .int 0, .ref (a 45), .ref (a 46), .ref (a 47)])), ((a 2), .inl ((k 2), 12, .inl (fun _ => 0))), ((a 3), .inl ((k 3), 500, .inl (fun _ => 0))), ((a 4), .inl ((k 4), 6000, .inl (fun _ => 0)))] := hD
              refine lv_iinc (v := 8) (lv' := [(4, .int 8), (0, .ref (a 0)), (1, .int p_0), (2, .int p_1), (3, .int p_2)]) hx hb d_Md_level_73 hl (k := 0) rfl (by decide +kernel) (by decide) rfl (fun ls hl => ?_)
              refine lv_goto (tgt := 33) hx hb d_Md_level_76 (by decide) ?_
              refine lv_iload hx hb d_Md_level_33 (lv_at hl 0 rfl) ?_
              refine lv_bipush (v := 12) hx hb d_Md_level_35 (by decide +kernel) ?_
              refine lv_icmp_ge (tgt := 79) hx hb d_Md_level_37 (by decide) (fun h => absurd h (by decide +kernel)) (fun _ => ?_)
              refine lv_aload_n hx hb d_Md_level_40 rfl (lv_at hl 1 rfl) ?_
              refine va_get (D := (dC, dI)) (ci := 7) (v := .ref (a 3)) (C := R_Md) (T := F_Md) (N := 64) hx hb htb i_Md hown hK hP 0 rfl rfl 6 (by decide) (htb (.fieldLink R_Md 17 "WaterMenModel" "hasRow" "[Z") tw_8) (fun _ h9 => h9) rfl d_Md_level_41 ?_
              refine lv_iload_n hx hb d_Md_level_44 rfl (lv_at hl 2 rfl) ?_
              refine va_zald hx hb hK hP 2 1 rfl rfl (hb_inl c_1 c_2 (by decide +kernel)) d_Md_level_45 ?_
              refine hb_ti 0 rfl ?_
              refine lv_if_ne (tgt := 79) hx hb d_Md_level_46 (by decide) (fun h => absurd (by decide +kernel) h) (fun _ => ?_)
              refine lv_aload_n hx hb d_Md_level_49 rfl (lv_at hl 1 rfl) ?_
              refine va_get (D := (dC, dI)) (ci := 7) (v := .ref (a 4)) (C := R_Md) (T := F_Md) (N := 64) hx hb htb i_Md hown hK hP 0 rfl rfl 7 (by decide) (htb (.fieldLink R_Md 21 "WaterMenModel" "rows" "[I") tw_9) (fun _ h9 => h9) rfl d_Md_level_50 ?_
              refine lv_bipush (v := 12) hx hb d_Md_level_53 (by decide +kernel) ?_
              refine lv_iload_n hx hb d_Md_level_55 rfl (lv_at hl 2 rfl) ?_
              refine lv_imul hx hb d_Md_level_56 ?_
              refine lv_iload hx hb d_Md_level_57 (lv_at hl 0 rfl) ?_
              refine lv_iadd hx hb d_Md_level_59 ?_
              refine lv_aload_n hx hb d_Md_level_60 rfl (lv_at hl 1 rfl) ?_
              refine va_get (D := (dC, dI)) (ci := 7) (v := .ref (a 2)) (C := R_Md) (T := F_Md) (N := 64) hx hb htb i_Md hown hK hP 0 rfl rfl 5 (by decide) (htb (.fieldLink R_Md 25 "WaterMenModel" "table" "[I") tw_6) (fun _ h9 => h9) rfl d_Md_level_61 ?_
              refine lv_iload hx hb d_Md_level_64 (lv_at hl 0 rfl) ?_
              refine lv_iload_n hx hb d_Md_level_66 rfl (lv_at hl 2 rfl) ?_
              refine lv_iadd hx hb d_Md_level_67 ?_
              refine lv_bipush (v := 12) hx hb d_Md_level_68 (by decide +kernel) ?_
              refine lv_irem hx hb d_Md_level_70 (by decide) ?_
              refine va_iald hx hb hK hP 1 0 rfl rfl (hb_rem12 (by decide +kernel) (by decide +kernel) c_1 (show ¬ (1000 < p_0) from by have e0 := c_1; rw [Int32.lt_iff_toInt_lt] at e0; have e1 := c_2; rw [Int32.lt_iff_toInt_lt] at e1; have z0 : (0 : Int32).toInt = 0 := (by decide +kernel); have z1 : (499 : Int32).toInt = 499 := (by decide +kernel); have z2 : (1000 : Int32).toInt = 1000 := (by decide +kernel); rw [Int32.lt_iff_toInt_lt]; omega)) d_Md_level_71 ?_
              refine hb_ti 0 rfl ?_
              refine va_iast hx hb hK hP hD hS 3 2 rfl rfl (hb_i6000 c_1 c_2 (by decide +kernel) (by decide +kernel)) d_Md_level_72 (fun H locs hP hD hS => ?_)
              rw [hb_upd0 0 (((12 * p_0) + 8) : Int32).toNatClampNeg (0) (by decide +kernel)] at hP hD
              have hP : va_P (dC, dI) vwCl [((a 0), .inr (7, [.int 0, .int 0, .int 0, .ref (a 1), .int (-1), .ref (a 2), .ref (a 3), .ref (a 4), .ref (a 5), .ref (a 6), .ref (a 7), .ref (a 8), .ref (a 9), .ref (a 10), .ref (a 11), .ref (a 12), .ref (a 13), .ref (a 14), .ref (a 15), .ref (a 16), .ref (a 17), .int 0, .ref (a 18), .ref (a 19), .ref (a 20), .ref (a 21), .ref (a 22), .ref (a 23), .int 0, .int 0, .ref (a 24), .ref (a 25), .ref (a 26), .ref (a 27), .ref (a 28), .ref (a 29), .ref (a 30), .ref (a 31), .ref (a 32), .ref (a 33), .ref (a 34), .ref (a 35), .int 0, .int 0, .int 0, .int 0, .int 0, .int 0, .ref (a 36), .ref (a 37), .ref (a 38), .ref (a 39), .ref (a 40), .ref (a 41), .ref (a 42), .ref (a 43), .long 0, .long 0, .long 0, .ref (a 44), .int 0, .ref (a 45), .ref (a 46), .ref (a 47)])), ((a 2), .inl ((k 2), 12, .inl (fun _ => 0))), ((a 3), .inl ((k 3), 500, .inl (fun _ => 0))), ((a 4), .inl ((k 4), 6000, .inl (fun _ => 0)))] H := hP
              have hD : va_D A [((a 0), .inr (7, [.int 0, .int 0, .int 0, .ref (a 1), .int (-1), .ref (a 2), .ref (a 3), .ref (a 4), .ref (a 5), .ref (a 6), .ref (a 7), .ref (a 8), .ref (a 9), .ref (a 10), .ref (a 11), .ref (a 12), .ref (a 13), .ref (a 14), .ref (a 15), .ref (a 16), .ref (a 17), .int 0, .ref (a 18), .ref (a 19), .ref (a 20), .ref (a 21), .ref (a 22), .ref (a 23), .int 0, .int 0, .ref (a 24), .ref (a 25), .ref (a 26), .ref (a 27), .ref (a 28), .ref (a 29), .ref (a 30), .ref (a 31), .ref (a 32), .ref (a 33), .ref (a 34), .ref (a 35), .int 0, .int 0, .int 0, .int 0, .int 0, .int 0, .ref (a 36), .ref (a 37), .ref (a 38), .ref (a 39), .ref (a 40), .ref (a 41), .ref (a 42), .ref (a 43), .long 0, .long 0, .long 0, .ref (a 44), .int 0, .ref (a 45), .ref (a 46), .ref (a 47)])), ((a 2), .inl ((k 2), 12, .inl (fun _ => 0))), ((a 3), .inl ((k 3), 500, .inl (fun _ => 0))), ((a 4), .inl ((k 4), 6000, .inl (fun _ => 0)))] := hD
              refine lv_iinc (v := 9) (lv' := [(4, .int 9), (0, .ref (a 0)), (1, .int p_0), (2, .int p_1), (3, .int p_2)]) hx hb d_Md_level_73 hl (k := 0) rfl (by decide +kernel) (by decide) rfl (fun ls hl => ?_)
              refine lv_goto (tgt := 33) hx hb d_Md_level_76 (by decide) ?_
              refine lv_iload hx hb d_Md_level_33 (lv_at hl 0 rfl) ?_
              refine lv_bipush (v := 12) hx hb d_Md_level_35 (by decide +kernel) ?_
              refine lv_icmp_ge (tgt := 79) hx hb d_Md_level_37 (by decide) (fun h => absurd h (by decide +kernel)) (fun _ => ?_)
              refine lv_aload_n hx hb d_Md_level_40 rfl (lv_at hl 1 rfl) ?_
              refine va_get (D := (dC, dI)) (ci := 7) (v := .ref (a 3)) (C := R_Md) (T := F_Md) (N := 64) hx hb htb i_Md hown hK hP 0 rfl rfl 6 (by decide) (htb (.fieldLink R_Md 17 "WaterMenModel" "hasRow" "[Z") tw_8) (fun _ h9 => h9) rfl d_Md_level_41 ?_
              refine lv_iload_n hx hb d_Md_level_44 rfl (lv_at hl 2 rfl) ?_
              refine va_zald hx hb hK hP 2 1 rfl rfl (hb_inl c_1 c_2 (by decide +kernel)) d_Md_level_45 ?_
              refine hb_ti 0 rfl ?_
              refine lv_if_ne (tgt := 79) hx hb d_Md_level_46 (by decide) (fun h => absurd (by decide +kernel) h) (fun _ => ?_)
              refine lv_aload_n hx hb d_Md_level_49 rfl (lv_at hl 1 rfl) ?_
              refine va_get (D := (dC, dI)) (ci := 7) (v := .ref (a 4)) (C := R_Md) (T := F_Md) (N := 64) hx hb htb i_Md hown hK hP 0 rfl rfl 7 (by decide) (htb (.fieldLink R_Md 21 "WaterMenModel" "rows" "[I") tw_9) (fun _ h9 => h9) rfl d_Md_level_50 ?_
              refine lv_bipush (v := 12) hx hb d_Md_level_53 (by decide +kernel) ?_
              refine lv_iload_n hx hb d_Md_level_55 rfl (lv_at hl 2 rfl) ?_
              refine lv_imul hx hb d_Md_level_56 ?_
              refine lv_iload hx hb d_Md_level_57 (lv_at hl 0 rfl) ?_
              refine lv_iadd hx hb d_Md_level_59 ?_
              refine lv_aload_n hx hb d_Md_level_60 rfl (lv_at hl 1 rfl) ?_
              refine va_get (D := (dC, dI)) (ci := 7) (v := .ref (a 2)) (C := R_Md) (T := F_Md) (N := 64) hx hb htb i_Md hown hK hP 0 rfl rfl 5 (by decide) (htb (.fieldLink R_Md 25 "WaterMenModel" "table" "[I") tw_6) (fun _ h9 => h9) rfl d_Md_level_61 ?_
              refine lv_iload hx hb d_Md_level_64 (lv_at hl 0 rfl) ?_
              refine lv_iload_n hx hb d_Md_level_66 rfl (lv_at hl 2 rfl) ?_
              refine lv_iadd hx hb d_Md_level_67 ?_
              refine lv_bipush (v := 12) hx hb d_Md_level_68 (by decide +kernel) ?_
              refine lv_irem hx hb d_Md_level_70 (by decide) ?_
              refine va_iald hx hb hK hP 1 0 rfl rfl (hb_rem12 (by decide +kernel) (by decide +kernel) c_1 (show ¬ (1000 < p_0) from by have e0 := c_1; rw [Int32.lt_iff_toInt_lt] at e0; have e1 := c_2; rw [Int32.lt_iff_toInt_lt] at e1; have z0 : (0 : Int32).toInt = 0 := (by decide +kernel); have z1 : (499 : Int32).toInt = 499 := (by decide +kernel); have z2 : (1000 : Int32).toInt = 1000 := (by decide +kernel); rw [Int32.lt_iff_toInt_lt]; omega)) d_Md_level_71 ?_
              refine hb_ti 0 rfl ?_
              refine va_iast hx hb hK hP hD hS 3 2 rfl rfl (hb_i6000 c_1 c_2 (by decide +kernel) (by decide +kernel)) d_Md_level_72 (fun H locs hP hD hS => ?_)
              rw [hb_upd0 0 (((12 * p_0) + 9) : Int32).toNatClampNeg (0) (by decide +kernel)] at hP hD
              have hP : va_P (dC, dI) vwCl [((a 0), .inr (7, [.int 0, .int 0, .int 0, .ref (a 1), .int (-1), .ref (a 2), .ref (a 3), .ref (a 4), .ref (a 5), .ref (a 6), .ref (a 7), .ref (a 8), .ref (a 9), .ref (a 10), .ref (a 11), .ref (a 12), .ref (a 13), .ref (a 14), .ref (a 15), .ref (a 16), .ref (a 17), .int 0, .ref (a 18), .ref (a 19), .ref (a 20), .ref (a 21), .ref (a 22), .ref (a 23), .int 0, .int 0, .ref (a 24), .ref (a 25), .ref (a 26), .ref (a 27), .ref (a 28), .ref (a 29), .ref (a 30), .ref (a 31), .ref (a 32), .ref (a 33), .ref (a 34), .ref (a 35), .int 0, .int 0, .int 0, .int 0, .int 0, .int 0, .ref (a 36), .ref (a 37), .ref (a 38), .ref (a 39), .ref (a 40), .ref (a 41), .ref (a 42), .ref (a 43), .long 0, .long 0, .long 0, .ref (a 44), .int 0, .ref (a 45), .ref (a 46), .ref (a 47)])), ((a 2), .inl ((k 2), 12, .inl (fun _ => 0))), ((a 3), .inl ((k 3), 500, .inl (fun _ => 0))), ((a 4), .inl ((k 4), 6000, .inl (fun _ => 0)))] H := hP
              have hD : va_D A [((a 0), .inr (7, [.int 0, .int 0, .int 0, .ref (a 1), .int (-1), .ref (a 2), .ref (a 3), .ref (a 4), .ref (a 5), .ref (a 6), .ref (a 7), .ref (a 8), .ref (a 9), .ref (a 10), .ref (a 11), .ref (a 12), .ref (a 13), .ref (a 14), .ref (a 15), .ref (a 16), .ref (a 17), .int 0, .ref (a 18), .ref (a 19), .ref (a 20), .ref (a 21), .ref (a 22), .ref (a 23), .int 0, .int 0, .ref (a 24), .ref (a 25), .ref (a 26), .ref (a 27), .ref (a 28), .ref (a 29), .ref (a 30), .ref (a 31), .ref (a 32), .ref (a 33), .ref (a 34), .ref (a 35), .int 0, .int 0, .int 0, .int 0, .int 0, .int 0, .ref (a 36), .ref (a 37), .ref (a 38), .ref (a 39), .ref (a 40), .ref (a 41), .ref (a 42), .ref (a 43), .long 0, .long 0, .long 0, .ref (a 44), .int 0, .ref (a 45), .ref (a 46), .ref (a 47)])), ((a 2), .inl ((k 2), 12, .inl (fun _ => 0))), ((a 3), .inl ((k 3), 500, .inl (fun _ => 0))), ((a 4), .inl ((k 4), 6000, .inl (fun _ => 0)))] := hD
              refine lv_iinc (v := 10) (lv' := [(4, .int 10), (0, .ref (a 0)), (1, .int p_0), (2, .int p_1), (3, .int p_2)]) hx hb d_Md_level_73 hl (k := 0) rfl (by decide +kernel) (by decide) rfl (fun ls hl => ?_)
              refine lv_goto (tgt := 33) hx hb d_Md_level_76 (by decide) ?_
              refine lv_iload hx hb d_Md_level_33 (lv_at hl 0 rfl) ?_
              refine lv_bipush (v := 12) hx hb d_Md_level_35 (by decide +kernel) ?_
              refine lv_icmp_ge (tgt := 79) hx hb d_Md_level_37 (by decide) (fun h => absurd h (by decide +kernel)) (fun _ => ?_)
              refine lv_aload_n hx hb d_Md_level_40 rfl (lv_at hl 1 rfl) ?_
              refine va_get (D := (dC, dI)) (ci := 7) (v := .ref (a 3)) (C := R_Md) (T := F_Md) (N := 64) hx hb htb i_Md hown hK hP 0 rfl rfl 6 (by decide) (htb (.fieldLink R_Md 17 "WaterMenModel" "hasRow" "[Z") tw_8) (fun _ h9 => h9) rfl d_Md_level_41 ?_
              refine lv_iload_n hx hb d_Md_level_44 rfl (lv_at hl 2 rfl) ?_
              refine va_zald hx hb hK hP 2 1 rfl rfl (hb_inl c_1 c_2 (by decide +kernel)) d_Md_level_45 ?_
              refine hb_ti 0 rfl ?_
              refine lv_if_ne (tgt := 79) hx hb d_Md_level_46 (by decide) (fun h => absurd (by decide +kernel) h) (fun _ => ?_)
              refine lv_aload_n hx hb d_Md_level_49 rfl (lv_at hl 1 rfl) ?_
              refine va_get (D := (dC, dI)) (ci := 7) (v := .ref (a 4)) (C := R_Md) (T := F_Md) (N := 64) hx hb htb i_Md hown hK hP 0 rfl rfl 7 (by decide) (htb (.fieldLink R_Md 21 "WaterMenModel" "rows" "[I") tw_9) (fun _ h9 => h9) rfl d_Md_level_50 ?_
              refine lv_bipush (v := 12) hx hb d_Md_level_53 (by decide +kernel) ?_
              refine lv_iload_n hx hb d_Md_level_55 rfl (lv_at hl 2 rfl) ?_
              refine lv_imul hx hb d_Md_level_56 ?_
              refine lv_iload hx hb d_Md_level_57 (lv_at hl 0 rfl) ?_
              refine lv_iadd hx hb d_Md_level_59 ?_
              refine lv_aload_n hx hb d_Md_level_60 rfl (lv_at hl 1 rfl) ?_
              refine va_get (D := (dC, dI)) (ci := 7) (v := .ref (a 2)) (C := R_Md) (T := F_Md) (N := 64) hx hb htb i_Md hown hK hP 0 rfl rfl 5 (by decide) (htb (.fieldLink R_Md 25 "WaterMenModel" "table" "[I") tw_6) (fun _ h9 => h9) rfl d_Md_level_61 ?_
              refine lv_iload hx hb d_Md_level_64 (lv_at hl 0 rfl) ?_
              refine lv_iload_n hx hb d_Md_level_66 rfl (lv_at hl 2 rfl) ?_
              refine lv_iadd hx hb d_Md_level_67 ?_
              refine lv_bipush (v := 12) hx hb d_Md_level_68 (by decide +kernel) ?_
              refine lv_irem hx hb d_Md_level_70 (by decide) ?_
              refine va_iald hx hb hK hP 1 0 rfl rfl (hb_rem12 (by decide +kernel) (by decide +kernel) c_1 (show ¬ (1000 < p_0) from by have e0 := c_1; rw [Int32.lt_iff_toInt_lt] at e0; have e1 := c_2; rw [Int32.lt_iff_toInt_lt] at e1; have z0 : (0 : Int32).toInt = 0 := (by decide +kernel); have z1 : (499 : Int32).toInt = 499 := (by decide +kernel); have z2 : (1000 : Int32).toInt = 1000 := (by decide +kernel); rw [Int32.lt_iff_toInt_lt]; omega)) d_Md_level_71 ?_
              refine hb_ti 0 rfl ?_
              refine va_iast hx hb hK hP hD hS 3 2 rfl rfl (hb_i6000 c_1 c_2 (by decide +kernel) (by decide +kernel)) d_Md_level_72 (fun H locs hP hD hS => ?_)
              rw [hb_upd0 0 (((12 * p_0) + 10) : Int32).toNatClampNeg (0) (by decide +kernel)] at hP hD
              have hP : va_P (dC, dI) vwCl [((a 0), .inr (7, [.int 0, .int 0, .int 0, .ref (a 1), .int (-1), .ref (a 2), .ref (a 3), .ref (a 4), .ref (a 5), .ref (a 6), .ref (a 7), .ref (a 8), .ref (a 9), .ref (a 10), .ref (a 11), .ref (a 12), .ref (a 13), .ref (a 14), .ref (a 15), .ref (a 16), .ref (a 17), .int 0, .ref (a 18), .ref (a 19), .ref (a 20), .ref (a 21), .ref (a 22), .ref (a 23), .int 0, .int 0, .ref (a 24), .ref (a 25), .ref (a 26), .ref (a 27), .ref (a 28), .ref (a 29), .ref (a 30), .ref (a 31), .ref (a 32), .ref (a 33), .ref (a 34), .ref (a 35), .int 0, .int 0, .int 0, .int 0, .int 0, .int 0, .ref (a 36), .ref (a 37), .ref (a 38), .ref (a 39), .ref (a 40), .ref (a 41), .ref (a 42), .ref (a 43), .long 0, .long 0, .long 0, .ref (a 44), .int 0, .ref (a 45), .ref (a 46), .ref (a 47)])), ((a 2), .inl ((k 2), 12, .inl (fun _ => 0))), ((a 3), .inl ((k 3), 500, .inl (fun _ => 0))), ((a 4), .inl ((k 4), 6000, .inl (fun _ => 0)))] H := hP
              have hD : va_D A [((a 0), .inr (7, [.int 0, .int 0, .int 0, .ref (a 1), .int (-1), .ref (a 2), .ref (a 3), .ref (a 4), .ref (a 5), .ref (a 6), .ref (a 7), .ref (a 8), .ref (a 9), .ref (a 10), .ref (a 11), .ref (a 12), .ref (a 13), .ref (a 14), .ref (a 15), .ref (a 16), .ref (a 17), .int 0, .ref (a 18), .ref (a 19), .ref (a 20), .ref (a 21), .ref (a 22), .ref (a 23), .int 0, .int 0, .ref (a 24), .ref (a 25), .ref (a 26), .ref (a 27), .ref (a 28), .ref (a 29), .ref (a 30), .ref (a 31), .ref (a 32), .ref (a 33), .ref (a 34), .ref (a 35), .int 0, .int 0, .int 0, .int 0, .int 0, .int 0, .ref (a 36), .ref (a 37), .ref (a 38), .ref (a 39), .ref (a 40), .ref (a 41), .ref (a 42), .ref (a 43), .long 0, .long 0, .long 0, .ref (a 44), .int 0, .ref (a 45), .ref (a 46), .ref (a 47)])), ((a 2), .inl ((k 2), 12, .inl (fun _ => 0))), ((a 3), .inl ((k 3), 500, .inl (fun _ => 0))), ((a 4), .inl ((k 4), 6000, .inl (fun _ => 0)))] := hD
              refine lv_iinc (v := 11) (lv' := [(4, .int 11), (0, .ref (a 0)), (1, .int p_0), (2, .int p_1), (3, .int p_2)]) hx hb d_Md_level_73 hl (k := 0) rfl (by decide +kernel) (by decide) rfl (fun ls hl => ?_)
              refine lv_goto (tgt := 33) hx hb d_Md_level_76 (by decide) ?_
              refine lv_iload hx hb d_Md_level_33 (lv_at hl 0 rfl) ?_
              refine lv_bipush (v := 12) hx hb d_Md_level_35 (by decide +kernel) ?_
              refine lv_icmp_ge (tgt := 79) hx hb d_Md_level_37 (by decide) (fun h => absurd h (by decide +kernel)) (fun _ => ?_)
              refine lv_aload_n hx hb d_Md_level_40 rfl (lv_at hl 1 rfl) ?_
              refine va_get (D := (dC, dI)) (ci := 7) (v := .ref (a 3)) (C := R_Md) (T := F_Md) (N := 64) hx hb htb i_Md hown hK hP 0 rfl rfl 6 (by decide) (htb (.fieldLink R_Md 17 "WaterMenModel" "hasRow" "[Z") tw_8) (fun _ h9 => h9) rfl d_Md_level_41 ?_
              refine lv_iload_n hx hb d_Md_level_44 rfl (lv_at hl 2 rfl) ?_
              refine va_zald hx hb hK hP 2 1 rfl rfl (hb_inl c_1 c_2 (by decide +kernel)) d_Md_level_45 ?_
              refine hb_ti 0 rfl ?_
              refine lv_if_ne (tgt := 79) hx hb d_Md_level_46 (by decide) (fun h => absurd (by decide +kernel) h) (fun _ => ?_)
              refine lv_aload_n hx hb d_Md_level_49 rfl (lv_at hl 1 rfl) ?_
              refine va_get (D := (dC, dI)) (ci := 7) (v := .ref (a 4)) (C := R_Md) (T := F_Md) (N := 64) hx hb htb i_Md hown hK hP 0 rfl rfl 7 (by decide) (htb (.fieldLink R_Md 21 "WaterMenModel" "rows" "[I") tw_9) (fun _ h9 => h9) rfl d_Md_level_50 ?_
              refine lv_bipush (v := 12) hx hb d_Md_level_53 (by decide +kernel) ?_
              refine lv_iload_n hx hb d_Md_level_55 rfl (lv_at hl 2 rfl) ?_
              refine lv_imul hx hb d_Md_level_56 ?_
              refine lv_iload hx hb d_Md_level_57 (lv_at hl 0 rfl) ?_
              refine lv_iadd hx hb d_Md_level_59 ?_
              refine lv_aload_n hx hb d_Md_level_60 rfl (lv_at hl 1 rfl) ?_
              refine va_get (D := (dC, dI)) (ci := 7) (v := .ref (a 2)) (C := R_Md) (T := F_Md) (N := 64) hx hb htb i_Md hown hK hP 0 rfl rfl 5 (by decide) (htb (.fieldLink R_Md 25 "WaterMenModel" "table" "[I") tw_6) (fun _ h9 => h9) rfl d_Md_level_61 ?_
              refine lv_iload hx hb d_Md_level_64 (lv_at hl 0 rfl) ?_
              refine lv_iload_n hx hb d_Md_level_66 rfl (lv_at hl 2 rfl) ?_
              refine lv_iadd hx hb d_Md_level_67 ?_
              refine lv_bipush (v := 12) hx hb d_Md_level_68 (by decide +kernel) ?_
              refine lv_irem hx hb d_Md_level_70 (by decide) ?_
              refine va_iald hx hb hK hP 1 0 rfl rfl (hb_rem12 (by decide +kernel) (by decide +kernel) c_1 (show ¬ (1000 < p_0) from by have e0 := c_1; rw [Int32.lt_iff_toInt_lt] at e0; have e1 := c_2; rw [Int32.lt_iff_toInt_lt] at e1; have z0 : (0 : Int32).toInt = 0 := (by decide +kernel); have z1 : (499 : Int32).toInt = 499 := (by decide +kernel); have z2 : (1000 : Int32).toInt = 1000 := (by decide +kernel); rw [Int32.lt_iff_toInt_lt]; omega)) d_Md_level_71 ?_
              refine hb_ti 0 rfl ?_
              refine va_iast hx hb hK hP hD hS 3 2 rfl rfl (hb_i6000 c_1 c_2 (by decide +kernel) (by decide +kernel)) d_Md_level_72 (fun H locs hP hD hS => ?_)
              rw [hb_upd0 0 (((12 * p_0) + 11) : Int32).toNatClampNeg (0) (by decide +kernel)] at hP hD
              have hP : va_P (dC, dI) vwCl [((a 0), .inr (7, [.int 0, .int 0, .int 0, .ref (a 1), .int (-1), .ref (a 2), .ref (a 3), .ref (a 4), .ref (a 5), .ref (a 6), .ref (a 7), .ref (a 8), .ref (a 9), .ref (a 10), .ref (a 11), .ref (a 12), .ref (a 13), .ref (a 14), .ref (a 15), .ref (a 16), .ref (a 17), .int 0, .ref (a 18), .ref (a 19), .ref (a 20), .ref (a 21), .ref (a 22), .ref (a 23), .int 0, .int 0, .ref (a 24), .ref (a 25), .ref (a 26), .ref (a 27), .ref (a 28), .ref (a 29), .ref (a 30), .ref (a 31), .ref (a 32), .ref (a 33), .ref (a 34), .ref (a 35), .int 0, .int 0, .int 0, .int 0, .int 0, .int 0, .ref (a 36), .ref (a 37), .ref (a 38), .ref (a 39), .ref (a 40), .ref (a 41), .ref (a 42), .ref (a 43), .long 0, .long 0, .long 0, .ref (a 44), .int 0, .ref (a 45), .ref (a 46), .ref (a 47)])), ((a 2), .inl ((k 2), 12, .inl (fun _ => 0))), ((a 3), .inl ((k 3), 500, .inl (fun _ => 0))), ((a 4), .inl ((k 4), 6000, .inl (fun _ => 0)))] H := hP
              have hD : va_D A [((a 0), .inr (7, [.int 0, .int 0, .int 0, .ref (a 1), .int (-1), .ref (a 2), .ref (a 3), .ref (a 4), .ref (a 5), .ref (a 6), .ref (a 7), .ref (a 8), .ref (a 9), .ref (a 10), .ref (a 11), .ref (a 12), .ref (a 13), .ref (a 14), .ref (a 15), .ref (a 16), .ref (a 17), .int 0, .ref (a 18), .ref (a 19), .ref (a 20), .ref (a 21), .ref (a 22), .ref (a 23), .int 0, .int 0, .ref (a 24), .ref (a 25), .ref (a 26), .ref (a 27), .ref (a 28), .ref (a 29), .ref (a 30), .ref (a 31), .ref (a 32), .ref (a 33), .ref (a 34), .ref (a 35), .int 0, .int 0, .int 0, .int 0, .int 0, .int 0, .ref (a 36), .ref (a 37), .ref (a 38), .ref (a 39), .ref (a 40), .ref (a 41), .ref (a 42), .ref (a 43), .long 0, .long 0, .long 0, .ref (a 44), .int 0, .ref (a 45), .ref (a 46), .ref (a 47)])), ((a 2), .inl ((k 2), 12, .inl (fun _ => 0))), ((a 3), .inl ((k 3), 500, .inl (fun _ => 0))), ((a 4), .inl ((k 4), 6000, .inl (fun _ => 0)))] := hD
              refine lv_iinc (v := 12) (lv' := [(4, .int 12), (0, .ref (a 0)), (1, .int p_0), (2, .int p_1), (3, .int p_2)]) hx hb d_Md_level_73 hl (k := 0) rfl (by decide +kernel) (by decide) rfl (fun ls hl => ?_)
              refine lv_goto (tgt := 33) hx hb d_Md_level_76 (by decide) ?_
              refine lv_iload hx hb d_Md_level_33 (lv_at hl 0 rfl) ?_
              refine lv_bipush (v := 12) hx hb d_Md_level_35 (by decide +kernel) ?_
              refine lv_icmp_ge (tgt := 79) hx hb d_Md_level_37 (by decide) (fun _ => ?_) (fun h => absurd (by decide +kernel) h)
              refine lv_aload_n hx hb d_Md_level_79 rfl (lv_at hl 1 rfl) ?_
              refine va_get (D := (dC, dI)) (ci := 7) (v := .ref (a 3)) (C := R_Md) (T := F_Md) (N := 64) hx hb htb i_Md hown hK hP 0 rfl rfl 6 (by decide) (htb (.fieldLink R_Md 17 "WaterMenModel" "hasRow" "[Z") tw_8) (fun _ h9 => h9) rfl d_Md_level_80 ?_
              refine lv_iload_n hx hb d_Md_level_83 rfl (lv_at hl 2 rfl) ?_
              refine lv_iconst (v := 1) hx hb d_Md_level_84 (by decide +kernel) ?_
              refine va_zast hx hb hK hP hD hS 2 1 rfl rfl (hb_inl c_1 c_2 (by decide +kernel)) d_Md_level_85 (fun H locs hP hD hS => ?_)
              have hP : va_P (dC, dI) vwCl [((a 0), .inr (7, [.int 0, .int 0, .int 0, .ref (a 1), .int (-1), .ref (a 2), .ref (a 3), .ref (a 4), .ref (a 5), .ref (a 6), .ref (a 7), .ref (a 8), .ref (a 9), .ref (a 10), .ref (a 11), .ref (a 12), .ref (a 13), .ref (a 14), .ref (a 15), .ref (a 16), .ref (a 17), .int 0, .ref (a 18), .ref (a 19), .ref (a 20), .ref (a 21), .ref (a 22), .ref (a 23), .int 0, .int 0, .ref (a 24), .ref (a 25), .ref (a 26), .ref (a 27), .ref (a 28), .ref (a 29), .ref (a 30), .ref (a 31), .ref (a 32), .ref (a 33), .ref (a 34), .ref (a 35), .int 0, .int 0, .int 0, .int 0, .int 0, .int 0, .ref (a 36), .ref (a 37), .ref (a 38), .ref (a 39), .ref (a 40), .ref (a 41), .ref (a 42), .ref (a 43), .long 0, .long 0, .long 0, .ref (a 44), .int 0, .ref (a 45), .ref (a 46), .ref (a 47)])), ((a 2), .inl ((k 2), 12, .inl (fun _ => 0))), ((a 3), .inl ((k 3), 500, .inl (upd (fun _ => 0) (p_0 : Int32).toNatClampNeg (vp_nar .boolean 1)))), ((a 4), .inl ((k 4), 6000, .inl (fun _ => 0)))] H := hP
              have hD : va_D A [((a 0), .inr (7, [.int 0, .int 0, .int 0, .ref (a 1), .int (-1), .ref (a 2), .ref (a 3), .ref (a 4), .ref (a 5), .ref (a 6), .ref (a 7), .ref (a 8), .ref (a 9), .ref (a 10), .ref (a 11), .ref (a 12), .ref (a 13), .ref (a 14), .ref (a 15), .ref (a 16), .ref (a 17), .int 0, .ref (a 18), .ref (a 19), .ref (a 20), .ref (a 21), .ref (a 22), .ref (a 23), .int 0, .int 0, .ref (a 24), .ref (a 25), .ref (a 26), .ref (a 27), .ref (a 28), .ref (a 29), .ref (a 30), .ref (a 31), .ref (a 32), .ref (a 33), .ref (a 34), .ref (a 35), .int 0, .int 0, .int 0, .int 0, .int 0, .int 0, .ref (a 36), .ref (a 37), .ref (a 38), .ref (a 39), .ref (a 40), .ref (a 41), .ref (a 42), .ref (a 43), .long 0, .long 0, .long 0, .ref (a 44), .int 0, .ref (a 45), .ref (a 46), .ref (a 47)])), ((a 2), .inl ((k 2), 12, .inl (fun _ => 0))), ((a 3), .inl ((k 3), 500, .inl (upd (fun _ => 0) (p_0 : Int32).toNatClampNeg (vp_nar .boolean 1)))), ((a 4), .inl ((k 4), 6000, .inl (fun _ => 0)))] := hD
              refine lv_aload_n hx hb d_Md_level_86 rfl (lv_at hl 1 rfl) ?_
              refine va_get (D := (dC, dI)) (ci := 7) (v := .ref (a 4)) (C := R_Md) (T := F_Md) (N := 64) hx hb htb i_Md hown hK hP 0 rfl rfl 7 (by decide) (htb (.fieldLink R_Md 21 "WaterMenModel" "rows" "[I") tw_9) (fun _ h9 => h9) rfl d_Md_level_87 ?_
              refine lv_bipush (v := 12) hx hb d_Md_level_90 (by decide +kernel) ?_
              refine lv_iload_n hx hb d_Md_level_92 rfl (lv_at hl 2 rfl) ?_
              refine lv_imul hx hb d_Md_level_93 ?_
              refine lv_iload_n hx hb d_Md_level_94 rfl (lv_at hl 3 rfl) ?_
              refine lv_iadd hx hb d_Md_level_95 ?_
              refine lv_iload_n hx hb d_Md_level_96 rfl (lv_at hl 4 rfl) ?_
              refine va_iast hx hb hK hP hD hS 3 2 rfl rfl (hb_i6000 c_1 c_2 c_3 c_4) d_Md_level_97 (fun H locs hP hD hS => ?_)
              have hP : va_P (dC, dI) vwCl [((a 0), .inr (7, [.int 0, .int 0, .int 0, .ref (a 1), .int (-1), .ref (a 2), .ref (a 3), .ref (a 4), .ref (a 5), .ref (a 6), .ref (a 7), .ref (a 8), .ref (a 9), .ref (a 10), .ref (a 11), .ref (a 12), .ref (a 13), .ref (a 14), .ref (a 15), .ref (a 16), .ref (a 17), .int 0, .ref (a 18), .ref (a 19), .ref (a 20), .ref (a 21), .ref (a 22), .ref (a 23), .int 0, .int 0, .ref (a 24), .ref (a 25), .ref (a 26), .ref (a 27), .ref (a 28), .ref (a 29), .ref (a 30), .ref (a 31), .ref (a 32), .ref (a 33), .ref (a 34), .ref (a 35), .int 0, .int 0, .int 0, .int 0, .int 0, .int 0, .ref (a 36), .ref (a 37), .ref (a 38), .ref (a 39), .ref (a 40), .ref (a 41), .ref (a 42), .ref (a 43), .long 0, .long 0, .long 0, .ref (a 44), .int 0, .ref (a 45), .ref (a 46), .ref (a 47)])), ((a 2), .inl ((k 2), 12, .inl (fun _ => 0))), ((a 3), .inl ((k 3), 500, .inl (upd (fun _ => 0) (p_0 : Int32).toNatClampNeg (vp_nar .boolean 1)))), ((a 4), .inl ((k 4), 6000, .inl (upd (fun _ => 0) (((12 * p_0) + p_1) : Int32).toNatClampNeg p_2)))] H := hP
              have hD : va_D A [((a 0), .inr (7, [.int 0, .int 0, .int 0, .ref (a 1), .int (-1), .ref (a 2), .ref (a 3), .ref (a 4), .ref (a 5), .ref (a 6), .ref (a 7), .ref (a 8), .ref (a 9), .ref (a 10), .ref (a 11), .ref (a 12), .ref (a 13), .ref (a 14), .ref (a 15), .ref (a 16), .ref (a 17), .int 0, .ref (a 18), .ref (a 19), .ref (a 20), .ref (a 21), .ref (a 22), .ref (a 23), .int 0, .int 0, .ref (a 24), .ref (a 25), .ref (a 26), .ref (a 27), .ref (a 28), .ref (a 29), .ref (a 30), .ref (a 31), .ref (a 32), .ref (a 33), .ref (a 34), .ref (a 35), .int 0, .int 0, .int 0, .int 0, .int 0, .int 0, .ref (a 36), .ref (a 37), .ref (a 38), .ref (a 39), .ref (a 40), .ref (a 41), .ref (a 42), .ref (a 43), .long 0, .long 0, .long 0, .ref (a 44), .int 0, .ref (a 45), .ref (a 46), .ref (a 47)])), ((a 2), .inl ((k 2), 12, .inl (fun _ => 0))), ((a 3), .inl ((k 3), 500, .inl (upd (fun _ => 0) (p_0 : Int32).toNatClampNeg (vp_nar .boolean 1)))), ((a 4), .inl ((k 4), 6000, .inl (upd (fun _ => 0) (((12 * p_0) + p_1) : Int32).toNatClampNeg p_2)))] := hD
              refine lv_iconst (v := 1) hx hb d_Md_level_98 (by decide +kernel) ?_
              refine W.widen (k := 0) (n := 0) (Nat.le_of_ble_eq_true rfl) (Nat.le_of_ble_eq_true rfl) ?_
              exact W.iret (v := 1) hx hb hr (fun t ht hW => ⟨⟨1, (), rfl, (by unfold f_Md_level; rw [if_neg c_1, if_neg c_2, if_neg c_3, if_neg c_4, if_neg c_5, if_neg c_6]), trivial⟩, by rw [hAe]; exact hS.F ht⟩) (by rw [hAe]; exact hS.2.2) d_Md_level_99
def f_Md_table (p_0 : Int32) (p_1 : Int32) : Int32 := if p_0 < 0 then ((-1000)) else (if 11 < p_0 then ((-1000)) else (if p_1 < (-90) then ((-1000)) else (if 90 < p_1 then ((-1000)) else (0))))
set_option maxHeartbeats 4000000 in
set_option maxRecDepth 100000 in
theorem c_Md_table (l : Launch) (dC : Nat → ClassId) (dI : Nat → Nat → Nat) (a : Nat → Nat) (k : Nat → ClassId) (sz : Nat) (p_0 : Int32) (p_1 : Int32)  : Met l y_Md_table (.code y_Md_table b_Md_table 4 (some .int) :: TB) ({ frames := 1, cells := 0, slots := 0, locals := 22 }) (va_Pc [.ref (a 0), .int p_0, .int p_1] (PC dC dI (MW a k) (MT k) sz)) (va_Qi (fun r (_ : Unit) => r = f_Md_table p_0 p_1) (fun (_ : Unit) (_ : State) => True) (va_A (MW a k) sz)) 0 0 (va_A (MW a k) sz) := by
  refine Met.ofW (cc := b_Md_table) (maxL := 4) (ret := (some .int)) (by decide) rfl ?_
  intro p e s m args below meth c s₁ B hml hv
  obtain ⟨rfl, hsz, hP, hK, hD0, hN⟩ := hv
  have hx := B.exec
  have hb := B.bytes
  have hr := B.returns
  have hts := atoms_spec (ws := (.code y_Md_table b_Md_table 4 (some .int) :: TB)) B.pre
  have htb := fun w (h : w ∈ TB) => hts w (List.mem_cons_of_mem _ h)
  have hown : s.vm.findClass R_Md = some m.cls := findClass_of_methodNamed B.named
  have hlocks := B.notSynchronized
  have hl := lv_entry ([.ref (a 0), .int p_0, .int p_1]) (n := 4) (Nat.le_of_ble_eq_true rfl)
  rw [lg_entry_eq]
  generalize (lg_sl ([.ref (a 0), .int p_0, .int p_1]) ++ List.replicate (4 - (lg_sl ([.ref (a 0), .int p_0, .int p_1])).length) Slot.unset).toArray = ls at hl ⊢
  have hl : lv_has ls 4 [(0, .ref (a 0)), (1, .int p_0), (2, .int p_1)] := hl
  subst hsz
  have hD := hD0.self (sz := s.heap.size)
  obtain ⟨A, hAe⟩ : ∃ A, va_A (MW a k) s.heap.size = A := ⟨_, rfl⟩
  rw [hAe] at hD
  have hA : ∀ q : Nat, s.heap.size ≤ q → A q := fun q h => by rw [← hAe]; exact Or.inr h
  have hS : va_S A s.heap s.heap [] := va_S.rf
  have hP := hP
  refine lv_iload_n hx hb d_Md_table_0 rfl (lv_at hl 1 rfl) ?_
  refine lv_iconst (v := 0) hx hb d_Md_table_1 (by decide +kernel) ?_
  refine lv_bipush (v := 11) hx hb d_Md_table_2 (by decide +kernel) ?_
  refine vp_callSi (va_Run.run (va_runS (As := [.int p_0, .int 0, .int 11]) (rest := []) ⟨hx, hb, hml, hown, htb⟩ (c_Md_in l p_0 0 11) (cwS 3 htb (gd_S tw_297 tw_298 tw_296 tw_295) rfl rfl rfl (by decide +kernel) ⟨Nat.le_of_ble_eq_true rfl, Nat.le_of_ble_eq_true rfl⟩) ⟨fun _ _ _ _ h => h, fun U _ _ => ⟨rfl, trivial⟩⟩ rfl rfl hl.1 rfl (lv_room (Nat.le_of_ble_eq_true rfl)) d_Md_table_4 ⟨Nat.le_of_ble_eq_true rfl, Nat.le_of_ble_eq_true rfl⟩)) (fun r er => ?_)
  subst er
  by_cases c_1 : p_0 < 0
  · refine hb_ti 0 (by unfold f_Md_in; rw [if_pos c_1]) ?_
    refine lv_if_eq (tgt := 21) hx hb d_Md_table_7 (by decide) (fun _ => ?_) (fun h => absurd (by decide +kernel) h)
    refine lv_sipush (v := (-1000)) hx hb d_Md_table_21 (by decide +kernel) ?_
    refine W.widen (k := 0) (n := 0) (Nat.le_of_ble_eq_true rfl) (Nat.le_of_ble_eq_true rfl) ?_
    exact W.iret (v := (-1000)) hx hb hr (fun t ht hW => ⟨⟨(-1000), (), rfl, (by unfold f_Md_table; rw [if_pos c_1]), trivial⟩, by rw [hAe]; exact hS.F ht⟩) (by rw [hAe]; exact hS.2.2) d_Md_table_24
  · by_cases c_2 : 11 < p_0
    · refine hb_ti 0 (by unfold f_Md_in; rw [if_neg c_1, if_pos c_2]) ?_
      refine lv_if_eq (tgt := 21) hx hb d_Md_table_7 (by decide) (fun _ => ?_) (fun h => absurd (by decide +kernel) h)
      refine lv_sipush (v := (-1000)) hx hb d_Md_table_21 (by decide +kernel) ?_
      refine W.widen (k := 0) (n := 0) (Nat.le_of_ble_eq_true rfl) (Nat.le_of_ble_eq_true rfl) ?_
      exact W.iret (v := (-1000)) hx hb hr (fun t ht hW => ⟨⟨(-1000), (), rfl, (by unfold f_Md_table; rw [if_neg c_1, if_pos c_2]), trivial⟩, by rw [hAe]; exact hS.F ht⟩) (by rw [hAe]; exact hS.2.2) d_Md_table_24
    · refine hb_ti 1 (by unfold f_Md_in; rw [if_neg c_1, if_neg c_2]) ?_
      refine lv_if_eq (tgt := 21) hx hb d_Md_table_7 (by decide) (fun h => absurd h (by decide +kernel)) (fun _ => ?_)
      refine lv_iload_n hx hb d_Md_table_10 rfl (lv_at hl 2 rfl) ?_
      refine lv_bipush (v := (-90)) hx hb d_Md_table_11 (by decide +kernel) ?_
      refine lv_bipush (v := 90) hx hb d_Md_table_13 (by decide +kernel) ?_
      refine vp_callSi (va_Run.run (va_runS (As := [.int p_1, .int (-90), .int 90]) (rest := []) ⟨hx, hb, hml, hown, htb⟩ (c_Md_in l p_1 (-90) 90) (cwS 3 htb (gd_S tw_297 tw_298 tw_296 tw_295) rfl rfl rfl (by decide +kernel) ⟨Nat.le_of_ble_eq_true rfl, Nat.le_of_ble_eq_true rfl⟩) ⟨fun _ _ _ _ h => h, fun U _ _ => ⟨rfl, trivial⟩⟩ rfl rfl hl.1 rfl (lv_room (Nat.le_of_ble_eq_true rfl)) d_Md_table_15 ⟨Nat.le_of_ble_eq_true rfl, Nat.le_of_ble_eq_true rfl⟩)) (fun r er => ?_)
      subst er
      by_cases c_3 : p_1 < (-90)
      · refine hb_ti 0 (by unfold f_Md_in; rw [if_pos c_3]) ?_
        refine lv_if_ne (tgt := 25) hx hb d_Md_table_18 (by decide) (fun h => absurd (by decide +kernel) h) (fun _ => ?_)
        refine lv_sipush (v := (-1000)) hx hb d_Md_table_21 (by decide +kernel) ?_
        refine W.widen (k := 0) (n := 0) (Nat.le_of_ble_eq_true rfl) (Nat.le_of_ble_eq_true rfl) ?_
        exact W.iret (v := (-1000)) hx hb hr (fun t ht hW => ⟨⟨(-1000), (), rfl, (by unfold f_Md_table; rw [if_neg c_1, if_neg c_2, if_pos c_3]), trivial⟩, by rw [hAe]; exact hS.F ht⟩) (by rw [hAe]; exact hS.2.2) d_Md_table_24
      · by_cases c_4 : 90 < p_1
        · refine hb_ti 0 (by unfold f_Md_in; rw [if_neg c_3, if_pos c_4]) ?_
          refine lv_if_ne (tgt := 25) hx hb d_Md_table_18 (by decide) (fun h => absurd (by decide +kernel) h) (fun _ => ?_)
          refine lv_sipush (v := (-1000)) hx hb d_Md_table_21 (by decide +kernel) ?_
          refine W.widen (k := 0) (n := 0) (Nat.le_of_ble_eq_true rfl) (Nat.le_of_ble_eq_true rfl) ?_
          exact W.iret (v := (-1000)) hx hb hr (fun t ht hW => ⟨⟨(-1000), (), rfl, (by unfold f_Md_table; rw [if_neg c_1, if_neg c_2, if_neg c_3, if_pos c_4]), trivial⟩, by rw [hAe]; exact hS.F ht⟩) (by rw [hAe]; exact hS.2.2) d_Md_table_24
        · refine hb_ti 1 (by unfold f_Md_in; rw [if_neg c_3, if_neg c_4]) ?_
          refine lv_if_ne (tgt := 25) hx hb d_Md_table_18 (by decide) (fun _ => ?_) (fun h => absurd h (by decide +kernel))
          refine lv_aload_n hx hb d_Md_table_25 rfl (lv_at hl 0 rfl) ?_
          refine va_get (D := (dC, dI)) (ci := 7) (v := .ref (a 2)) (C := R_Md) (T := F_Md) (N := 64) hx hb htb i_Md hown hK hP 0 rfl rfl 5 (by decide) (htb (.fieldLink R_Md 25 "WaterMenModel" "table" "[I") tw_6) (fun _ h9 => h9) rfl d_Md_table_26 ?_
          refine lv_iload_n hx hb d_Md_table_29 rfl (lv_at hl 1 rfl) ?_
          refine va_iald hx hb hK hP 2 1 rfl rfl (hb_inl c_1 c_2 (by decide +kernel)) d_Md_table_30 ?_
          refine hb_ti 0 rfl ?_
          refine lv_istore_n (lv' := [(3, .int 0), (0, .ref (a 0)), (1, .int p_0), (2, .int p_1)]) hx hb d_Md_table_31 rfl hl (by decide) rfl (fun ls hl => ?_)
          refine lv_aload_n hx hb d_Md_table_32 rfl (lv_at hl 1 rfl) ?_
          refine va_get (D := (dC, dI)) (ci := 7) (v := .ref (a 2)) (C := R_Md) (T := F_Md) (N := 64) hx hb htb i_Md hown hK hP 0 rfl rfl 5 (by decide) (htb (.fieldLink R_Md 25 "WaterMenModel" "table" "[I") tw_6) (fun _ h9 => h9) rfl d_Md_table_33 ?_
          refine lv_iload_n hx hb d_Md_table_36 rfl (lv_at hl 2 rfl) ?_
          refine lv_iload_n hx hb d_Md_table_37 rfl (lv_at hl 3 rfl) ?_
          refine va_iast hx hb hK hP hD hS 2 1 rfl rfl (hb_inl c_1 c_2 (by decide +kernel)) d_Md_table_38 (fun H locs hP hD hS => ?_)
          refine lv_iload_n hx hb d_Md_table_39 rfl (lv_at hl 0 rfl) ?_
          refine W.widen (k := 0) (n := 0) (Nat.le_of_ble_eq_true rfl) (Nat.le_of_ble_eq_true rfl) ?_
          exact W.iret (v := 0) hx hb hr (fun t ht hW => ⟨⟨0, (), rfl, (by unfold f_Md_table; rw [if_neg c_1, if_neg c_2, if_neg c_3, if_neg c_4]), trivial⟩, by rw [hAe]; exact hS.F ht⟩) (by rw [hAe]; exact hS.2.2) d_Md_table_40
def f_Md_levelOf (p_0 : Int32) (p_1 : Int32) : Int32 := if 500 ≤ p_0 then (0) else (0)
set_option maxHeartbeats 4000000 in
set_option maxRecDepth 100000 in
theorem c_Md_levelOf (l : Launch) (dC : Nat → ClassId) (dI : Nat → Nat → Nat) (a : Nat → Nat) (k : Nat → ClassId)  (p_0 : Int32) (p_1 : Int32) (as_0 : ¬ (p_0 < 0)) (as_1 : ¬ (500 < p_0)) (as_2 : ¬ (p_1 < 0)) (as_3 : ¬ (12 ≤ p_1)) : Met l y_Md_levelOf (.code y_Md_levelOf b_Md_levelOf 3 (some .int) :: TB) ({ frames := 0, cells := 0, slots := 0, locals := 0 }) (va_Pc [.ref (a 0), .int p_0, .int p_1] (PR dC dI (MW a k) (MT k))) (vp_Si (fun r => r = f_Md_levelOf p_0 p_1)) 0 0 (fun _ => False) := by
  refine Met.ofW (cc := b_Md_levelOf) (maxL := 3) (ret := (some .int)) (by decide) rfl ?_
  intro p e s m args below meth c s₁ B hml hv
  obtain ⟨rfl, hP, hK, hN⟩ := hv
  have hx := B.exec
  have hb := B.bytes
  have hr := B.returns
  have hts := atoms_spec (ws := (.code y_Md_levelOf b_Md_levelOf 3 (some .int) :: TB)) B.pre
  have htb := fun w (h : w ∈ TB) => hts w (List.mem_cons_of_mem _ h)
  have hown : s.vm.findClass R_Md = some m.cls := findClass_of_methodNamed B.named
  have hlocks := B.notSynchronized
  have hl := lv_entry ([.ref (a 0), .int p_0, .int p_1]) (n := 3) (Nat.le_of_ble_eq_true rfl)
  rw [lg_entry_eq]
  generalize (lg_sl ([.ref (a 0), .int p_0, .int p_1]) ++ List.replicate (3 - (lg_sl ([.ref (a 0), .int p_0, .int p_1])).length) Slot.unset).toArray = ls at hl ⊢
  have hl : lv_has ls 3 [(0, .ref (a 0)), (1, .int p_0), (2, .int p_1)] := hl
  refine lv_iload_n hx hb d_Md_levelOf_0 rfl (lv_at hl 1 rfl) ?_
  refine lv_sipush (v := 500) hx hb d_Md_levelOf_1 (by decide +kernel) ?_
  refine lv_icmp_ge (tgt := 30) hx hb d_Md_levelOf_4 (by decide) (fun c_1 => ?_) (fun c_1 => ?_)
  · refine lv_aload_n hx hb d_Md_levelOf_30 rfl (lv_at hl 0 rfl) ?_
    refine va_get (D := (dC, dI)) (ci := 7) (v := .ref (a 2)) (C := R_Md) (T := F_Md) (N := 64) hx hb htb i_Md hown hK hP 0 rfl rfl 5 (by decide) (htb (.fieldLink R_Md 25 "WaterMenModel" "table" "[I") tw_6) (fun _ h9 => h9) rfl d_Md_levelOf_31 ?_
    refine lv_iload_n hx hb d_Md_levelOf_34 rfl (lv_at hl 2 rfl) ?_
    refine lv_iload_n hx hb d_Md_levelOf_35 rfl (lv_at hl 1 rfl) ?_
    refine lv_iadd hx hb d_Md_levelOf_36 ?_
    refine lv_bipush (v := 12) hx hb d_Md_levelOf_37 (by decide +kernel) ?_
    refine lv_irem hx hb d_Md_levelOf_39 (by decide) ?_
    refine va_iald hx hb hK hP 2 1 rfl rfl (hb_rem12 as_2 (show ¬ (1000 < p_1) from by have e0 := as_2; rw [Int32.lt_iff_toInt_lt] at e0; have e1 := as_3; rw [Int32.le_iff_toInt_le] at e1; have z0 : (0 : Int32).toInt = 0 := (by decide +kernel); have z1 : (12 : Int32).toInt = 12 := (by decide +kernel); have z2 : (1000 : Int32).toInt = 1000 := (by decide +kernel); rw [Int32.lt_iff_toInt_lt]; omega) as_0 (show ¬ (1000 < p_0) from by have e0 := c_1; rw [Int32.le_iff_toInt_le] at e0; have e1 := as_1; rw [Int32.lt_iff_toInt_lt] at e1; have z0 : (500 : Int32).toInt = 500 := (by decide +kernel); have z1 : (1000 : Int32).toInt = 1000 := (by decide +kernel); rw [Int32.lt_iff_toInt_lt]; omega)) d_Md_levelOf_40 ?_
    refine hb_ti 0 rfl ?_
    exact W.iret (v := 0) hx hb hr (fun t ht hW => ⟨0, rfl, (by unfold f_Md_levelOf; rw [if_pos c_1]), ht⟩) t_nil d_Md_levelOf_41
  · refine lv_aload_n hx hb d_Md_levelOf_7 rfl (lv_at hl 0 rfl) ?_
    refine va_get (D := (dC, dI)) (ci := 7) (v := .ref (a 3)) (C := R_Md) (T := F_Md) (N := 64) hx hb htb i_Md hown hK hP 0 rfl rfl 6 (by decide) (htb (.fieldLink R_Md 17 "WaterMenModel" "hasRow" "[Z") tw_8) (fun _ h9 => h9) rfl d_Md_levelOf_8 ?_
    refine lv_iload_n hx hb d_Md_levelOf_11 rfl (lv_at hl 1 rfl) ?_
    refine va_zald hx hb hK hP 3 2 rfl rfl (hb_in as_0 c_1 (by decide +kernel)) d_Md_levelOf_12 ?_
    refine hb_ti 0 rfl ?_
    refine lv_if_eq (tgt := 30) hx hb d_Md_levelOf_13 (by decide) (fun _ => ?_) (fun h => absurd (by decide +kernel) h)
    refine lv_aload_n hx hb d_Md_levelOf_30 rfl (lv_at hl 0 rfl) ?_
    refine va_get (D := (dC, dI)) (ci := 7) (v := .ref (a 2)) (C := R_Md) (T := F_Md) (N := 64) hx hb htb i_Md hown hK hP 0 rfl rfl 5 (by decide) (htb (.fieldLink R_Md 25 "WaterMenModel" "table" "[I") tw_6) (fun _ h9 => h9) rfl d_Md_levelOf_31 ?_
    refine lv_iload_n hx hb d_Md_levelOf_34 rfl (lv_at hl 2 rfl) ?_
    refine lv_iload_n hx hb d_Md_levelOf_35 rfl (lv_at hl 1 rfl) ?_
    refine lv_iadd hx hb d_Md_levelOf_36 ?_
    refine lv_bipush (v := 12) hx hb d_Md_levelOf_37 (by decide +kernel) ?_
    refine lv_irem hx hb d_Md_levelOf_39 (by decide) ?_
    refine va_iald hx hb hK hP 2 1 rfl rfl (hb_rem12 as_2 (show ¬ (1000 < p_1) from by have e0 := as_2; rw [Int32.lt_iff_toInt_lt] at e0; have e1 := as_3; rw [Int32.le_iff_toInt_le] at e1; have z0 : (0 : Int32).toInt = 0 := (by decide +kernel); have z1 : (12 : Int32).toInt = 12 := (by decide +kernel); have z2 : (1000 : Int32).toInt = 1000 := (by decide +kernel); rw [Int32.lt_iff_toInt_lt]; omega) as_0 (show ¬ (1000 < p_0) from by have e0 := as_0; rw [Int32.lt_iff_toInt_lt] at e0; have e1 := c_1; rw [Int32.le_iff_toInt_le] at e1; have z0 : (0 : Int32).toInt = 0 := (by decide +kernel); have z1 : (500 : Int32).toInt = 500 := (by decide +kernel); have z2 : (1000 : Int32).toInt = 1000 := (by decide +kernel); rw [Int32.lt_iff_toInt_lt]; omega)) d_Md_levelOf_40 ?_
    refine hb_ti 0 rfl ?_
    exact W.iret (v := 0) hx hb hr (fun t ht hW => ⟨0, rfl, (by unfold f_Md_levelOf; rw [if_neg c_1]), ht⟩) t_nil d_Md_levelOf_41
def f_Md_flowOf (p_0 : Int32) (p_1 : Int32) : Int32 := if p_1 = 11 then (if 500 ≤ (p_0 + 1) then (0) else (0)) else (0)
set_option maxHeartbeats 4000000 in
set_option maxRecDepth 100000 in
theorem c_Md_flowOf (l : Launch) (dC : Nat → ClassId) (dI : Nat → Nat → Nat) (a : Nat → Nat) (k : Nat → ClassId)  (p_0 : Int32) (p_1 : Int32) (as_0 : ¬ (p_0 < 0)) (as_1 : ¬ (500 ≤ p_0)) (as_2 : ¬ (p_1 < 0)) (as_3 : ¬ (12 ≤ p_1)) : Met l y_Md_flowOf (.code y_Md_flowOf b_Md_flowOf 3 (some .int) :: TB) ({ frames := 1, cells := 0, slots := 0, locals := 22 }) (va_Pc [.ref (a 0), .int p_0, .int p_1] (PR dC dI (MW a k) (MT k))) (vp_Si (fun r => r = f_Md_flowOf p_0 p_1)) 0 0 (fun _ => False) := by
  refine Met.ofW (cc := b_Md_flowOf) (maxL := 3) (ret := (some .int)) (by decide) rfl ?_
  intro p e s m args below meth c s₁ B hml hv
  obtain ⟨rfl, hP, hK, hN⟩ := hv
  have hx := B.exec
  have hb := B.bytes
  have hr := B.returns
  have hts := atoms_spec (ws := (.code y_Md_flowOf b_Md_flowOf 3 (some .int) :: TB)) B.pre
  have htb := fun w (h : w ∈ TB) => hts w (List.mem_cons_of_mem _ h)
  have hown : s.vm.findClass R_Md = some m.cls := findClass_of_methodNamed B.named
  have hlocks := B.notSynchronized
  have hl := lv_entry ([.ref (a 0), .int p_0, .int p_1]) (n := 3) (Nat.le_of_ble_eq_true rfl)
  rw [lg_entry_eq]
  generalize (lg_sl ([.ref (a 0), .int p_0, .int p_1]) ++ List.replicate (3 - (lg_sl ([.ref (a 0), .int p_0, .int p_1])).length) Slot.unset).toArray = ls at hl ⊢
  have hl : lv_has ls 3 [(0, .ref (a 0)), (1, .int p_0), (2, .int p_1)] := hl
  refine lv_iload_n hx hb d_Md_flowOf_0 rfl (lv_at hl 2 rfl) ?_
  refine lv_bipush (v := 11) hx hb d_Md_flowOf_1 (by decide +kernel) ?_
  refine lv_icmp_ne (tgt := 17) hx hb d_Md_flowOf_3 (by decide) (fun c_1 => ?_) (fun c_1 => ?_)
  · refine lv_aload_n hx hb d_Md_flowOf_17 rfl (lv_at hl 0 rfl) ?_
    refine lv_iload_n hx hb d_Md_flowOf_18 rfl (lv_at hl 1 rfl) ?_
    refine lv_iload_n hx hb d_Md_flowOf_19 rfl (lv_at hl 2 rfl) ?_
    refine lv_iconst (v := 1) hx hb d_Md_flowOf_20 (by decide +kernel) ?_
    refine lv_iadd hx hb d_Md_flowOf_21 ?_
    refine vp_callSi (va_Run.run (va_runV (As := [.int p_0, .int (p_1 + 1)]) (rest := []) ⟨hx, hb, hml, hown, htb⟩ (c_Md_levelOf l dC dI a k p_0 (p_1 + 1) as_0 (show ¬ (500 < p_0) from by have e0 := as_0; rw [Int32.lt_iff_toInt_lt] at e0; have e1 := as_1; rw [Int32.le_iff_toInt_le] at e1; have z0 : (0 : Int32).toInt = 0 := (by decide +kernel); have z1 : (500 : Int32).toInt = 500 := (by decide +kernel); rw [Int32.lt_iff_toInt_lt]; omega) (show ¬ ((p_1 + 1) < 0) from by have e0 := as_2; rw [Int32.lt_iff_toInt_lt] at e0; have e1 := as_3; rw [Int32.le_iff_toInt_le] at e1; have e2 := c_1; rw [← Int32.toInt_inj] at e2; have z0 : (0 : Int32).toInt = 0 := (by decide +kernel); have z1 : (1 : Int32).toInt = 1 := (by decide +kernel); have z2 : (11 : Int32).toInt = 11 := (by decide +kernel); have z3 : (12 : Int32).toInt = 12 := (by decide +kernel); have ss := fb_addI (x := p_1) (y := 1) (by omega) (by omega); rw [Int32.lt_iff_toInt_lt]; omega) (show ¬ (12 ≤ (p_1 + 1)) from by have e0 := as_2; rw [Int32.lt_iff_toInt_lt] at e0; have e1 := as_3; rw [Int32.le_iff_toInt_le] at e1; have e2 := c_1; rw [← Int32.toInt_inj] at e2; have z0 : (0 : Int32).toInt = 0 := (by decide +kernel); have z1 : (1 : Int32).toInt = 1 := (by decide +kernel); have z2 : (11 : Int32).toInt = 11 := (by decide +kernel); have z3 : (12 : Int32).toInt = 12 := (by decide +kernel); have ss := fb_addI (x := p_1) (y := 1) (by omega) (by omega); rw [Int32.le_iff_toInt_le]; omega)) (cwV 2 htb (gd_V tw_304 tw_305 tw_306 tw_296 tw_303) rfl rfl rfl (by decide +kernel) ⟨Nat.le_of_ble_eq_true rfl, Nat.le_of_ble_eq_true rfl⟩) ⟨pr_blind, va_recv hK hP (ci := 7) (q0 := 0) rfl rfl, pr_pre hP hK hN⟩ rfl rfl hl.1 rfl (lv_room (Nat.le_of_ble_eq_true rfl)) d_Md_flowOf_22 ⟨Nat.le_of_ble_eq_true rfl, Nat.le_of_ble_eq_true rfl⟩)) (fun r er => ?_)
    subst er
    refine hb_ti 0 (by unfold f_Md_levelOf; rw [if_neg as_1]) ?_
    refine lv_aload_n hx hb d_Md_flowOf_25 rfl (lv_at hl 0 rfl) ?_
    refine lv_iload_n hx hb d_Md_flowOf_26 rfl (lv_at hl 1 rfl) ?_
    refine lv_iload_n hx hb d_Md_flowOf_27 rfl (lv_at hl 2 rfl) ?_
    refine vp_callSi (va_Run.run (va_runV (As := [.int p_0, .int p_1]) (rest := [.int 0]) ⟨hx, hb, hml, hown, htb⟩ (c_Md_levelOf l dC dI a k p_0 p_1 as_0 (show ¬ (500 < p_0) from by have e0 := as_0; rw [Int32.lt_iff_toInt_lt] at e0; have e1 := as_1; rw [Int32.le_iff_toInt_le] at e1; have z0 : (0 : Int32).toInt = 0 := (by decide +kernel); have z1 : (500 : Int32).toInt = 500 := (by decide +kernel); rw [Int32.lt_iff_toInt_lt]; omega) as_2 as_3) (cwV 2 htb (gd_V tw_304 tw_305 tw_306 tw_296 tw_303) rfl rfl rfl (by decide +kernel) ⟨Nat.le_of_ble_eq_true rfl, Nat.le_of_ble_eq_true rfl⟩) ⟨pr_blind, va_recv hK hP (ci := 7) (q0 := 0) rfl rfl, pr_pre hP hK hN⟩ rfl rfl hl.1 rfl (lv_room (Nat.le_of_ble_eq_true rfl)) d_Md_flowOf_28 ⟨Nat.le_of_ble_eq_true rfl, Nat.le_of_ble_eq_true rfl⟩)) (fun r er => ?_)
    subst er
    refine hb_ti 0 (by unfold f_Md_levelOf; rw [if_neg as_1]) ?_
    refine lv_isub hx hb d_Md_flowOf_31 ?_
    refine hb_ti 0 (by decide +kernel) ?_
    exact W.iret (v := 0) hx hb hr (fun t ht hW => ⟨0, rfl, (by unfold f_Md_flowOf; rw [if_neg c_1]), ht⟩) t_nil d_Md_flowOf_32
  · refine lv_aload_n hx hb d_Md_flowOf_6 rfl (lv_at hl 0 rfl) ?_
    refine lv_iload_n hx hb d_Md_flowOf_7 rfl (lv_at hl 1 rfl) ?_
    refine lv_iconst (v := 1) hx hb d_Md_flowOf_8 (by decide +kernel) ?_
    refine lv_iadd hx hb d_Md_flowOf_9 ?_
    refine lv_iconst (v := 0) hx hb d_Md_flowOf_10 (by decide +kernel) ?_
    refine vp_callSi (va_Run.run (va_runV (As := [.int (p_0 + 1), .int 0]) (rest := []) ⟨hx, hb, hml, hown, htb⟩ (c_Md_levelOf l dC dI a k (p_0 + 1) 0 (show ¬ ((p_0 + 1) < 0) from by have e0 := as_0; rw [Int32.lt_iff_toInt_lt] at e0; have e1 := as_1; rw [Int32.le_iff_toInt_le] at e1; have z0 : (0 : Int32).toInt = 0 := (by decide +kernel); have z1 : (1 : Int32).toInt = 1 := (by decide +kernel); have z2 : (500 : Int32).toInt = 500 := (by decide +kernel); have ss := fb_addI (x := p_0) (y := 1) (by omega) (by omega); rw [Int32.lt_iff_toInt_lt]; omega) (show ¬ (500 < (p_0 + 1)) from by have e0 := as_0; rw [Int32.lt_iff_toInt_lt] at e0; have e1 := as_1; rw [Int32.le_iff_toInt_le] at e1; have z0 : (0 : Int32).toInt = 0 := (by decide +kernel); have z1 : (1 : Int32).toInt = 1 := (by decide +kernel); have z2 : (500 : Int32).toInt = 500 := (by decide +kernel); have ss := fb_addI (x := p_0) (y := 1) (by omega) (by omega); rw [Int32.lt_iff_toInt_lt]; omega) (by decide +kernel) (by decide +kernel)) (cwV 2 htb (gd_V tw_304 tw_305 tw_306 tw_296 tw_303) rfl rfl rfl (by decide +kernel) ⟨Nat.le_of_ble_eq_true rfl, Nat.le_of_ble_eq_true rfl⟩) ⟨pr_blind, va_recv hK hP (ci := 7) (q0 := 0) rfl rfl, pr_pre hP hK hN⟩ rfl rfl hl.1 rfl (lv_room (Nat.le_of_ble_eq_true rfl)) d_Md_flowOf_11 ⟨Nat.le_of_ble_eq_true rfl, Nat.le_of_ble_eq_true rfl⟩)) (fun r er => ?_)
    subst er
    by_cases c_2 : 500 ≤ (p_0 + 1)
    · refine hb_ti 0 (by unfold f_Md_levelOf; rw [if_pos c_2]) ?_
      refine lv_goto (tgt := 25) hx hb d_Md_flowOf_14 (by decide) ?_
      refine lv_aload_n hx hb d_Md_flowOf_25 rfl (lv_at hl 0 rfl) ?_
      refine lv_iload_n hx hb d_Md_flowOf_26 rfl (lv_at hl 1 rfl) ?_
      refine lv_iload_n hx hb d_Md_flowOf_27 rfl (lv_at hl 2 rfl) ?_
      refine vp_callSi (va_Run.run (va_runV (As := [.int p_0, .int p_1]) (rest := [.int 0]) ⟨hx, hb, hml, hown, htb⟩ (c_Md_levelOf l dC dI a k p_0 p_1 as_0 (show ¬ (500 < p_0) from by have e0 := as_0; rw [Int32.lt_iff_toInt_lt] at e0; have e1 := as_1; rw [Int32.le_iff_toInt_le] at e1; have z0 : (0 : Int32).toInt = 0 := (by decide +kernel); have z1 : (500 : Int32).toInt = 500 := (by decide +kernel); rw [Int32.lt_iff_toInt_lt]; omega) as_2 as_3) (cwV 2 htb (gd_V tw_304 tw_305 tw_306 tw_296 tw_303) rfl rfl rfl (by decide +kernel) ⟨Nat.le_of_ble_eq_true rfl, Nat.le_of_ble_eq_true rfl⟩) ⟨pr_blind, va_recv hK hP (ci := 7) (q0 := 0) rfl rfl, pr_pre hP hK hN⟩ rfl rfl hl.1 rfl (lv_room (Nat.le_of_ble_eq_true rfl)) d_Md_flowOf_28 ⟨Nat.le_of_ble_eq_true rfl, Nat.le_of_ble_eq_true rfl⟩)) (fun r er => ?_)
      subst er
      refine hb_ti 0 (by unfold f_Md_levelOf; rw [if_neg as_1]) ?_
      refine lv_isub hx hb d_Md_flowOf_31 ?_
      refine hb_ti 0 (by decide +kernel) ?_
      exact W.iret (v := 0) hx hb hr (fun t ht hW => ⟨0, rfl, (by unfold f_Md_flowOf; rw [if_pos c_1, if_pos c_2]), ht⟩) t_nil d_Md_flowOf_32
    · refine hb_ti 0 (by unfold f_Md_levelOf; rw [if_neg c_2]) ?_
      refine lv_goto (tgt := 25) hx hb d_Md_flowOf_14 (by decide) ?_
      refine lv_aload_n hx hb d_Md_flowOf_25 rfl (lv_at hl 0 rfl) ?_
      refine lv_iload_n hx hb d_Md_flowOf_26 rfl (lv_at hl 1 rfl) ?_
      refine lv_iload_n hx hb d_Md_flowOf_27 rfl (lv_at hl 2 rfl) ?_
      refine vp_callSi (va_Run.run (va_runV (As := [.int p_0, .int p_1]) (rest := [.int 0]) ⟨hx, hb, hml, hown, htb⟩ (c_Md_levelOf l dC dI a k p_0 p_1 as_0 (show ¬ (500 < p_0) from by have e0 := as_0; rw [Int32.lt_iff_toInt_lt] at e0; have e1 := as_1; rw [Int32.le_iff_toInt_le] at e1; have z0 : (0 : Int32).toInt = 0 := (by decide +kernel); have z1 : (500 : Int32).toInt = 500 := (by decide +kernel); rw [Int32.lt_iff_toInt_lt]; omega) as_2 as_3) (cwV 2 htb (gd_V tw_304 tw_305 tw_306 tw_296 tw_303) rfl rfl rfl (by decide +kernel) ⟨Nat.le_of_ble_eq_true rfl, Nat.le_of_ble_eq_true rfl⟩) ⟨pr_blind, va_recv hK hP (ci := 7) (q0 := 0) rfl rfl, pr_pre hP hK hN⟩ rfl rfl hl.1 rfl (lv_room (Nat.le_of_ble_eq_true rfl)) d_Md_flowOf_28 ⟨Nat.le_of_ble_eq_true rfl, Nat.le_of_ble_eq_true rfl⟩)) (fun r er => ?_)
      subst er
      refine hb_ti 0 (by unfold f_Md_levelOf; rw [if_neg as_1]) ?_
      refine lv_isub hx hb d_Md_flowOf_31 ?_
      refine hb_ti 0 (by decide +kernel) ?_
      exact W.iret (v := 0) hx hb hr (fun t ht hW => ⟨0, rfl, (by unfold f_Md_flowOf; rw [if_pos c_1, if_neg c_2]), ht⟩) t_nil d_Md_flowOf_32
