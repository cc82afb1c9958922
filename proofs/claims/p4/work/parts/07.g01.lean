def f_Md_isMan  (p_0 : Int32) : Int32 := if p_0 < 0 then (0) else (if 39 < p_0 then (0) else (1))
set_option maxHeartbeats 4000000 in
set_option maxRecDepth 100000 in
theorem c_Md_isMan (l : Launch)  (p_0 : Int32)  : Met l y_Md_isMan (.code y_Md_isMan b_Md_isMan 1 (some .boolean) :: TB) ({ frames := 1, cells := 0, slots := 0, locals := 22 }) (va_Pc [.int p_0] (fun _ => True)) (vp_Si (fun r => r = f_Md_isMan p_0)) 0 0 (fun _ => False) := by
  refine Met.ofW (cc := b_Md_isMan) (maxL := 1) (ret := (some .boolean)) (by decide) rfl ?_
  intro p e s m args below meth c s₁ B hml hv
  obtain ⟨rfl, -⟩ := hv
  have hx := B.exec
  have hb := B.bytes
  have hr := B.returns
  have hts := atoms_spec (ws := (.code y_Md_isMan b_Md_isMan 1 (some .boolean) :: TB)) B.pre
  have htb := fun w (h : w ∈ TB) => hts w (List.mem_cons_of_mem _ h)
  have hown : s.vm.findClass R_Md = some m.cls := findClass_of_methodNamed B.named
  have hlocks := B.notSynchronized
  have hl := lv_entry ([.int p_0]) (n := 1) (Nat.le_of_ble_eq_true rfl)
  rw [lg_entry_eq]
  generalize (lg_sl ([.int p_0]) ++ List.replicate (1 - (lg_sl ([.int p_0])).length) Slot.unset).toArray = ls at hl ⊢
  have hl : lv_has ls 1 [(0, .int p_0)] := hl
  refine lv_iload_n hx hb d_Md_isMan_0 rfl (lv_at hl 0 rfl) ?_
  refine lv_iconst (v := 0) hx hb d_Md_isMan_1 (by decide +kernel) ?_
  refine lv_bipush (v := 39) hx hb d_Md_isMan_2 (by decide +kernel) ?_
  refine vp_callSi (va_Run.run (va_runS (As := [.int p_0, .int 0, .int 39]) (rest := []) ⟨hx, hb, hml, hown, htb⟩ (c_Md_in l p_0 0 39) (cwS 3 htb (gd_S tw_4 tw_5 tw_3 tw_2) rfl rfl rfl (by decide +kernel) ⟨Nat.le_of_ble_eq_true rfl, Nat.le_of_ble_eq_true rfl⟩) ⟨fun _ _ _ _ h => h, fun U _ _ => ⟨rfl, trivial⟩⟩ rfl rfl hl.1 rfl (lv_room (Nat.le_of_ble_eq_true rfl)) d_Md_isMan_4 ⟨Nat.le_of_ble_eq_true rfl, Nat.le_of_ble_eq_true rfl⟩)) (fun r er => ?_)
  subst er
  by_cases c_1 : p_0 < 0
  · refine hb_ti 0 (by unfold f_Md_in; rw [if_pos c_1]) ?_
    exact W.zret (v := 0) hx hb hr (by decide +kernel) (fun t ht hW => ⟨0, rfl, (by unfold f_Md_isMan; rw [if_pos c_1]), ht⟩) t_nil d_Md_isMan_7
  · by_cases c_2 : 39 < p_0
    · refine hb_ti 0 (by unfold f_Md_in; rw [if_neg c_1, if_pos c_2]) ?_
      exact W.zret (v := 0) hx hb hr (by decide +kernel) (fun t ht hW => ⟨0, rfl, (by unfold f_Md_isMan; rw [if_neg c_1, if_pos c_2]), ht⟩) t_nil d_Md_isMan_7
    · refine hb_ti 1 (by unfold f_Md_in; rw [if_neg c_1, if_neg c_2]) ?_
      exact W.zret (v := 1) hx hb hr (by decide +kernel) (fun t ht hW => ⟨1, rfl, (by unfold f_Md_isMan; rw [if_neg c_1, if_neg c_2]), ht⟩) t_nil d_Md_isMan_7
def T_Md_free_g (v : Nat → Int32) (w : Nat → Int64) (g : Nat → Nat → Int32) (gl : Nat → Int64) (p_0 : Int32) : Int32 × MSt := if p_0 < 0 then (((-1), (v, w, g, gl))) else (if 39 < p_0 then (((-1), (v, w, g, gl))) else (if (g 6) (p_0).toNatClampNeg = 0 then ((1, (v, w, (va_up g 6 (upd (g 6) (p_0 : Int32).toNatClampNeg 2)), gl))) else (((-2), (v, w, g, gl)))))
set_option maxHeartbeats 4000000 in
set_option maxRecDepth 100000 in
theorem c_Md_free_g (l : Launch) (dC : Nat → ClassId) (dI : Nat → Nat → Nat) (a : Nat → Nat) (k : Nat → ClassId) (v : Nat → Int32) (w : Nat → Int64) (g : Nat → Nat → Int32) (gl : Nat → Int64) (sz : Nat) (p_0 : Int32) (as_0 : ¬ ((v 1) < 0)) (as_1 : ¬ (359999 < (v 1))) (as_2 : ¬ ((v 2) < 0)) (as_3 : ¬ (12 < (v 2))) (as_4 : ¬ ((v 21) < 0)) (as_5 : ¬ (20 < (v 21))) (as_6 : ¬ ((v 28) < 0)) (as_7 : ¬ (400 < (v 28))) (as_8 : ¬ ((v 29) < 0)) (as_9 : ¬ (20 < (v 29))) (as_10 : ¬ ((v 47) < 0)) (as_11 : ¬ (600 < (v 47))) (as_12 : ¬ ((v 60) < 0)) (as_13 : ¬ (30 < (v 60))) : Met l y_Md_free (.code y_Md_free b_Md_free 2 (some .int) :: TB) ({ frames := 2, cells := 0, slots := 0, locals := 42 }) (va_Pc [.ref (a 0), .int p_0] (PC dC dI (MG a k v w g gl) (MT k) sz)) (va_Qi (fun r (u : MSt) => (r, u) = T_Md_free_g v w g gl p_0) (fun u t => va_P (dC, dI) vwCl (MG a k u.1 u.2.1 u.2.2.1 u.2.2.2) t.heap ∧ va_K (dC, dI) vwCl (MT k) t ∧ va_D (va_A (MG a k v w g gl) sz) (MG a k u.1 u.2.1 u.2.2.1 u.2.2.2)) (va_A (MG a k v w g gl) sz)) 0 0 (va_A (MG a k v w g gl) sz) := by
  refine Met.ofW (cc := b_Md_free) (maxL := 2) (ret := (some .int)) (by decide) rfl ?_
  intro p e s m args below meth c s₁ B hml hv
  obtain ⟨rfl, hsz, hP, hK, hD0, hN⟩ := hv
  have hx := B.exec
  have hb := B.bytes
  have hr := B.returns
  have hts := atoms_spec (ws := (.code y_Md_free b_Md_free 2 (some .int) :: TB)) B.pre
  have htb := fun w (h : w ∈ TB) => hts w (List.mem_cons_of_mem _ h)
  have hown : s.vm.findClass R_Md = some m.cls := findClass_of_methodNamed B.named
  have hlocks := B.notSynchronized
  have hl := lv_entry ([.ref (a 0), .int p_0]) (n := 2) (Nat.le_of_ble_eq_true rfl)
  rw [lg_entry_eq]
  generalize (lg_sl ([.ref (a 0), .int p_0]) ++ List.replicate (2 - (lg_sl ([.ref (a 0), .int p_0])).length) Slot.unset).toArray = ls at hl ⊢
  have hl : lv_has ls 2 [(0, .ref (a 0)), (1, .int p_0)] := hl
  subst hsz
  have hD := hD0.self (sz := s.heap.size)
  obtain ⟨A, hAe⟩ : ∃ A, va_A (MG a k v w g gl) s.heap.size = A := ⟨_, rfl⟩
  rw [hAe] at hD
  have hA : ∀ q : Nat, s.heap.size ≤ q → A q := fun q h => by rw [← hAe]; exact Or.inr h
  have hS : va_S A s.heap s.heap [] := va_S.rf
  refine lv_iload_n hx hb d_Md_free_0 rfl (lv_at hl 1 rfl) ?_
  refine vp_callSi (va_Run.run (va_runS (As := [.int p_0]) (rest := []) ⟨hx, hb, hml, hown, htb⟩ (c_Md_isMan l p_0) (cwS 1 htb (gd_S tw_28 tw_29 tw_3 tw_27) rfl rfl rfl (by decide +kernel) ⟨Nat.le_of_ble_eq_true rfl, Nat.le_of_ble_eq_true rfl⟩) ⟨fun _ _ _ _ h => h, fun U _ _ => ⟨rfl, trivial⟩⟩ rfl rfl hl.1 rfl (lv_room (Nat.le_of_ble_eq_true rfl)) d_Md_free_1 ⟨Nat.le_of_ble_eq_true rfl, Nat.le_of_ble_eq_true rfl⟩)) (fun r er => ?_)
  subst er
  by_cases c_1 : p_0 < 0
  · refine hb_ti 0 (by unfold f_Md_isMan; rw [if_pos c_1]; first | done | rfl) ?_
    refine lv_if_ne (tgt := 9) hx hb d_Md_free_4 (by decide) (fun h => absurd (by decide +kernel) h) (fun _ => ?_)
    refine lv_iconst (v := (-1)) hx hb d_Md_free_7 (by decide +kernel) ?_
    exact W.iret (v := (-1)) hx hb hr (fun t ht hW => ⟨⟨(-1), (v, w, g, gl), rfl, (by unfold T_Md_free_g; rw [if_pos c_1]), by rw [ht]; exact hP, va_K.moved hW.alike hK, by rw [hAe]; exact hD⟩, by rw [hAe]; exact hS.F ht⟩) (by rw [hAe]; exact hS.2.2) d_Md_free_8
  · by_cases c_2 : 39 < p_0
    · refine hb_ti 0 (by unfold f_Md_isMan; rw [if_neg c_1, if_pos c_2]; first | done | rfl) ?_
      refine lv_if_ne (tgt := 9) hx hb d_Md_free_4 (by decide) (fun h => absurd (by decide +kernel) h) (fun _ => ?_)
      refine lv_iconst (v := (-1)) hx hb d_Md_free_7 (by decide +kernel) ?_
      exact W.iret (v := (-1)) hx hb hr (fun t ht hW => ⟨⟨(-1), (v, w, g, gl), rfl, (by unfold T_Md_free_g; rw [if_neg c_1, if_pos c_2]), by rw [ht]; exact hP, va_K.moved hW.alike hK, by rw [hAe]; exact hD⟩, by rw [hAe]; exact hS.F ht⟩) (by rw [hAe]; exact hS.2.2) d_Md_free_8
    · refine hb_ti 1 (by unfold f_Md_isMan; rw [if_neg c_1, if_neg c_2]; first | done | rfl) ?_
      refine lv_if_ne (tgt := 9) hx hb d_Md_free_4 (by decide) (fun _ => ?_) (fun h => absurd h (by decide +kernel))
      refine lv_aload_n hx hb d_Md_free_9 rfl (lv_at hl 0 rfl) ?_
      refine va_get (D := (dC, dI)) (ci := 7) (v := .ref (a 6)) (C := R_Md) (T := F_Md) (N := 64) hx hb htb i_Md hown hK hP 0 rfl rfl 9 (by decide) (htb (.fieldLink R_Md 58 "WaterMenModel" "state" "[I") tw_30) (fun _ h9 => h9) rfl d_Md_free_10 ?_
      refine lv_iload_n hx hb d_Md_free_13 rfl (lv_at hl 1 rfl) ?_
      refine va_iald hx hb hK hP 6 5 rfl rfl (hb_inl c_1 c_2 (by decide +kernel)) d_Md_free_14 ?_
      refine lv_if_eq (tgt := 21) hx hb d_Md_free_15 (by decide) (fun c_3 => ?_) (fun c_3 => ?_)
      · refine lv_aload_n hx hb d_Md_free_21 rfl (lv_at hl 0 rfl) ?_
        refine va_get (D := (dC, dI)) (ci := 7) (v := .ref (a 6)) (C := R_Md) (T := F_Md) (N := 64) hx hb htb i_Md hown hK hP 0 rfl rfl 9 (by decide) (htb (.fieldLink R_Md 58 "WaterMenModel" "state" "[I") tw_30) (fun _ h9 => h9) rfl d_Md_free_22 ?_
        refine lv_iload_n hx hb d_Md_free_25 rfl (lv_at hl 1 rfl) ?_
        refine lv_iconst (v := 2) hx hb d_Md_free_26 (by decide +kernel) ?_
        refine va_iast hx hb hK hP hD hS 6 5 rfl rfl (hb_inl c_1 c_2 (by decide +kernel)) d_Md_free_27 (fun H locs hP hD hS => ?_)
        have hP : va_P (dC, dI) vwCl (MG a k v w (va_up g 6 (upd (g 6) (p_0 : Int32).toNatClampNeg 2)) gl) H := hP
        have hD : va_D A (MG a k v w (va_up g 6 (upd (g 6) (p_0 : Int32).toNatClampNeg 2)) gl) := hD
        refine lv_iconst (v := 1) hx hb d_Md_free_28 (by decide +kernel) ?_
        exact W.iret (v := 1) hx hb hr (fun t ht hW => ⟨⟨1, (v, w, (va_up g 6 (upd (g 6) (p_0 : Int32).toNatClampNeg 2)), gl), rfl, (by unfold T_Md_free_g; rw [if_neg c_1, if_neg c_2, if_pos c_3]), by rw [ht]; exact hP, va_K.moved hW.alike hK, by rw [hAe]; exact hD⟩, by rw [hAe]; exact hS.F ht⟩) (by rw [hAe]; exact hS.2.2) d_Md_free_29
      · refine lv_bipush (v := (-2)) hx hb d_Md_free_18 (by decide +kernel) ?_
        exact W.iret (v := (-2)) hx hb hr (fun t ht hW => ⟨⟨(-2), (v, w, g, gl), rfl, (by unfold T_Md_free_g; rw [if_neg c_1, if_neg c_2, if_neg c_3]), by rw [ht]; exact hP, va_K.moved hW.alike hK, by rw [hAe]; exact hD⟩, by rw [hAe]; exact hS.F ht⟩) (by rw [hAe]; exact hS.2.2) d_Md_free_20
def T_Md_bind_g (v : Nat → Int32) (w : Nat → Int64) (g : Nat → Nat → Int32) (gl : Nat → Int64) (p_0 : Int32) (p_1 : Int32) : Int32 × MSt := if p_0 < 0 then (((-1), (v, w, g, gl))) else (if 39 < p_0 then (((-1), (v, w, g, gl))) else (if p_1 < 0 then (((-1), (v, w, g, gl))) else (if 39 < p_1 then (((-1), (v, w, g, gl))) else (if (g 6) (p_0).toNatClampNeg = 0 then (if (g 6) (p_1).toNatClampNeg = 2 then ((1, (v, w, (va_up (va_up (va_up (va_up g 6 (upd (g 6) (p_0 : Int32).toNatClampNeg 1)) 7 (upd (g 7) (p_0 : Int32).toNatClampNeg p_1)) 8 (upd (g 8) (p_0 : Int32).toNatClampNeg ((v 1) / 720))) 9 (upd (g 9) (p_0 : Int32).toNatClampNeg 0)), gl))) else (((-2), (v, w, g, gl)))) else (((-2), (v, w, g, gl)))))))
set_option maxHeartbeats 4000000 in
set_option maxRecDepth 100000 in
theorem c_Md_bind_g (l : Launch) (dC : Nat → ClassId) (dI : Nat → Nat → Nat) (a : Nat → Nat) (k : Nat → ClassId) (v : Nat → Int32) (w : Nat → Int64) (g : Nat → Nat → Int32) (gl : Nat → Int64) (sz : Nat) (p_0 : Int32) (p_1 : Int32) (as_0 : ¬ ((v 1) < 0)) (as_1 : ¬ (359999 < (v 1))) (as_2 : ¬ ((v 2) < 0)) (as_3 : ¬ (12 < (v 2))) (as_4 : ¬ ((v 21) < 0)) (as_5 : ¬ (20 < (v 21))) (as_6 : ¬ ((v 28) < 0)) (as_7 : ¬ (400 < (v 28))) (as_8 : ¬ ((v 29) < 0)) (as_9 : ¬ (20 < (v 29))) (as_10 : ¬ ((v 47) < 0)) (as_11 : ¬ (600 < (v 47))) (as_12 : ¬ ((v 60) < 0)) (as_13 : ¬ (30 < (v 60))) : Met l y_Md_bind (.code y_Md_bind b_Md_bind 3 (some .int) :: TB) ({ frames := 2, cells := 0, slots := 0, locals := 42 }) (va_Pc [.ref (a 0), .int p_0, .int p_1] (PC dC dI (MG a k v w g gl) (MT k) sz)) (va_Qi (fun r (u : MSt) => (r, u) = T_Md_bind_g v w g gl p_0 p_1) (fun u t => va_P (dC, dI) vwCl (MG a k u.1 u.2.1 u.2.2.1 u.2.2.2) t.heap ∧ va_K (dC, dI) vwCl (MT k) t ∧ va_D (va_A (MG a k v w g gl) sz) (MG a k u.1 u.2.1 u.2.2.1 u.2.2.2)) (va_A (MG a k v w g gl) sz)) 0 0 (va_A (MG a k v w g gl) sz) := by
  refine Met.ofW (cc := b_Md_bind) (maxL := 3) (ret := (some .int)) (by decide) rfl ?_
  intro p e s m args below meth c s₁ B hml hv
  obtain ⟨rfl, hsz, hP, hK, hD0, hN⟩ := hv
  have hx := B.exec
  have hb := B.bytes
  have hr := B.returns
  have hts := atoms_spec (ws := (.code y_Md_bind b_Md_bind 3 (some .int) :: TB)) B.pre
  have htb := fun w (h : w ∈ TB) => hts w (List.mem_cons_of_mem _ h)
  have hown : s.vm.findClass R_Md = some m.cls := findClass_of_methodNamed B.named
  have hlocks := B.notSynchronized
  have hl := lv_entry ([.ref (a 0), .int p_0, .int p_1]) (n := 3) (Nat.le_of_ble_eq_true rfl)
  rw [lg_entry_eq]
  generalize (lg_sl ([.ref (a 0), .int p_0, .int p_1]) ++ List.replicate (3 - (lg_sl ([.ref (a 0), .int p_0, .int p_1])).length) Slot.unset).toArray = ls at hl ⊢
  have hl : lv_has ls 3 [(0, .ref (a 0)), (1, .int p_0), (2, .int p_1)] := hl
  subst hsz
  have hD := hD0.self (sz := s.heap.size)
  obtain ⟨A, hAe⟩ : ∃ A, va_A (MG a k v w g gl) s.heap.size = A := ⟨_, rfl⟩
  rw [hAe] at hD
  have hA : ∀ q : Nat, s.heap.size ≤ q → A q := fun q h => by rw [← hAe]; exact Or.inr h
  have hS : va_S A s.heap s.heap [] := va_S.rf
  refine lv_iload_n hx hb d_Md_bind_0 rfl (lv_at hl 1 rfl) ?_
  refine vp_callSi (va_Run.run (va_runS (As := [.int p_0]) (rest := []) ⟨hx, hb, hml, hown, htb⟩ (c_Md_isMan l p_0) (cwS 1 htb (gd_S tw_28 tw_29 tw_3 tw_27) rfl rfl rfl (by decide +kernel) ⟨Nat.le_of_ble_eq_true rfl, Nat.le_of_ble_eq_true rfl⟩) ⟨fun _ _ _ _ h => h, fun U _ _ => ⟨rfl, trivial⟩⟩ rfl rfl hl.1 rfl (lv_room (Nat.le_of_ble_eq_true rfl)) d_Md_bind_1 ⟨Nat.le_of_ble_eq_true rfl, Nat.le_of_ble_eq_true rfl⟩)) (fun r er => ?_)
  subst er
  by_cases c_1 : p_0 < 0
  · refine hb_ti 0 (by unfold f_Md_isMan; rw [if_pos c_1]; first | done | rfl) ?_
    refine lv_if_eq (tgt := 14) hx hb d_Md_bind_4 (by decide) (fun _ => ?_) (fun h => absurd (by decide +kernel) h)
    refine lv_iconst (v := (-1)) hx hb d_Md_bind_14 (by decide +kernel) ?_
    exact W.iret (v := (-1)) hx hb hr (fun t ht hW => ⟨⟨(-1), (v, w, g, gl), rfl, (by unfold T_Md_bind_g; rw [if_pos c_1]), by rw [ht]; exact hP, va_K.moved hW.alike hK, by rw [hAe]; exact hD⟩, by rw [hAe]; exact hS.F ht⟩) (by rw [hAe]; exact hS.2.2) d_Md_bind_15
  · by_cases c_2 : 39 < p_0
    · refine hb_ti 0 (by unfold f_Md_isMan; rw [if_neg c_1, if_pos c_2]; first | done | rfl) ?_
      refine lv_if_eq (tgt := 14) hx hb d_Md_bind_4 (by decide) (fun _ => ?_) (fun h => absurd (by decide +kernel) h)
      refine lv_iconst (v := (-1)) hx hb d_Md_bind_14 (by decide +kernel) ?_
      exact W.iret (v := (-1)) hx hb hr (fun t ht hW => ⟨⟨(-1), (v, w, g, gl), rfl, (by unfold T_Md_bind_g; rw [if_neg c_1, if_pos c_2]), by rw [ht]; exact hP, va_K.moved hW.alike hK, by rw [hAe]; exact hD⟩, by rw [hAe]; exact hS.F ht⟩) (by rw [hAe]; exact hS.2.2) d_Md_bind_15
    · refine hb_ti 1 (by unfold f_Md_isMan; rw [if_neg c_1, if_neg c_2]; first | done | rfl) ?_
      refine lv_if_eq (tgt := 14) hx hb d_Md_bind_4 (by decide) (fun h => absurd h (by decide +kernel)) (fun _ => ?_)
      refine lv_iload_n hx hb d_Md_bind_7 rfl (lv_at hl 2 rfl) ?_
      refine vp_callSi (va_Run.run (va_runS (As := [.int p_1]) (rest := []) ⟨hx, hb, hml, hown, htb⟩ (c_Md_isMan l p_1) (cwS 1 htb (gd_S tw_28 tw_29 tw_3 tw_27) rfl rfl rfl (by decide +kernel) ⟨Nat.le_of_ble_eq_true rfl, Nat.le_of_ble_eq_true rfl⟩) ⟨fun _ _ _ _ h => h, fun U _ _ => ⟨rfl, trivial⟩⟩ rfl rfl hl.1 rfl (lv_room (Nat.le_of_ble_eq_true rfl)) d_Md_bind_8 ⟨Nat.le_of_ble_eq_true rfl, Nat.le_of_ble_eq_true rfl⟩)) (fun r er => ?_)
      subst er
      by_cases c_3 : p_1 < 0
      · refine hb_ti 0 (by unfold f_Md_isMan; rw [if_pos c_3]; first | done | rfl) ?_
        refine lv_if_ne (tgt := 16) hx hb d_Md_bind_11 (by decide) (fun h => absurd (by decide +kernel) h) (fun _ => ?_)
        refine lv_iconst (v := (-1)) hx hb d_Md_bind_14 (by decide +kernel) ?_
        exact W.iret (v := (-1)) hx hb hr (fun t ht hW => ⟨⟨(-1), (v, w, g, gl), rfl, (by unfold T_Md_bind_g; rw [if_neg c_1, if_neg c_2, if_pos c_3]), by rw [ht]; exact hP, va_K.moved hW.alike hK, by rw [hAe]; exact hD⟩, by rw [hAe]; exact hS.F ht⟩) (by rw [hAe]; exact hS.2.2) d_Md_bind_15
      · by_cases c_4 : 39 < p_1
        · refine hb_ti 0 (by unfold f_Md_isMan; rw [if_neg c_3, if_pos c_4]; first | done | rfl) ?_
          refine lv_if_ne (tgt := 16) hx hb d_Md_bind_11 (by decide) (fun h => absurd (by decide +kernel) h) (fun _ => ?_)
          refine lv_iconst (v := (-1)) hx hb d_Md_bind_14 (by decide +kernel) ?_
          exact W.iret (v := (-1)) hx hb hr (fun t ht hW => ⟨⟨(-1), (v, w, g, gl), rfl, (by unfold T_Md_bind_g; rw [if_neg c_1, if_neg c_2, if_neg c_3, if_pos c_4]), by rw [ht]; exact hP, va_K.moved hW.alike hK, by rw [hAe]; exact hD⟩, by rw [hAe]; exact hS.F ht⟩) (by rw [hAe]; exact hS.2.2) d_Md_bind_15
        · refine hb_ti 1 (by unfold f_Md_isMan; rw [if_neg c_3, if_neg c_4]; first | done | rfl) ?_
          refine lv_if_ne (tgt := 16) hx hb d_Md_bind_11 (by decide) (fun _ => ?_) (fun h => absurd h (by decide +kernel))
          refine lv_aload_n hx hb d_Md_bind_16 rfl (lv_at hl 0 rfl) ?_
          refine va_get (D := (dC, dI)) (ci := 7) (v := .ref (a 6)) (C := R_Md) (T := F_Md) (N := 64) hx hb htb i_Md hown hK hP 0 rfl rfl 9 (by decide) (htb (.fieldLink R_Md 58 "WaterMenModel" "state" "[I") tw_30) (fun _ h9 => h9) rfl d_Md_bind_17 ?_
          refine lv_iload_n hx hb d_Md_bind_20 rfl (lv_at hl 1 rfl) ?_
          refine va_iald hx hb hK hP 6 5 rfl rfl (hb_inl c_1 c_2 (by decide +kernel)) d_Md_bind_21 ?_
          refine lv_if_ne (tgt := 35) hx hb d_Md_bind_22 (by decide) (fun c_5 => ?_) (fun c_5 => ?_)
          · refine lv_bipush (v := (-2)) hx hb d_Md_bind_35 (by decide +kernel) ?_
            exact W.iret (v := (-2)) hx hb hr (fun t ht hW => ⟨⟨(-2), (v, w, g, gl), rfl, (by unfold T_Md_bind_g; rw [if_neg c_1, if_neg c_2, if_neg c_3, if_neg c_4, if_neg c_5]), by rw [ht]; exact hP, va_K.moved hW.alike hK, by rw [hAe]; exact hD⟩, by rw [hAe]; exact hS.F ht⟩) (by rw [hAe]; exact hS.2.2) d_Md_bind_37
          · refine lv_aload_n hx hb d_Md_bind_25 rfl (lv_at hl 0 rfl) ?_
            refine va_get (D := (dC, dI)) (ci := 7) (v := .ref (a 6)) (C := R_Md) (T := F_Md) (N := 64) hx hb htb i_Md hown hK hP 0 rfl rfl 9 (by decide) (htb (.fieldLink R_Md 58 "WaterMenModel" "state" "[I") tw_30) (fun _ h9 => h9) rfl d_Md_bind_26 ?_
            refine lv_iload_n hx hb d_Md_bind_29 rfl (lv_at hl 2 rfl) ?_
            refine va_iald hx hb hK hP 6 5 rfl rfl (hb_inl c_3 c_4 (by decide +kernel)) d_Md_bind_30 ?_
            refine lv_iconst (v := 2) hx hb d_Md_bind_31 (by decide +kernel) ?_
            refine lv_icmp_eq (tgt := 38) hx hb d_Md_bind_32 (by decide) (fun c_6 => ?_) (fun c_6 => ?_)
            · refine lv_aload_n hx hb d_Md_bind_38 rfl (lv_at hl 0 rfl) ?_
              refine va_get (D := (dC, dI)) (ci := 7) (v := .ref (a 6)) (C := R_Md) (T := F_Md) (N := 64) hx hb htb i_Md hown hK hP 0 rfl rfl 9 (by decide) (htb (.fieldLink R_Md 58 "WaterMenModel" "state" "[I") tw_30) (fun _ h9 => h9) rfl d_Md_bind_39 ?_
              refine lv_iload_n hx hb d_Md_bind_42 rfl (lv_at hl 1 rfl) ?_
              refine lv_iconst (v := 1) hx hb d_Md_bind_43 (by decide +kernel) ?_
              refine va_iast hx hb hK hP hD hS 6 5 rfl rfl (hb_inl c_1 c_2 (by decide +kernel)) d_Md_bind_44 (fun H locs hP hD hS => ?_)
              have hP : va_P (dC, dI) vwCl (MG a k v w (va_up g 6 (upd (g 6) (p_0 : Int32).toNatClampNeg 1)) gl) H := hP
              have hD : va_D A (MG a k v w (va_up g 6 (upd (g 6) (p_0 : Int32).toNatClampNeg 1)) gl) := hD
              refine lv_aload_n hx hb d_Md_bind_45 rfl (lv_at hl 0 rfl) ?_
              refine va_get (D := (dC, dI)) (ci := 7) (v := .ref (a 7)) (C := R_Md) (T := F_Md) (N := 64) hx hb htb i_Md hown hK hP 0 rfl rfl 10 (by decide) (htb (.fieldLink R_Md 61 "WaterMenModel" "master" "[I") tw_31) (fun _ h9 => h9) rfl d_Md_bind_46 ?_
              refine lv_iload_n hx hb d_Md_bind_49 rfl (lv_at hl 1 rfl) ?_
              refine lv_iload_n hx hb d_Md_bind_50 rfl (lv_at hl 2 rfl) ?_
              refine va_iast hx hb hK hP hD hS 7 6 rfl rfl (hb_inl c_1 c_2 (by decide +kernel)) d_Md_bind_51 (fun H locs hP hD hS => ?_)
              have hP : va_P (dC, dI) vwCl (MG a k v w (va_up (va_up g 6 (upd (g 6) (p_0 : Int32).toNatClampNeg 1)) 7 (upd (g 7) (p_0 : Int32).toNatClampNeg p_1)) gl) H := hP
              have hD : va_D A (MG a k v w (va_up (va_up g 6 (upd (g 6) (p_0 : Int32).toNatClampNeg 1)) 7 (upd (g 7) (p_0 : Int32).toNatClampNeg p_1)) gl) := hD
              refine lv_aload_n hx hb d_Md_bind_52 rfl (lv_at hl 0 rfl) ?_
              refine va_get (D := (dC, dI)) (ci := 7) (v := .ref (a 8)) (C := R_Md) (T := F_Md) (N := 64) hx hb htb i_Md hown hK hP 0 rfl rfl 11 (by decide) (htb (.fieldLink R_Md 64 "WaterMenModel" "boundOn" "[I") tw_32) (fun _ h9 => h9) rfl d_Md_bind_53 ?_
              refine lv_iload_n hx hb d_Md_bind_56 rfl (lv_at hl 1 rfl) ?_
              refine lv_aload_n hx hb d_Md_bind_57 rfl (lv_at hl 0 rfl) ?_
              refine vp_callSi (va_Run.run (va_runV (As := []) (rest := [.int p_0, .ref (a 8)]) ⟨hx, hb, hml, hown, htb⟩ (c_Md_today_g l dC dI a k v w (va_up (va_up g 6 (upd (g 6) (p_0 : Int32).toNatClampNeg 1)) 7 (upd (g 7) (p_0 : Int32).toNatClampNeg p_1)) gl as_0 as_1 as_2 as_3 as_4 as_5 as_6 as_7 as_8 as_9 as_10 as_11 as_12 as_13) (cwV 0 htb (gd_V tw_23 tw_24 tw_25 tw_3 tw_22) rfl rfl rfl (by decide +kernel) ⟨Nat.le_of_ble_eq_true rfl, Nat.le_of_ble_eq_true rfl⟩) ⟨pr_blind, va_recv hK hP (ci := 7) (q0 := 0) rfl rfl, pr_pre hP hK hN⟩ rfl rfl hl.1 rfl (lv_room (Nat.le_of_ble_eq_true rfl)) d_Md_bind_58 ⟨Nat.le_of_ble_eq_true rfl, Nat.le_of_ble_eq_true rfl⟩)) (fun r er => ?_)
              subst er
              refine hb_ti ((v 1) / 720) rfl ?_
              refine va_iast hx hb hK hP hD hS 8 7 rfl rfl (hb_inl c_1 c_2 (by decide +kernel)) d_Md_bind_61 (fun H locs hP hD hS => ?_)
              have hP : va_P (dC, dI) vwCl (MG a k v w (va_up (va_up (va_up g 6 (upd (g 6) (p_0 : Int32).toNatClampNeg 1)) 7 (upd (g 7) (p_0 : Int32).toNatClampNeg p_1)) 8 (upd (g 8) (p_0 : Int32).toNatClampNeg ((v 1) / 720))) gl) H := hP
              have hD : va_D A (MG a k v w (va_up (va_up (va_up g 6 (upd (g 6) (p_0 : Int32).toNatClampNeg 1)) 7 (upd (g 7) (p_0 : Int32).toNatClampNeg p_1)) 8 (upd (g 8) (p_0 : Int32).toNatClampNeg ((v 1) / 720))) gl) := hD
              refine lv_aload_n hx hb d_Md_bind_62 rfl (lv_at hl 0 rfl) ?_
              refine va_get (D := (dC, dI)) (ci := 7) (v := .ref (a 9)) (C := R_Md) (T := F_Md) (N := 64) hx hb htb i_Md hown hK hP 0 rfl rfl 12 (by decide) (htb (.fieldLink R_Md 67 "WaterMenModel" "gaps" "[I") tw_33) (fun _ h9 => h9) rfl d_Md_bind_63 ?_
              refine lv_iload_n hx hb d_Md_bind_66 rfl (lv_at hl 1 rfl) ?_
              refine lv_iconst (v := 0) hx hb d_Md_bind_67 (by decide +kernel) ?_
              refine va_iast hx hb hK hP hD hS 9 8 rfl rfl (hb_inl c_1 c_2 (by decide +kernel)) d_Md_bind_68 (fun H locs hP hD hS => ?_)
              have hP : va_P (dC, dI) vwCl (MG a k v w (va_up (va_up (va_up (va_up g 6 (upd (g 6) (p_0 : Int32).toNatClampNeg 1)) 7 (upd (g 7) (p_0 : Int32).toNatClampNeg p_1)) 8 (upd (g 8) (p_0 : Int32).toNatClampNeg ((v 1) / 720))) 9 (upd (g 9) (p_0 : Int32).toNatClampNeg 0)) gl) H := hP
              have hD : va_D A (MG a k v w (va_up (va_up (va_up (va_up g 6 (upd (g 6) (p_0 : Int32).toNatClampNeg 1)) 7 (upd (g 7) (p_0 : Int32).toNatClampNeg p_1)) 8 (upd (g 8) (p_0 : Int32).toNatClampNeg ((v 1) / 720))) 9 (upd (g 9) (p_0 : Int32).toNatClampNeg 0)) gl) := hD
              refine lv_iconst (v := 1) hx hb d_Md_bind_69 (by decide +kernel) ?_
              exact W.iret (v := 1) hx hb hr (fun t ht hW => ⟨⟨1, (v, w, (va_up (va_up (va_up (va_up g 6 (upd (g 6) (p_0 : Int32).toNatClampNeg 1)) 7 (upd (g 7) (p_0 : Int32).toNatClampNeg p_1)) 8 (upd (g 8) (p_0 : Int32).toNatClampNeg ((v 1) / 720))) 9 (upd (g 9) (p_0 : Int32).toNatClampNeg 0)), gl), rfl, (by unfold T_Md_bind_g; rw [if_neg c_1, if_neg c_2, if_neg c_3, if_neg c_4, if_pos c_5, if_pos c_6]), by rw [ht]; exact hP, va_K.moved hW.alike hK, by rw [hAe]; exact hD⟩, by rw [hAe]; exact hS.F ht⟩) (by rw [hAe]; exact hS.2.2) d_Md_bind_70
            · refine lv_bipush (v := (-2)) hx hb d_Md_bind_35 (by decide +kernel) ?_
              exact W.iret (v := (-2)) hx hb hr (fun t ht hW => ⟨⟨(-2), (v, w, g, gl), rfl, (by unfold T_Md_bind_g; rw [if_neg c_1, if_neg c_2, if_neg c_3, if_neg c_4, if_pos c_5, if_neg c_6]), by rw [ht]; exact hP, va_K.moved hW.alike hK, by rw [hAe]; exact hD⟩, by rw [hAe]; exact hS.F ht⟩) (by rw [hAe]; exact hS.2.2) d_Md_bind_37
def f_Md_isBoat_g (v : Nat → Int32) (g : Nat → Nat → Int32) (p_0 : Int32) : Int32 := if p_0 < 0 then (0) else (if ((v 21) - 1) < p_0 then (0) else (1))
set_option maxHeartbeats 4000000 in
set_option maxRecDepth 100000 in
theorem c_Md_isBoat_g (l : Launch) (dC : Nat → ClassId) (dI : Nat → Nat → Nat) (a : Nat → Nat) (k : Nat → ClassId) (v : Nat → Int32) (w : Nat → Int64) (g : Nat → Nat → Int32) (gl : Nat → Int64)  (p_0 : Int32) (as_0 : ¬ ((v 1) < 0)) (as_1 : ¬ (359999 < (v 1))) (as_2 : ¬ ((v 2) < 0)) (as_3 : ¬ (12 < (v 2))) (as_4 : ¬ ((v 21) < 0)) (as_5 : ¬ (20 < (v 21))) (as_6 : ¬ ((v 28) < 0)) (as_7 : ¬ (400 < (v 28))) (as_8 : ¬ ((v 29) < 0)) (as_9 : ¬ (20 < (v 29))) (as_10 : ¬ ((v 47) < 0)) (as_11 : ¬ (600 < (v 47))) (as_12 : ¬ ((v 60) < 0)) (as_13 : ¬ (30 < (v 60))) : Met l y_Md_isBoat (.code y_Md_isBoat b_Md_isBoat 2 (some .boolean) :: TB) ({ frames := 1, cells := 0, slots := 0, locals := 22 }) (va_Pc [.ref (a 0), .int p_0] (PR dC dI (MG a k v w g gl) (MT k))) (vp_Si (fun r => r = f_Md_isBoat_g v g p_0)) 0 0 (fun _ => False) := by
  refine Met.ofW (cc := b_Md_isBoat) (maxL := 2) (ret := (some .boolean)) (by decide) rfl ?_
  intro p e s m args below meth c s₁ B hml hv
  obtain ⟨rfl, hP, hK, hN⟩ := hv
  have hx := B.exec
  have hb := B.bytes
  have hr := B.returns
  have hts := atoms_spec (ws := (.code y_Md_isBoat b_Md_isBoat 2 (some .boolean) :: TB)) B.pre
  have htb := fun w (h : w ∈ TB) => hts w (List.mem_cons_of_mem _ h)
  have hown : s.vm.findClass R_Md = some m.cls := findClass_of_methodNamed B.named
  have hlocks := B.notSynchronized
  have hl := lv_entry ([.ref (a 0), .int p_0]) (n := 2) (Nat.le_of_ble_eq_true rfl)
  rw [lg_entry_eq]
  generalize (lg_sl ([.ref (a 0), .int p_0]) ++ List.replicate (2 - (lg_sl ([.ref (a 0), .int p_0])).length) Slot.unset).toArray = ls at hl ⊢
  have hl : lv_has ls 2 [(0, .ref (a 0)), (1, .int p_0)] := hl
  refine lv_iload_n hx hb d_Md_isBoat_0 rfl (lv_at hl 1 rfl) ?_
  refine lv_iconst (v := 0) hx hb d_Md_isBoat_1 (by decide +kernel) ?_
  refine lv_aload_n hx hb d_Md_isBoat_2 rfl (lv_at hl 0 rfl) ?_
  refine va_get (D := (dC, dI)) (ci := 7) (v := .int (v 21)) (C := R_Md) (T := F_Md) (N := 64) hx hb htb i_Md hown hK hP 0 rfl rfl 21 (by decide) (htb (.fieldLink R_Md 206 "WaterMenModel" "boats" "I") tw_42) (fun _ h9 => h9) rfl d_Md_isBoat_3 ?_
  refine lv_iconst (v := 1) hx hb d_Md_isBoat_6 (by decide +kernel) ?_
  refine lv_isub hx hb d_Md_isBoat_7 ?_
  refine vp_callSi (va_Run.run (va_runS (As := [.int p_0, .int 0, .int ((v 21) - 1)]) (rest := []) ⟨hx, hb, hml, hown, htb⟩ (c_Md_in l p_0 0 ((v 21) - 1)) (cwS 3 htb (gd_S tw_4 tw_5 tw_3 tw_2) rfl rfl rfl (by decide +kernel) ⟨Nat.le_of_ble_eq_true rfl, Nat.le_of_ble_eq_true rfl⟩) ⟨fun _ _ _ _ h => h, fun U _ _ => ⟨rfl, trivial⟩⟩ rfl rfl hl.1 rfl (lv_room (Nat.le_of_ble_eq_true rfl)) d_Md_isBoat_8 ⟨Nat.le_of_ble_eq_true rfl, Nat.le_of_ble_eq_true rfl⟩)) (fun r er => ?_)
  subst er
  by_cases c_1 : p_0 < 0
  · refine hb_ti 0 (by unfold f_Md_in; rw [if_pos c_1]; first | done | rfl) ?_
    exact W.zret (v := 0) hx hb hr (by decide +kernel) (fun t ht hW => ⟨0, rfl, (by unfold f_Md_isBoat_g; rw [if_pos c_1]), ht⟩) t_nil d_Md_isBoat_11
  · by_cases c_2 : ((v 21) - 1) < p_0
    · refine hb_ti 0 (by unfold f_Md_in; rw [if_neg c_1, if_pos c_2]; first | done | rfl) ?_
      exact W.zret (v := 0) hx hb hr (by decide +kernel) (fun t ht hW => ⟨0, rfl, (by unfold f_Md_isBoat_g; rw [if_neg c_1, if_pos c_2]), ht⟩) t_nil d_Md_isBoat_11
    · refine hb_ti 1 (by unfold f_Md_in; rw [if_neg c_1, if_neg c_2]; first | done | rfl) ?_
      exact W.zret (v := 1) hx hb hr (by decide +kernel) (fun t ht hW => ⟨1, rfl, (by unfold f_Md_isBoat_g; rw [if_neg c_1, if_neg c_2]), ht⟩) t_nil d_Md_isBoat_11
def T_Md_boat_g (v : Nat → Int32) (w : Nat → Int64) (g : Nat → Nat → Int32) (gl : Nat → Int64) (p_0 : Int32) (p_1 : Int32) : Int32 × MSt := if p_0 < 1 then (((-1), (v, w, g, gl))) else (if 2 < p_0 then (((-1), (v, w, g, gl))) else (if p_1 < 0 then (((-1), (v, w, g, gl))) else (if ((v 2) - 1) < p_1 then (((-1), (v, w, g, gl))) else (if (v 21) = 20 then (((-3), (v, w, g, gl))) else (((((v 21) + 1) - 1), ((upd v 21 ((v 21) + 1)), w, (va_up (va_up (va_up (va_up g 18 (upd (g 18) ((v 21) : Int32).toNatClampNeg p_0)) 19 (upd (g 19) ((v 21) : Int32).toNatClampNeg p_1)) 20 (upd (g 20) ((v 21) : Int32).toNatClampNeg 0)) 21 (upd (g 21) ((v 21) : Int32).toNatClampNeg (-1))), gl)))))))
set_option maxHeartbeats 4000000 in
set_option maxRecDepth 100000 in
theorem c_Md_boat_g (l : Launch) (dC : Nat → ClassId) (dI : Nat → Nat → Nat) (a : Nat → Nat) (k : Nat → ClassId) (v : Nat → Int32) (w : Nat → Int64) (g : Nat → Nat → Int32) (gl : Nat → Int64) (sz : Nat) (p_0 : Int32) (p_1 : Int32) (as_0 : ¬ ((v 1) < 0)) (as_1 : ¬ (359999 < (v 1))) (as_2 : ¬ ((v 2) < 0)) (as_3 : ¬ (12 < (v 2))) (as_4 : ¬ ((v 21) < 0)) (as_5 : ¬ (20 < (v 21))) (as_6 : ¬ ((v 28) < 0)) (as_7 : ¬ (400 < (v 28))) (as_8 : ¬ ((v 29) < 0)) (as_9 : ¬ (20 < (v 29))) (as_10 : ¬ ((v 47) < 0)) (as_11 : ¬ (600 < (v 47))) (as_12 : ¬ ((v 60) < 0)) (as_13 : ¬ (30 < (v 60))) : Met l y_Md_boat (.code y_Md_boat b_Md_boat 3 (some .int) :: TB) ({ frames := 2, cells := 0, slots := 0, locals := 43 }) (va_Pc [.ref (a 0), .int p_0, .int p_1] (PC dC dI (MG a k v w g gl) (MT k) sz)) (va_Qi (fun r (u : MSt) => (r, u) = T_Md_boat_g v w g gl p_0 p_1) (fun u t => va_P (dC, dI) vwCl (MG a k u.1 u.2.1 u.2.2.1 u.2.2.2) t.heap ∧ va_K (dC, dI) vwCl (MT k) t ∧ va_D (va_A (MG a k v w g gl) sz) (MG a k u.1 u.2.1 u.2.2.1 u.2.2.2)) (va_A (MG a k v w g gl) sz)) 0 0 (va_A (MG a k v w g gl) sz) := by
  refine Met.ofW (cc := b_Md_boat) (maxL := 3) (ret := (some .int)) (by decide) rfl ?_
  intro p e s m args below meth c s₁ B hml hv
  obtain ⟨rfl, hsz, hP, hK, hD0, hN⟩ := hv
  have hx := B.exec
  have hb := B.bytes
  have hr := B.returns
  have hts := atoms_spec (ws := (.code y_Md_boat b_Md_boat 3 (some .int) :: TB)) B.pre
  have htb := fun w (h : w ∈ TB) => hts w (List.mem_cons_of_mem _ h)
  have hown : s.vm.findClass R_Md = some m.cls := findClass_of_methodNamed B.named
  have hlocks := B.notSynchronized
  have hl := lv_entry ([.ref (a 0), .int p_0, .int p_1]) (n := 3) (Nat.le_of_ble_eq_true rfl)
  rw [lg_entry_eq]
  generalize (lg_sl ([.ref (a 0), .int p_0, .int p_1]) ++ List.replicate (3 - (lg_sl ([.ref (a 0), .int p_0, .int p_1])).length) Slot.unset).toArray = ls at hl ⊢
  have hl : lv_has ls 3 [(0, .ref (a 0)), (1, .int p_0), (2, .int p_1)] := hl
  subst hsz
  have hD := hD0.self (sz := s.heap.size)
  obtain ⟨A, hAe⟩ : ∃ A, va_A (MG a k v w g gl) s.heap.size = A := ⟨_, rfl⟩
  rw [hAe] at hD
  have hA : ∀ q : Nat, s.heap.size ≤ q → A q := fun q h => by rw [← hAe]; exact Or.inr h
  have hS : va_S A s.heap s.heap [] := va_S.rf
  refine lv_iload_n hx hb d_Md_boat_0 rfl (lv_at hl 1 rfl) ?_
  refine lv_iconst (v := 1) hx hb d_Md_boat_1 (by decide +kernel) ?_
  refine lv_iconst (v := 2) hx hb d_Md_boat_2 (by decide +kernel) ?_
  refine vp_callSi (va_Run.run (va_runS (As := [.int p_0, .int 1, .int 2]) (rest := []) ⟨hx, hb, hml, hown, htb⟩ (c_Md_in l p_0 1 2) (cwS 3 htb (gd_S tw_4 tw_5 tw_3 tw_2) rfl rfl rfl (by decide +kernel) ⟨Nat.le_of_ble_eq_true rfl, Nat.le_of_ble_eq_true rfl⟩) ⟨fun _ _ _ _ h => h, fun U _ _ => ⟨rfl, trivial⟩⟩ rfl rfl hl.1 rfl (lv_room (Nat.le_of_ble_eq_true rfl)) d_Md_boat_3 ⟨Nat.le_of_ble_eq_true rfl, Nat.le_of_ble_eq_true rfl⟩)) (fun r er => ?_)
  subst er
  by_cases c_1 : p_0 < 1
  · refine hb_ti 0 (by unfold f_Md_in; rw [if_pos c_1]; first | done | rfl) ?_
    refine lv_if_eq (tgt := 17) hx hb d_Md_boat_6 (by decide) (fun _ => ?_) (fun h => absurd (by decide +kernel) h)
    refine lv_iconst (v := (-1)) hx hb d_Md_boat_17 (by decide +kernel) ?_
    exact W.iret (v := (-1)) hx hb hr (fun t ht hW => ⟨⟨(-1), (v, w, g, gl), rfl, (by unfold T_Md_boat_g; rw [if_pos c_1]), by rw [ht]; exact hP, va_K.moved hW.alike hK, by rw [hAe]; exact hD⟩, by rw [hAe]; exact hS.F ht⟩) (by rw [hAe]; exact hS.2.2) d_Md_boat_18
  · by_cases c_2 : 2 < p_0
    · refine hb_ti 0 (by unfold f_Md_in; rw [if_neg c_1, if_pos c_2]; first | done | rfl) ?_
      refine lv_if_eq (tgt := 17) hx hb d_Md_boat_6 (by decide) (fun _ => ?_) (fun h => absurd (by decide +kernel) h)
      refine lv_iconst (v := (-1)) hx hb d_Md_boat_17 (by decide +kernel) ?_
      exact W.iret (v := (-1)) hx hb hr (fun t ht hW => ⟨⟨(-1), (v, w, g, gl), rfl, (by unfold T_Md_boat_g; rw [if_neg c_1, if_pos c_2]), by rw [ht]; exact hP, va_K.moved hW.alike hK, by rw [hAe]; exact hD⟩, by rw [hAe]; exact hS.F ht⟩) (by rw [hAe]; exact hS.2.2) d_Md_boat_18
    · refine hb_ti 1 (by unfold f_Md_in; rw [if_neg c_1, if_neg c_2]; first | done | rfl) ?_
      refine lv_if_eq (tgt := 17) hx hb d_Md_boat_6 (by decide) (fun h => absurd h (by decide +kernel)) (fun _ => ?_)
      refine lv_aload_n hx hb d_Md_boat_9 rfl (lv_at hl 0 rfl) ?_
      refine lv_iload_n hx hb d_Md_boat_10 rfl (lv_at hl 2 rfl) ?_
      refine vp_callSi (va_Run.run (va_runV (As := [.int p_1]) (rest := []) ⟨hx, hb, hml, hown, htb⟩ (c_Md_isStairs_g l dC dI a k v w g gl p_1 as_0 as_1 as_2 as_3 as_4 as_5 as_6 as_7 as_8 as_9 as_10 as_11 as_12 as_13) (cwV 1 htb (gd_V tw_38 tw_39 tw_40 tw_3 tw_37) rfl rfl rfl (by decide +kernel) ⟨Nat.le_of_ble_eq_true rfl, Nat.le_of_ble_eq_true rfl⟩) ⟨pr_blind, va_recv hK hP (ci := 7) (q0 := 0) rfl rfl, pr_pre hP hK hN⟩ rfl rfl hl.1 rfl (lv_room (Nat.le_of_ble_eq_true rfl)) d_Md_boat_11 ⟨Nat.le_of_ble_eq_true rfl, Nat.le_of_ble_eq_true rfl⟩)) (fun r er => ?_)
      subst er
      by_cases c_3 : p_1 < 0
      · refine hb_ti 0 (by unfold f_Md_isStairs_g; rw [if_pos c_3]; first | done | rfl) ?_
        refine lv_if_ne (tgt := 19) hx hb d_Md_boat_14 (by decide) (fun h => absurd (by decide +kernel) h) (fun _ => ?_)
        refine lv_iconst (v := (-1)) hx hb d_Md_boat_17 (by decide +kernel) ?_
        exact W.iret (v := (-1)) hx hb hr (fun t ht hW => ⟨⟨(-1), (v, w, g, gl), rfl, (by unfold T_Md_boat_g; rw [if_neg c_1, if_neg c_2, if_pos c_3]), by rw [ht]; exact hP, va_K.moved hW.alike hK, by rw [hAe]; exact hD⟩, by rw [hAe]; exact hS.F ht⟩) (by rw [hAe]; exact hS.2.2) d_Md_boat_18
      · by_cases c_4 : ((v 2) - 1) < p_1
        · refine hb_ti 0 (by unfold f_Md_isStairs_g; rw [if_neg c_3, if_pos c_4]; first | done | rfl) ?_
          refine lv_if_ne (tgt := 19) hx hb d_Md_boat_14 (by decide) (fun h => absurd (by decide +kernel) h) (fun _ => ?_)
          refine lv_iconst (v := (-1)) hx hb d_Md_boat_17 (by decide +kernel) ?_
          exact W.iret (v := (-1)) hx hb hr (fun t ht hW => ⟨⟨(-1), (v, w, g, gl), rfl, (by unfold T_Md_boat_g; rw [if_neg c_1, if_neg c_2, if_neg c_3, if_pos c_4]), by rw [ht]; exact hP, va_K.moved hW.alike hK, by rw [hAe]; exact hD⟩, by rw [hAe]; exact hS.F ht⟩) (by rw [hAe]; exact hS.2.2) d_Md_boat_18
        · refine hb_ti 1 (by unfold f_Md_isStairs_g; rw [if_neg c_3, if_neg c_4]; first | done | rfl) ?_
          refine lv_if_ne (tgt := 19) hx hb d_Md_boat_14 (by decide) (fun _ => ?_) (fun h => absurd h (by decide +kernel))
          refine lv_aload_n hx hb d_Md_boat_19 rfl (lv_at hl 0 rfl) ?_
          refine va_get (D := (dC, dI)) (ci := 7) (v := .int (v 21)) (C := R_Md) (T := F_Md) (N := 64) hx hb htb i_Md hown hK hP 0 rfl rfl 21 (by decide) (htb (.fieldLink R_Md 206 "WaterMenModel" "boats" "I") tw_42) (fun _ h9 => h9) rfl d_Md_boat_20 ?_
          refine lv_bipush (v := 20) hx hb d_Md_boat_23 (by decide +kernel) ?_
          refine lv_icmp_ne (tgt := 31) hx hb d_Md_boat_25 (by decide) (fun c_5 => ?_) (fun c_5 => ?_)
          · refine lv_aload_n hx hb d_Md_boat_31 rfl (lv_at hl 0 rfl) ?_
            refine va_get (D := (dC, dI)) (ci := 7) (v := .ref (a 18)) (C := R_Md) (T := F_Md) (N := 64) hx hb htb i_Md hown hK hP 0 rfl rfl 22 (by decide) (htb (.fieldLink R_Md 94 "WaterMenModel" "boatOars" "[I") tw_43) (fun _ h9 => h9) rfl d_Md_boat_32 ?_
            refine lv_aload_n hx hb d_Md_boat_35 rfl (lv_at hl 0 rfl) ?_
            refine va_get (D := (dC, dI)) (ci := 7) (v := .int (v 21)) (C := R_Md) (T := F_Md) (N := 64) hx hb htb i_Md hown hK hP 0 rfl rfl 21 (by decide) (htb (.fieldLink R_Md 206 "WaterMenModel" "boats" "I") tw_42) (fun _ h9 => h9) rfl d_Md_boat_36 ?_
            refine lv_iload_n hx hb d_Md_boat_39 rfl (lv_at hl 1 rfl) ?_
            refine va_iast hx hb hK hP hD hS 18 17 rfl rfl (by have z0 : (0 : Int32).toInt = 0 := (by decide +kernel); have z1 : (20 : Int32).toInt = 20 := (by decide +kernel); have r0 := fb_rng (v 21); have e0 := as_4; rw [Int32.lt_iff_toInt_lt] at e0; have e1 := as_5; rw [Int32.lt_iff_toInt_lt] at e1; have e2 := c_5; rw [← Int32.toInt_inj] at e2; rw [vp_in_iff]; omega) d_Md_boat_40 (fun H locs hP hD hS => ?_)
            have hP : va_P (dC, dI) vwCl (MG a k v w (va_up g 18 (upd (g 18) ((v 21) : Int32).toNatClampNeg p_0)) gl) H := hP
            have hD : va_D A (MG a k v w (va_up g 18 (upd (g 18) ((v 21) : Int32).toNatClampNeg p_0)) gl) := hD
            refine lv_aload_n hx hb d_Md_boat_41 rfl (lv_at hl 0 rfl) ?_
            refine va_get (D := (dC, dI)) (ci := 7) (v := .ref (a 19)) (C := R_Md) (T := F_Md) (N := 64) hx hb htb i_Md hown hK hP 0 rfl rfl 23 (by decide) (htb (.fieldLink R_Md 97 "WaterMenModel" "boatAt" "[I") tw_44) (fun _ h9 => h9) rfl d_Md_boat_42 ?_
            refine lv_aload_n hx hb d_Md_boat_45 rfl (lv_at hl 0 rfl) ?_
            refine va_get (D := (dC, dI)) (ci := 7) (v := .int (v 21)) (C := R_Md) (T := F_Md) (N := 64) hx hb htb i_Md hown hK hP 0 rfl rfl 21 (by decide) (htb (.fieldLink R_Md 206 "WaterMenModel" "boats" "I") tw_42) (fun _ h9 => h9) rfl d_Md_boat_46 ?_
            refine lv_iload_n hx hb d_Md_boat_49 rfl (lv_at hl 2 rfl) ?_
            refine va_iast hx hb hK hP hD hS 19 18 rfl rfl (by have z0 : (0 : Int32).toInt = 0 := (by decide +kernel); have z1 : (20 : Int32).toInt = 20 := (by decide +kernel); have r0 := fb_rng (v 21); have e0 := as_4; rw [Int32.lt_iff_toInt_lt] at e0; have e1 := as_5; rw [Int32.lt_iff_toInt_lt] at e1; have e2 := c_5; rw [← Int32.toInt_inj] at e2; rw [vp_in_iff]; omega) d_Md_boat_50 (fun H locs hP hD hS => ?_)
            have hP : va_P (dC, dI) vwCl (MG a k v w (va_up (va_up g 18 (upd (g 18) ((v 21) : Int32).toNatClampNeg p_0)) 19 (upd (g 19) ((v 21) : Int32).toNatClampNeg p_1)) gl) H := hP
            have hD : va_D A (MG a k v w (va_up (va_up g 18 (upd (g 18) ((v 21) : Int32).toNatClampNeg p_0)) 19 (upd (g 19) ((v 21) : Int32).toNatClampNeg p_1)) gl) := hD
            refine lv_aload_n hx hb d_Md_boat_51 rfl (lv_at hl 0 rfl) ?_
            refine va_get (D := (dC, dI)) (ci := 7) (v := .ref (a 20)) (C := R_Md) (T := F_Md) (N := 64) hx hb htb i_Md hown hK hP 0 rfl rfl 24 (by decide) (htb (.fieldLink R_Md 100 "WaterMenModel" "boatFrom" "[I") tw_45) (fun _ h9 => h9) rfl d_Md_boat_52 ?_
            refine lv_aload_n hx hb d_Md_boat_55 rfl (lv_at hl 0 rfl) ?_
            refine va_get (D := (dC, dI)) (ci := 7) (v := .int (v 21)) (C := R_Md) (T := F_Md) (N := 64) hx hb htb i_Md hown hK hP 0 rfl rfl 21 (by decide) (htb (.fieldLink R_Md 206 "WaterMenModel" "boats" "I") tw_42) (fun _ h9 => h9) rfl d_Md_boat_56 ?_
            refine lv_iconst (v := 0) hx hb d_Md_boat_59 (by decide +kernel) ?_
            refine va_iast hx hb hK hP hD hS 20 19 rfl rfl (by have z0 : (0 : Int32).toInt = 0 := (by decide +kernel); have z1 : (20 : Int32).toInt = 20 := (by decide +kernel); have r0 := fb_rng (v 21); have e0 := as_4; rw [Int32.lt_iff_toInt_lt] at e0; have e1 := as_5; rw [Int32.lt_iff_toInt_lt] at e1; have e2 := c_5; rw [← Int32.toInt_inj] at e2; rw [vp_in_iff]; omega) d_Md_boat_60 (fun H locs hP hD hS => ?_)
            have hP : va_P (dC, dI) vwCl (MG a k v w (va_up (va_up (va_up g 18 (upd (g 18) ((v 21) : Int32).toNatClampNeg p_0)) 19 (upd (g 19) ((v 21) : Int32).toNatClampNeg p_1)) 20 (upd (g 20) ((v 21) : Int32).toNatClampNeg 0)) gl) H := hP
            have hD : va_D A (MG a k v w (va_up (va_up (va_up g 18 (upd (g 18) ((v 21) : Int32).toNatClampNeg p_0)) 19 (upd (g 19) ((v 21) : Int32).toNatClampNeg p_1)) 20 (upd (g 20) ((v 21) : Int32).toNatClampNeg 0)) gl) := hD
            refine lv_aload_n hx hb d_Md_boat_61 rfl (lv_at hl 0 rfl) ?_
            refine va_get (D := (dC, dI)) (ci := 7) (v := .ref (a 21)) (C := R_Md) (T := F_Md) (N := 64) hx hb htb i_Md hown hK hP 0 rfl rfl 25 (by decide) (htb (.fieldLink R_Md 103 "WaterMenModel" "boatTrip" "[I") tw_46) (fun _ h9 => h9) rfl d_Md_boat_62 ?_
            refine lv_aload_n hx hb d_Md_boat_65 rfl (lv_at hl 0 rfl) ?_
            refine va_get (D := (dC, dI)) (ci := 7) (v := .int (v 21)) (C := R_Md) (T := F_Md) (N := 64) hx hb htb i_Md hown hK hP 0 rfl rfl 21 (by decide) (htb (.fieldLink R_Md 206 "WaterMenModel" "boats" "I") tw_42) (fun _ h9 => h9) rfl d_Md_boat_66 ?_
            refine lv_iconst (v := (-1)) hx hb d_Md_boat_69 (by decide +kernel) ?_
            refine va_iast hx hb hK hP hD hS 21 20 rfl rfl (by have z0 : (0 : Int32).toInt = 0 := (by decide +kernel); have z1 : (20 : Int32).toInt = 20 := (by decide +kernel); have r0 := fb_rng (v 21); have e0 := as_4; rw [Int32.lt_iff_toInt_lt] at e0; have e1 := as_5; rw [Int32.lt_iff_toInt_lt] at e1; have e2 := c_5; rw [← Int32.toInt_inj] at e2; rw [vp_in_iff]; omega) d_Md_boat_70 (fun H locs hP hD hS => ?_)
            have hP : va_P (dC, dI) vwCl (MG a k v w (va_up (va_up (va_up (va_up g 18 (upd (g 18) ((v 21) : Int32).toNatClampNeg p_0)) 19 (upd (g 19) ((v 21) : Int32).toNatClampNeg p_1)) 20 (upd (g 20) ((v 21) : Int32).toNatClampNeg 0)) 21 (upd (g 21) ((v 21) : Int32).toNatClampNeg (-1))) gl) H := hP
            have hD : va_D A (MG a k v w (va_up (va_up (va_up (va_up g 18 (upd (g 18) ((v 21) : Int32).toNatClampNeg p_0)) 19 (upd (g 19) ((v 21) : Int32).toNatClampNeg p_1)) 20 (upd (g 20) ((v 21) : Int32).toNatClampNeg 0)) 21 (upd (g 21) ((v 21) : Int32).toNatClampNeg (-1))) gl) := hD
            refine lv_aload_n hx hb d_Md_boat_71 rfl (lv_at hl 0 rfl) ?_
            refine lv_dup hx hb d_Md_boat_72 rfl ?_
            refine va_get (D := (dC, dI)) (ci := 7) (v := .int (v 21)) (C := R_Md) (T := F_Md) (N := 64) hx hb htb i_Md hown hK hP 0 rfl rfl 21 (by decide) (htb (.fieldLink R_Md 206 "WaterMenModel" "boats" "I") tw_42) (fun _ h9 => h9) rfl d_Md_boat_73 ?_
            refine lv_iconst (v := 1) hx hb d_Md_boat_76 (by decide +kernel) ?_
            refine lv_iadd hx hb d_Md_boat_77 ?_
            refine va_put (D := (dC, dI)) (ci := 7) (v := .int ((v 21) + 1)) (ty := .int) (C := R_Md) (T := F_Md) (N := 64) hx hb htb i_Md t_Md t_Md_ok n_Md hown hK hP hD hS 0 rfl rfl 21 (by decide) (htb (.fieldLink R_Md 206 "WaterMenModel" "boats" "I") tw_42) (fun _ h9 => h9) rfl (by decide +kernel) rfl rfl (Nat.le_of_ble_eq_true rfl) d_Md_boat_78 (fun H locs hP hD hS => ?_)
            have hP : va_P (dC, dI) vwCl (MG a k (upd v 21 ((v 21) + 1)) w (va_up (va_up (va_up (va_up g 18 (upd (g 18) ((v 21) : Int32).toNatClampNeg p_0)) 19 (upd (g 19) ((v 21) : Int32).toNatClampNeg p_1)) 20 (upd (g 20) ((v 21) : Int32).toNatClampNeg 0)) 21 (upd (g 21) ((v 21) : Int32).toNatClampNeg (-1))) gl) H := hP
            have hD : va_D A (MG a k (upd v 21 ((v 21) + 1)) w (va_up (va_up (va_up (va_up g 18 (upd (g 18) ((v 21) : Int32).toNatClampNeg p_0)) 19 (upd (g 19) ((v 21) : Int32).toNatClampNeg p_1)) 20 (upd (g 20) ((v 21) : Int32).toNatClampNeg 0)) 21 (upd (g 21) ((v 21) : Int32).toNatClampNeg (-1))) gl) := hD
            refine lv_aload_n hx hb d_Md_boat_81 rfl (lv_at hl 0 rfl) ?_
            refine va_get (D := (dC, dI)) (ci := 7) (v := .int ((v 21) + 1)) (C := R_Md) (T := F_Md) (N := 64) hx hb htb i_Md hown hK hP 0 rfl rfl 21 (by decide) (htb (.fieldLink R_Md 206 "WaterMenModel" "boats" "I") tw_42) (fun _ h9 => h9) rfl d_Md_boat_82 ?_
            refine lv_iconst (v := 1) hx hb d_Md_boat_85 (by decide +kernel) ?_
            refine lv_isub hx hb d_Md_boat_86 ?_
            exact W.iret (v := (((v 21) + 1) - 1)) hx hb hr (fun t ht hW => ⟨⟨(((v 21) + 1) - 1), ((upd v 21 ((v 21) + 1)), w, (va_up (va_up (va_up (va_up g 18 (upd (g 18) ((v 21) : Int32).toNatClampNeg p_0)) 19 (upd (g 19) ((v 21) : Int32).toNatClampNeg p_1)) 20 (upd (g 20) ((v 21) : Int32).toNatClampNeg 0)) 21 (upd (g 21) ((v 21) : Int32).toNatClampNeg (-1))), gl), rfl, (by unfold T_Md_boat_g; rw [if_neg c_1, if_neg c_2, if_neg c_3, if_neg c_4, if_neg c_5]), by rw [ht]; exact hP, va_K.moved hW.alike hK, by rw [hAe]; exact hD⟩, by rw [hAe]; exact hS.F ht⟩) (by rw [hAe]; exact hS.2.2) d_Md_boat_87
          · refine lv_bipush (v := (-3)) hx hb d_Md_boat_28 (by decide +kernel) ?_
            exact W.iret (v := (-3)) hx hb hr (fun t ht hW => ⟨⟨(-3), (v, w, g, gl), rfl, (by unfold T_Md_boat_g; rw [if_neg c_1, if_neg c_2, if_neg c_3, if_neg c_4, if_pos c_5]), by rw [ht]; exact hP, va_K.moved hW.alike hK, by rw [hAe]; exact hD⟩, by rw [hAe]; exact hS.F ht⟩) (by rw [hAe]; exact hS.2.2) d_Md_boat_30
def T_Md_end_g (v : Nat → Int32) (w : Nat → Int64) (g : Nat → Nat → Int32) (gl : Nat → Int64) (p_0 : Int32) : Int32 × MSt := if p_0 < 0 then (((-1), (v, w, g, gl))) else (if (v 28) < p_0 then (((-1), (v, w, g, gl))) else ((p_0, ((upd v 28 p_0), w, g, gl))))
set_option maxHeartbeats 4000000 in
set_option maxRecDepth 100000 in
theorem c_Md_end_g (l : Launch) (dC : Nat → ClassId) (dI : Nat → Nat → Nat) (a : Nat → Nat) (k : Nat → ClassId) (v : Nat → Int32) (w : Nat → Int64) (g : Nat → Nat → Int32) (gl : Nat → Int64) (sz : Nat) (p_0 : Int32) (as_0 : ¬ ((v 1) < 0)) (as_1 : ¬ (359999 < (v 1))) (as_2 : ¬ ((v 2) < 0)) (as_3 : ¬ (12 < (v 2))) (as_4 : ¬ ((v 21) < 0)) (as_5 : ¬ (20 < (v 21))) (as_6 : ¬ ((v 28) < 0)) (as_7 : ¬ (400 < (v 28))) (as_8 : ¬ ((v 29) < 0)) (as_9 : ¬ (20 < (v 29))) (as_10 : ¬ ((v 47) < 0)) (as_11 : ¬ (600 < (v 47))) (as_12 : ¬ ((v 60) < 0)) (as_13 : ¬ (30 < (v 60))) : Met l y_Md_end (.code y_Md_end b_Md_end 2 (some .int) :: TB) ({ frames := 1, cells := 0, slots := 0, locals := 22 }) (va_Pc [.ref (a 0), .int p_0] (PC dC dI (MG a k v w g gl) (MT k) sz)) (va_Qi (fun r (u : MSt) => (r, u) = T_Md_end_g v w g gl p_0) (fun u t => va_P (dC, dI) vwCl (MG a k u.1 u.2.1 u.2.2.1 u.2.2.2) t.heap ∧ va_K (dC, dI) vwCl (MT k) t ∧ va_D (va_A (MG a k v w g gl) sz) (MG a k u.1 u.2.1 u.2.2.1 u.2.2.2)) (va_A (MG a k v w g gl) sz)) 0 0 (va_A (MG a k v w g gl) sz) := by
  refine Met.ofW (cc := b_Md_end) (maxL := 2) (ret := (some .int)) (by decide) rfl ?_
  intro p e s m args below meth c s₁ B hml hv
  obtain ⟨rfl, hsz, hP, hK, hD0, hN⟩ := hv
  have hx := B.exec
  have hb := B.bytes
  have hr := B.returns
  have hts := atoms_spec (ws := (.code y_Md_end b_Md_end 2 (some .int) :: TB)) B.pre
  have htb := fun w (h : w ∈ TB) => hts w (List.mem_cons_of_mem _ h)
  have hown : s.vm.findClass R_Md = some m.cls := findClass_of_methodNamed B.named
  have hlocks := B.notSynchronized
  have hl := lv_entry ([.ref (a 0), .int p_0]) (n := 2) (Nat.le_of_ble_eq_true rfl)
  rw [lg_entry_eq]
  generalize (lg_sl ([.ref (a 0), .int p_0]) ++ List.replicate (2 - (lg_sl ([.ref (a 0), .int p_0])).length) Slot.unset).toArray = ls at hl ⊢
  have hl : lv_has ls 2 [(0, .ref (a 0)), (1, .int p_0)] := hl
  subst hsz
  have hD := hD0.self (sz := s.heap.size)
  obtain ⟨A, hAe⟩ : ∃ A, va_A (MG a k v w g gl) s.heap.size = A := ⟨_, rfl⟩
  rw [hAe] at hD
  have hA : ∀ q : Nat, s.heap.size ≤ q → A q := fun q h => by rw [← hAe]; exact Or.inr h
  have hS : va_S A s.heap s.heap [] := va_S.rf
  refine lv_iload_n hx hb d_Md_end_0 rfl (lv_at hl 1 rfl) ?_
  refine lv_iconst (v := 0) hx hb d_Md_end_1 (by decide +kernel) ?_
  refine lv_aload_n hx hb d_Md_end_2 rfl (lv_at hl 0 rfl) ?_
  refine va_get (D := (dC, dI)) (ci := 7) (v := .int (v 28)) (C := R_Md) (T := F_Md) (N := 64) hx hb htb i_Md hown hK hP 0 rfl rfl 28 (by decide) (htb (.fieldLink R_Md 212 "WaterMenModel" "taped" "I") tw_52) (fun _ h9 => h9) rfl d_Md_end_3 ?_
  refine vp_callSi (va_Run.run (va_runS (As := [.int p_0, .int 0, .int (v 28)]) (rest := []) ⟨hx, hb, hml, hown, htb⟩ (c_Md_in l p_0 0 (v 28)) (cwS 3 htb (gd_S tw_4 tw_5 tw_3 tw_2) rfl rfl rfl (by decide +kernel) ⟨Nat.le_of_ble_eq_true rfl, Nat.le_of_ble_eq_true rfl⟩) ⟨fun _ _ _ _ h => h, fun U _ _ => ⟨rfl, trivial⟩⟩ rfl rfl hl.1 rfl (lv_room (Nat.le_of_ble_eq_true rfl)) d_Md_end_6 ⟨Nat.le_of_ble_eq_true rfl, Nat.le_of_ble_eq_true rfl⟩)) (fun r er => ?_)
  subst er
  by_cases c_1 : p_0 < 0
  · refine hb_ti 0 (by unfold f_Md_in; rw [if_pos c_1]; first | done | rfl) ?_
    refine lv_if_ne (tgt := 14) hx hb d_Md_end_9 (by decide) (fun h => absurd (by decide +kernel) h) (fun _ => ?_)
    refine lv_iconst (v := (-1)) hx hb d_Md_end_12 (by decide +kernel) ?_
    exact W.iret (v := (-1)) hx hb hr (fun t ht hW => ⟨⟨(-1), (v, w, g, gl), rfl, (by unfold T_Md_end_g; rw [if_pos c_1]), by rw [ht]; exact hP, va_K.moved hW.alike hK, by rw [hAe]; exact hD⟩, by rw [hAe]; exact hS.F ht⟩) (by rw [hAe]; exact hS.2.2) d_Md_end_13
  · by_cases c_2 : (v 28) < p_0
    · refine hb_ti 0 (by unfold f_Md_in; rw [if_neg c_1, if_pos c_2]; first | done | rfl) ?_
      refine lv_if_ne (tgt := 14) hx hb d_Md_end_9 (by decide) (fun h => absurd (by decide +kernel) h) (fun _ => ?_)
      refine lv_iconst (v := (-1)) hx hb d_Md_end_12 (by decide +kernel) ?_
      exact W.iret (v := (-1)) hx hb hr (fun t ht hW => ⟨⟨(-1), (v, w, g, gl), rfl, (by unfold T_Md_end_g; rw [if_neg c_1, if_pos c_2]), by rw [ht]; exact hP, va_K.moved hW.alike hK, by rw [hAe]; exact hD⟩, by rw [hAe]; exact hS.F ht⟩) (by rw [hAe]; exact hS.2.2) d_Md_end_13
    · refine hb_ti 1 (by unfold f_Md_in; rw [if_neg c_1, if_neg c_2]; first | done | rfl) ?_
      refine lv_if_ne (tgt := 14) hx hb d_Md_end_9 (by decide) (fun _ => ?_) (fun h => absurd h (by decide +kernel))
      refine lv_aload_n hx hb d_Md_end_14 rfl (lv_at hl 0 rfl) ?_
      refine lv_iload_n hx hb d_Md_end_15 rfl (lv_at hl 1 rfl) ?_
      refine va_put (D := (dC, dI)) (ci := 7) (v := .int p_0) (ty := .int) (C := R_Md) (T := F_Md) (N := 64) hx hb htb i_Md t_Md t_Md_ok n_Md hown hK hP hD hS 0 rfl rfl 28 (by decide) (htb (.fieldLink R_Md 212 "WaterMenModel" "taped" "I") tw_52) (fun _ h9 => h9) rfl (by decide +kernel) rfl rfl (Nat.le_of_ble_eq_true rfl) d_Md_end_16 (fun H locs hP hD hS => ?_)
      have hP : va_P (dC, dI) vwCl (MG a k (upd v 28 p_0) w g gl) H := hP
      have hD : va_D A (MG a k (upd v 28 p_0) w g gl) := hD
      refine lv_iload_n hx hb d_Md_end_19 rfl (lv_at hl 1 rfl) ?_
      exact W.iret (v := p_0) hx hb hr (fun t ht hW => ⟨⟨p_0, ((upd v 28 p_0), w, g, gl), rfl, (by unfold T_Md_end_g; rw [if_neg c_1, if_neg c_2]), by rw [ht]; exact hP, va_K.moved hW.alike hK, by rw [hAe]; exact hD⟩, by rw [hAe]; exact hS.F ht⟩) (by rw [hAe]; exact hS.2.2) d_Md_end_20
def f_Md_lineOf_g (v : Nat → Int32) (g : Nat → Nat → Int32) (p_0 : Int32) (p_1 : Int32) : Int32 := (g 34) ((((9 * p_0) + p_1) - 10)).toNatClampNeg
set_option maxHeartbeats 4000000 in
set_option maxRecDepth 100000 in
theorem c_Md_lineOf_g (l : Launch) (dC : Nat → ClassId) (dI : Nat → Nat → Nat) (a : Nat → Nat) (k : Nat → ClassId) (v : Nat → Int32) (w : Nat → Int64) (g : Nat → Nat → Int32) (gl : Nat → Int64)  (p_0 : Int32) (p_1 : Int32) (as_0 : ¬ ((v 1) < 0)) (as_1 : ¬ (359999 < (v 1))) (as_2 : ¬ ((v 2) < 0)) (as_3 : ¬ (12 < (v 2))) (as_4 : ¬ ((v 21) < 0)) (as_5 : ¬ (20 < (v 21))) (as_6 : ¬ ((v 28) < 0)) (as_7 : ¬ (400 < (v 28))) (as_8 : ¬ ((v 29) < 0)) (as_9 : ¬ (20 < (v 29))) (as_10 : ¬ ((v 47) < 0)) (as_11 : ¬ (600 < (v 47))) (as_12 : ¬ ((v 60) < 0)) (as_13 : ¬ (30 < (v 60))) (as_14 : ¬ (p_0 < 0)) (as_15 : ¬ (19 < p_0)) (as_16 : ¬ (p_1 < 10)) (as_17 : ¬ (18 < p_1)) : Met l y_Md_lineOf (.code y_Md_lineOf b_Md_lineOf 3 (some .int) :: TB) ({ frames := 0, cells := 0, slots := 0, locals := 0 }) (va_Pc [.ref (a 0), .int p_0, .int p_1] (PR dC dI (MG a k v w g gl) (MT k))) (vp_Si (fun r => r = f_Md_lineOf_g v g p_0 p_1)) 0 0 (fun _ => False) := by
  refine Met.ofW (cc := b_Md_lineOf) (maxL := 3) (ret := (some .int)) (by decide) rfl ?_
  intro p e s m args below meth c s₁ B hml hv
  obtain ⟨rfl, hP, hK, hN⟩ := hv
  have hx := B.exec
  have hb := B.bytes
  have hr := B.returns
  have hts := atoms_spec (ws := (.code y_Md_lineOf b_Md_lineOf 3 (some .int) :: TB)) B.pre
  have htb := fun w (h : w ∈ TB) => hts w (List.mem_cons_of_mem _ h)
  have hown : s.vm.findClass R_Md = some m.cls := findClass_of_methodNamed B.named
  have hlocks := B.notSynchronized
  have hl := lv_entry ([.ref (a 0), .int p_0, .int p_1]) (n := 3) (Nat.le_of_ble_eq_true rfl)
  rw [lg_entry_eq]
  generalize (lg_sl ([.ref (a 0), .int p_0, .int p_1]) ++ List.replicate (3 - (lg_sl ([.ref (a 0), .int p_0, .int p_1])).length) Slot.unset).toArray = ls at hl ⊢
  have hl : lv_has ls 3 [(0, .ref (a 0)), (1, .int p_0), (2, .int p_1)] := hl
  refine lv_aload_n hx hb d_Md_lineOf_0 rfl (lv_at hl 0 rfl) ?_
  refine va_get (D := (dC, dI)) (ci := 7) (v := .ref (a 34)) (C := R_Md) (T := F_Md) (N := 64) hx hb htb i_Md hown hK hP 0 rfl rfl 40 (by decide) (htb (.fieldLink R_Md 143 "WaterMenModel" "single" "[I") tw_59) (fun _ h9 => h9) rfl d_Md_lineOf_1 ?_
  refine lv_bipush (v := 9) hx hb d_Md_lineOf_4 (by decide +kernel) ?_
  refine lv_iload_n hx hb d_Md_lineOf_6 rfl (lv_at hl 1 rfl) ?_
  refine lv_imul hx hb d_Md_lineOf_7 ?_
  refine lv_iload_n hx hb d_Md_lineOf_8 rfl (lv_at hl 2 rfl) ?_
  refine lv_iadd hx hb d_Md_lineOf_9 ?_
  refine lv_bipush (v := 10) hx hb d_Md_lineOf_10 (by decide +kernel) ?_
  refine lv_isub hx hb d_Md_lineOf_12 ?_
  refine va_iald hx hb hK hP 34 33 rfl rfl (by have z0 : (0 : Int32).toInt = 0 := (by decide +kernel); have z1 : (9 : Int32).toInt = 9 := (by decide +kernel); have z2 : (10 : Int32).toInt = 10 := (by decide +kernel); have z3 : (18 : Int32).toInt = 18 := (by decide +kernel); have z4 : (19 : Int32).toInt = 19 := (by decide +kernel); have r0 := fb_rng (p_0); have r1 := fb_rng (p_1); have e0 := as_14; rw [Int32.lt_iff_toInt_lt] at e0; have e1 := as_15; rw [Int32.lt_iff_toInt_lt] at e1; have e2 := as_16; rw [Int32.lt_iff_toInt_lt] at e2; have e3 := as_17; rw [Int32.lt_iff_toInt_lt] at e3; have s0 := fb_mulI (x := (9 : Int32)) (y := (p_0)) (by (try rw [show (9 : Int32).toInt = 9 from (by decide +kernel)]); omega) (by (try rw [show (9 : Int32).toInt = 9 from (by decide +kernel)]); omega); rw [show (9 : Int32).toInt = 9 from (by decide +kernel)] at s0; have s1 := fb_addI (x := ((9 : Int32) * (p_0))) (y := (p_1)) (by omega) (by omega); have s2 := fb_subI (x := (((9 : Int32) * (p_0)) + (p_1))) (y := (10 : Int32)) (by omega) (by omega); rw [vp_in_iff]; omega) d_Md_lineOf_13 ?_
  exact W.iret (v := (g 34) ((((9 * p_0) + p_1) - 10)).toNatClampNeg) hx hb hr (fun t ht hW => ⟨(g 34) ((((9 * p_0) + p_1) - 10)).toNatClampNeg, rfl, rfl, ht⟩) t_nil d_Md_lineOf_14
def f_Md_isAsked_g (v : Nat → Int32) (g : Nat → Nat → Int32) (p_0 : Int32) (p_1 : Int32) (p_2 : Int32) : Int32 := if p_0 < 0 then (0) else (if ((v 21) - 1) < p_0 then (0) else (if (g 22) (p_0).toNatClampNeg = 0 then (if p_1 < 0 then (0) else (if 39 < p_1 then (0) else (if p_2 < 0 then (0) else (if ((v 2) - 1) < p_2 then (0) else (if p_2 = (g 19) (p_0).toNatClampNeg then (0) else (1)))))) else (0)))
set_option maxHeartbeats 4000000 in
set_option maxRecDepth 100000 in
theorem c_Md_isAsked_g (l : Launch) (dC : Nat → ClassId) (dI : Nat → Nat → Nat) (a : Nat → Nat) (k : Nat → ClassId) (v : Nat → Int32) (w : Nat → Int64) (g : Nat → Nat → Int32) (gl : Nat → Int64)  (p_0 : Int32) (p_1 : Int32) (p_2 : Int32) (as_0 : ¬ ((v 1) < 0)) (as_1 : ¬ (359999 < (v 1))) (as_2 : ¬ ((v 2) < 0)) (as_3 : ¬ (12 < (v 2))) (as_4 : ¬ ((v 21) < 0)) (as_5 : ¬ (20 < (v 21))) (as_6 : ¬ ((v 28) < 0)) (as_7 : ¬ (400 < (v 28))) (as_8 : ¬ ((v 29) < 0)) (as_9 : ¬ (20 < (v 29))) (as_10 : ¬ ((v 47) < 0)) (as_11 : ¬ (600 < (v 47))) (as_12 : ¬ ((v 60) < 0)) (as_13 : ¬ (30 < (v 60))) : Met l y_Md_isAsked (.code y_Md_isAsked b_Md_isAsked 4 (some .boolean) :: TB) ({ frames := 2, cells := 0, slots := 0, locals := 43 }) (va_Pc [.ref (a 0), .int p_0, .int p_1, .int p_2] (PR dC dI (MG a k v w g gl) (MT k))) (vp_Si (fun r => r = f_Md_isAsked_g v g p_0 p_1 p_2)) 0 0 (fun _ => False) := by
  refine Met.ofW (cc := b_Md_isAsked) (maxL := 4) (ret := (some .boolean)) (by decide) rfl ?_
  intro p e s m args below meth c s₁ B hml hv
  obtain ⟨rfl, hP, hK, hN⟩ := hv
  have hx := B.exec
  have hb := B.bytes
  have hr := B.returns
  have hts := atoms_spec (ws := (.code y_Md_isAsked b_Md_isAsked 4 (some .boolean) :: TB)) B.pre
  have htb := fun w (h : w ∈ TB) => hts w (List.mem_cons_of_mem _ h)
  have hown : s.vm.findClass R_Md = some m.cls := findClass_of_methodNamed B.named
  have hlocks := B.notSynchronized
  have hl := lv_entry ([.ref (a 0), .int p_0, .int p_1, .int p_2]) (n := 4) (Nat.le_of_ble_eq_true rfl)
  rw [lg_entry_eq]
  generalize (lg_sl ([.ref (a 0), .int p_0, .int p_1, .int p_2]) ++ List.replicate (4 - (lg_sl ([.ref (a 0), .int p_0, .int p_1, .int p_2])).length) Slot.unset).toArray = ls at hl ⊢
  have hl : lv_has ls 4 [(0, .ref (a 0)), (1, .int p_0), (2, .int p_1), (3, .int p_2)] := hl
  refine lv_aload_n hx hb d_Md_isAsked_0 rfl (lv_at hl 0 rfl) ?_
  refine lv_iload_n hx hb d_Md_isAsked_1 rfl (lv_at hl 1 rfl) ?_
  refine vp_callSi (va_Run.run (va_runV (As := [.int p_0]) (rest := []) ⟨hx, hb, hml, hown, htb⟩ (c_Md_isBoat_g l dC dI a k v w g gl p_0 as_0 as_1 as_2 as_3 as_4 as_5 as_6 as_7 as_8 as_9 as_10 as_11 as_12 as_13) (cwV 1 htb (gd_V tw_48 tw_49 tw_50 tw_3 tw_47) rfl rfl rfl (by decide +kernel) ⟨Nat.le_of_ble_eq_true rfl, Nat.le_of_ble_eq_true rfl⟩) ⟨pr_blind, va_recv hK hP (ci := 7) (q0 := 0) rfl rfl, pr_pre hP hK hN⟩ rfl rfl hl.1 rfl (lv_room (Nat.le_of_ble_eq_true rfl)) d_Md_isAsked_2 ⟨Nat.le_of_ble_eq_true rfl, Nat.le_of_ble_eq_true rfl⟩)) (fun r er => ?_)
  subst er
  by_cases c_1 : p_0 < 0
  · refine hb_ti 0 (by unfold f_Md_isBoat_g; rw [if_pos c_1]; first | done | rfl) ?_
    refine lv_if_eq (tgt := 46) hx hb d_Md_isAsked_5 (by decide) (fun _ => ?_) (fun h => absurd (by decide +kernel) h)
    refine lv_iconst (v := 0) hx hb d_Md_isAsked_46 (by decide +kernel) ?_
    exact W.zret (v := 0) hx hb hr (by decide +kernel) (fun t ht hW => ⟨0, rfl, (by unfold f_Md_isAsked_g; rw [if_pos c_1]), ht⟩) t_nil d_Md_isAsked_47
  · by_cases c_2 : ((v 21) - 1) < p_0
    · refine hb_ti 0 (by unfold f_Md_isBoat_g; rw [if_neg c_1, if_pos c_2]; first | done | rfl) ?_
      refine lv_if_eq (tgt := 46) hx hb d_Md_isAsked_5 (by decide) (fun _ => ?_) (fun h => absurd (by decide +kernel) h)
      refine lv_iconst (v := 0) hx hb d_Md_isAsked_46 (by decide +kernel) ?_
      exact W.zret (v := 0) hx hb hr (by decide +kernel) (fun t ht hW => ⟨0, rfl, (by unfold f_Md_isAsked_g; rw [if_neg c_1, if_pos c_2]), ht⟩) t_nil d_Md_isAsked_47
    · refine hb_ti 1 (by unfold f_Md_isBoat_g; rw [if_neg c_1, if_neg c_2]; first | done | rfl) ?_
      refine lv_if_eq (tgt := 46) hx hb d_Md_isAsked_5 (by decide) (fun h => absurd h (by decide +kernel)) (fun _ => ?_)
      refine lv_aload_n hx hb d_Md_isAsked_8 rfl (lv_at hl 0 rfl) ?_
      refine va_get (D := (dC, dI)) (ci := 7) (v := .ref (a 22)) (C := R_Md) (T := F_Md) (N := 64) hx hb htb i_Md hown hK hP 0 rfl rfl 26 (by decide) (htb (.fieldLink R_Md 106 "WaterMenModel" "sunk" "[Z") tw_65) (fun _ h9 => h9) rfl d_Md_isAsked_9 ?_
      refine lv_iload_n hx hb d_Md_isAsked_12 rfl (lv_at hl 1 rfl) ?_
      refine va_zald hx hb hK hP 22 21 rfl rfl (by have z0 : (0 : Int32).toInt = 0 := (by decide +kernel); have z1 : (1 : Int32).toInt = 1 := (by decide +kernel); have z2 : (20 : Int32).toInt = 20 := (by decide +kernel); have r0 := fb_rng (p_0); have r1 := fb_rng (v 21); have e0 := c_1; rw [Int32.lt_iff_toInt_lt] at e0; have e1 := as_4; rw [Int32.lt_iff_toInt_lt] at e1; have e2 := as_5; rw [Int32.lt_iff_toInt_lt] at e2; have s0 := fb_subI (x := (v 21)) (y := (1 : Int32)) (by omega) (by omega); have e3 := c_2; rw [Int32.lt_iff_toInt_lt] at e3; rw [vp_in_iff]; omega) d_Md_isAsked_13 ?_
      refine lv_if_ne (tgt := 46) hx hb d_Md_isAsked_14 (by decide) (fun c_3 => ?_) (fun c_3 => ?_)
      · refine lv_iconst (v := 0) hx hb d_Md_isAsked_46 (by decide +kernel) ?_
        exact W.zret (v := 0) hx hb hr (by decide +kernel) (fun t ht hW => ⟨0, rfl, (by unfold f_Md_isAsked_g; rw [if_neg c_1, if_neg c_2, if_neg c_3]), ht⟩) t_nil d_Md_isAsked_47
      · refine lv_iload_n hx hb d_Md_isAsked_17 rfl (lv_at hl 2 rfl) ?_
        refine vp_callSi (va_Run.run (va_runS (As := [.int p_1]) (rest := []) ⟨hx, hb, hml, hown, htb⟩ (c_Md_isMan l p_1) (cwS 1 htb (gd_S tw_28 tw_29 tw_3 tw_27) rfl rfl rfl (by decide +kernel) ⟨Nat.le_of_ble_eq_true rfl, Nat.le_of_ble_eq_true rfl⟩) ⟨fun _ _ _ _ h => h, fun U _ _ => ⟨rfl, trivial⟩⟩ rfl rfl hl.1 rfl (lv_room (Nat.le_of_ble_eq_true rfl)) d_Md_isAsked_18 ⟨Nat.le_of_ble_eq_true rfl, Nat.le_of_ble_eq_true rfl⟩)) (fun r er => ?_)
        subst er
        by_cases c_4 : p_1 < 0
        · refine hb_ti 0 (by unfold f_Md_isMan; rw [if_pos c_4]; first | done | rfl) ?_
          refine lv_if_eq (tgt := 46) hx hb d_Md_isAsked_21 (by decide) (fun _ => ?_) (fun h => absurd (by decide +kernel) h)
          refine lv_iconst (v := 0) hx hb d_Md_isAsked_46 (by decide +kernel) ?_
          exact W.zret (v := 0) hx hb hr (by decide +kernel) (fun t ht hW => ⟨0, rfl, (by unfold f_Md_isAsked_g; rw [if_neg c_1, if_neg c_2, if_pos c_3, if_pos c_4]), ht⟩) t_nil d_Md_isAsked_47
        · by_cases c_5 : 39 < p_1
          · refine hb_ti 0 (by unfold f_Md_isMan; rw [if_neg c_4, if_pos c_5]; first | done | rfl) ?_
            refine lv_if_eq (tgt := 46) hx hb d_Md_isAsked_21 (by decide) (fun _ => ?_) (fun h => absurd (by decide +kernel) h)
            refine lv_iconst (v := 0) hx hb d_Md_isAsked_46 (by decide +kernel) ?_
            exact W.zret (v := 0) hx hb hr (by decide +kernel) (fun t ht hW => ⟨0, rfl, (by unfold f_Md_isAsked_g; rw [if_neg c_1, if_neg c_2, if_pos c_3, if_neg c_4, if_pos c_5]), ht⟩) t_nil d_Md_isAsked_47
          · refine hb_ti 1 (by unfold f_Md_isMan; rw [if_neg c_4, if_neg c_5]; first | done | rfl) ?_
            refine lv_if_eq (tgt := 46) hx hb d_Md_isAsked_21 (by decide) (fun h => absurd h (by decide +kernel)) (fun _ => ?_)
            refine lv_aload_n hx hb d_Md_isAsked_24 rfl (lv_at hl 0 rfl) ?_
            refine lv_iload_n hx hb d_Md_isAsked_25 rfl (lv_at hl 3 rfl) ?_
            refine vp_callSi (va_Run.run (va_runV (As := [.int p_2]) (rest := []) ⟨hx, hb, hml, hown, htb⟩ (c_Md_isStairs_g l dC dI a k v w g gl p_2 as_0 as_1 as_2 as_3 as_4 as_5 as_6 as_7 as_8 as_9 as_10 as_11 as_12 as_13) (cwV 1 htb (gd_V tw_38 tw_39 tw_40 tw_3 tw_37) rfl rfl rfl (by decide +kernel) ⟨Nat.le_of_ble_eq_true rfl, Nat.le_of_ble_eq_true rfl⟩) ⟨pr_blind, va_recv hK hP (ci := 7) (q0 := 0) rfl rfl, pr_pre hP hK hN⟩ rfl rfl hl.1 rfl (lv_room (Nat.le_of_ble_eq_true rfl)) d_Md_isAsked_26 ⟨Nat.le_of_ble_eq_true rfl, Nat.le_of_ble_eq_true rfl⟩)) (fun r er => ?_)
            subst er
            by_cases c_6 : p_2 < 0
            · refine hb_ti 0 (by unfold f_Md_isStairs_g; rw [if_pos c_6]; first | done | rfl) ?_
              refine lv_if_eq (tgt := 46) hx hb d_Md_isAsked_29 (by decide) (fun _ => ?_) (fun h => absurd (by decide +kernel) h)
              refine lv_iconst (v := 0) hx hb d_Md_isAsked_46 (by decide +kernel) ?_
              exact W.zret (v := 0) hx hb hr (by decide +kernel) (fun t ht hW => ⟨0, rfl, (by unfold f_Md_isAsked_g; rw [if_neg c_1, if_neg c_2, if_pos c_3, if_neg c_4, if_neg c_5, if_pos c_6]), ht⟩) t_nil d_Md_isAsked_47
            · by_cases c_7 : ((v 2) - 1) < p_2
              · refine hb_ti 0 (by unfold f_Md_isStairs_g; rw [if_neg c_6, if_pos c_7]; first | done | rfl) ?_
                refine lv_if_eq (tgt := 46) hx hb d_Md_isAsked_29 (by decide) (fun _ => ?_) (fun h => absurd (by decide +kernel) h)
                refine lv_iconst (v := 0) hx hb d_Md_isAsked_46 (by decide +kernel) ?_
                exact W.zret (v := 0) hx hb hr (by decide +kernel) (fun t ht hW => ⟨0, rfl, (by unfold f_Md_isAsked_g; rw [if_neg c_1, if_neg c_2, if_pos c_3, if_neg c_4, if_neg c_5, if_neg c_6, if_pos c_7]), ht⟩) t_nil d_Md_isAsked_47
              · refine hb_ti 1 (by unfold f_Md_isStairs_g; rw [if_neg c_6, if_neg c_7]; first | done | rfl) ?_
                refine lv_if_eq (tgt := 46) hx hb d_Md_isAsked_29 (by decide) (fun h => absurd h (by decide +kernel)) (fun _ => ?_)
                refine lv_iload_n hx hb d_Md_isAsked_32 rfl (lv_at hl 3 rfl) ?_
                refine lv_aload_n hx hb d_Md_isAsked_33 rfl (lv_at hl 0 rfl) ?_
                refine va_get (D := (dC, dI)) (ci := 7) (v := .ref (a 19)) (C := R_Md) (T := F_Md) (N := 64) hx hb htb i_Md hown hK hP 0 rfl rfl 23 (by decide) (htb (.fieldLink R_Md 97 "WaterMenModel" "boatAt" "[I") tw_44) (fun _ h9 => h9) rfl d_Md_isAsked_34 ?_
                refine lv_iload_n hx hb d_Md_isAsked_37 rfl (lv_at hl 1 rfl) ?_
                refine va_iald hx hb hK hP 19 18 rfl rfl (by have z0 : (0 : Int32).toInt = 0 := (by decide +kernel); have z1 : (1 : Int32).toInt = 1 := (by decide +kernel); have z2 : (20 : Int32).toInt = 20 := (by decide +kernel); have r0 := fb_rng (p_0); have r1 := fb_rng (v 21); have e0 := c_1; rw [Int32.lt_iff_toInt_lt] at e0; have e1 := as_4; rw [Int32.lt_iff_toInt_lt] at e1; have e2 := as_5; rw [Int32.lt_iff_toInt_lt] at e2; have s0 := fb_subI (x := (v 21)) (y := (1 : Int32)) (by omega) (by omega); have e3 := c_2; rw [Int32.lt_iff_toInt_lt] at e3; rw [vp_in_iff]; omega) d_Md_isAsked_38 ?_
                refine lv_icmp_eq (tgt := 46) hx hb d_Md_isAsked_39 (by decide) (fun c_8 => ?_) (fun c_8 => ?_)
                · refine lv_iconst (v := 0) hx hb d_Md_isAsked_46 (by decide +kernel) ?_
                  exact W.zret (v := 0) hx hb hr (by decide +kernel) (fun t ht hW => ⟨0, rfl, (by unfold f_Md_isAsked_g; rw [if_neg c_1, if_neg c_2, if_pos c_3, if_neg c_4, if_neg c_5, if_neg c_6, if_neg c_7, if_pos c_8]), ht⟩) t_nil d_Md_isAsked_47
                · refine lv_iconst (v := 1) hx hb d_Md_isAsked_42 (by decide +kernel) ?_
                  refine lv_goto (tgt := 47) hx hb d_Md_isAsked_43 (by decide) ?_
                  exact W.zret (v := 1) hx hb hr (by decide +kernel) (fun t ht hW => ⟨1, rfl, (by unfold f_Md_isAsked_g; rw [if_neg c_1, if_neg c_2, if_pos c_3, if_neg c_4, if_neg c_5, if_neg c_6, if_neg c_7, if_neg c_8]), ht⟩) t_nil d_Md_isAsked_47
def f_Md_isPension  (p_0 : Int32) (p_1 : Int32) : Int32 := if p_0 < 1 then (0) else (if 10000 < p_0 then (0) else (if p_1 < 0 then (0) else (if 9999 < p_1 then (0) else (1))))
set_option maxHeartbeats 4000000 in
set_option maxRecDepth 100000 in
theorem c_Md_isPension (l : Launch)  (p_0 : Int32) (p_1 : Int32)  : Met l y_Md_isPension (.code y_Md_isPension b_Md_isPension 2 (some .boolean) :: TB) ({ frames := 1, cells := 0, slots := 0, locals := 22 }) (va_Pc [.int p_0, .int p_1] (fun _ => True)) (vp_Si (fun r => r = f_Md_isPension p_0 p_1)) 0 0 (fun _ => False) := by
  refine Met.ofW (cc := b_Md_isPension) (maxL := 2) (ret := (some .boolean)) (by decide) rfl ?_
  intro p e s m args below meth c s₁ B hml hv
  obtain ⟨rfl, -⟩ := hv
  have hx := B.exec
  have hb := B.bytes
  have hr := B.returns
  have hts := atoms_spec (ws := (.code y_Md_isPension b_Md_isPension 2 (some .boolean) :: TB)) B.pre
  have htb := fun w (h : w ∈ TB) => hts w (List.mem_cons_of_mem _ h)
  have hown : s.vm.findClass R_Md = some m.cls := findClass_of_methodNamed B.named
  have hlocks := B.notSynchronized
  have hl := lv_entry ([.int p_0, .int p_1]) (n := 2) (Nat.le_of_ble_eq_true rfl)
  rw [lg_entry_eq]
  generalize (lg_sl ([.int p_0, .int p_1]) ++ List.replicate (2 - (lg_sl ([.int p_0, .int p_1])).length) Slot.unset).toArray = ls at hl ⊢
  have hl : lv_has ls 2 [(0, .int p_0), (1, .int p_1)] := hl
  refine lv_iload_n hx hb d_Md_isPension_0 rfl (lv_at hl 0 rfl) ?_
  refine lv_iconst (v := 1) hx hb d_Md_isPension_1 (by decide +kernel) ?_
  refine lv_sipush (v := 10000) hx hb d_Md_isPension_2 (by decide +kernel) ?_
  refine vp_callSi (va_Run.run (va_runS (As := [.int p_0, .int 1, .int 10000]) (rest := []) ⟨hx, hb, hml, hown, htb⟩ (c_Md_in l p_0 1 10000) (cwS 3 htb (gd_S tw_4 tw_5 tw_3 tw_2) rfl rfl rfl (by decide +kernel) ⟨Nat.le_of_ble_eq_true rfl, Nat.le_of_ble_eq_true rfl⟩) ⟨fun _ _ _ _ h => h, fun U _ _ => ⟨rfl, trivial⟩⟩ rfl rfl hl.1 rfl (lv_room (Nat.le_of_ble_eq_true rfl)) d_Md_isPension_5 ⟨Nat.le_of_ble_eq_true rfl, Nat.le_of_ble_eq_true rfl⟩)) (fun r er => ?_)
  subst er
  by_cases c_1 : p_0 < 1
  · refine hb_ti 0 (by unfold f_Md_in; rw [if_pos c_1]) ?_
    refine lv_if_eq (tgt := 26) hx hb d_Md_isPension_8 (by decide) (fun _ => ?_) (fun h => absurd (by decide +kernel) h)
    refine lv_iconst (v := 0) hx hb d_Md_isPension_26 (by decide +kernel) ?_
    exact W.zret (v := 0) hx hb hr (by decide +kernel) (fun t ht hW => ⟨0, rfl, (by unfold f_Md_isPension; rw [if_pos c_1]), ht⟩) t_nil d_Md_isPension_27
  · by_cases c_2 : 10000 < p_0
    · refine hb_ti 0 (by unfold f_Md_in; rw [if_neg c_1, if_pos c_2]) ?_
      refine lv_if_eq (tgt := 26) hx hb d_Md_isPension_8 (by decide) (fun _ => ?_) (fun h => absurd (by decide +kernel) h)
      refine lv_iconst (v := 0) hx hb d_Md_isPension_26 (by decide +kernel) ?_
      exact W.zret (v := 0) hx hb hr (by decide +kernel) (fun t ht hW => ⟨0, rfl, (by unfold f_Md_isPension; rw [if_neg c_1, if_pos c_2]), ht⟩) t_nil d_Md_isPension_27
    · refine hb_ti 1 (by unfold f_Md_in; rw [if_neg c_1, if_neg c_2]) ?_
      refine lv_if_eq (tgt := 26) hx hb d_Md_isPension_8 (by decide) (fun h => absurd h (by decide +kernel)) (fun _ => ?_)
      refine lv_iload_n hx hb d_Md_isPension_11 rfl (lv_at hl 1 rfl) ?_
      refine lv_iconst (v := 0) hx hb d_Md_isPension_12 (by decide +kernel) ?_
      refine lv_sipush (v := 9999) hx hb d_Md_isPension_13 (by decide +kernel) ?_
      refine vp_callSi (va_Run.run (va_runS (As := [.int p_1, .int 0, .int 9999]) (rest := []) ⟨hx, hb, hml, hown, htb⟩ (c_Md_in l p_1 0 9999) (cwS 3 htb (gd_S tw_4 tw_5 tw_3 tw_2) rfl rfl rfl (by decide +kernel) ⟨Nat.le_of_ble_eq_true rfl, Nat.le_of_ble_eq_true rfl⟩) ⟨fun _ _ _ _ h => h, fun U _ _ => ⟨rfl, trivial⟩⟩ rfl rfl hl.1 rfl (lv_room (Nat.le_of_ble_eq_true rfl)) d_Md_isPension_16 ⟨Nat.le_of_ble_eq_true rfl, Nat.le_of_ble_eq_true rfl⟩)) (fun r er => ?_)
      subst er
      by_cases c_3 : p_1 < 0
      · refine hb_ti 0 (by unfold f_Md_in; rw [if_pos c_3]) ?_
        refine lv_if_eq (tgt := 26) hx hb d_Md_isPension_19 (by decide) (fun _ => ?_) (fun h => absurd (by decide +kernel) h)
        refine lv_iconst (v := 0) hx hb d_Md_isPension_26 (by decide +kernel) ?_
        exact W.zret (v := 0) hx hb hr (by decide +kernel) (fun t ht hW => ⟨0, rfl, (by unfold f_Md_isPension; rw [if_neg c_1, if_neg c_2, if_pos c_3]), ht⟩) t_nil d_Md_isPension_27
      · by_cases c_4 : 9999 < p_1
        · refine hb_ti 0 (by unfold f_Md_in; rw [if_neg c_3, if_pos c_4]) ?_
          refine lv_if_eq (tgt := 26) hx hb d_Md_isPension_19 (by decide) (fun _ => ?_) (fun h => absurd (by decide +kernel) h)
          refine lv_iconst (v := 0) hx hb d_Md_isPension_26 (by decide +kernel) ?_
          exact W.zret (v := 0) hx hb hr (by decide +kernel) (fun t ht hW => ⟨0, rfl, (by unfold f_Md_isPension; rw [if_neg c_1, if_neg c_2, if_neg c_3, if_pos c_4]), ht⟩) t_nil d_Md_isPension_27
        · refine hb_ti 1 (by unfold f_Md_in; rw [if_neg c_3, if_neg c_4]) ?_
          refine lv_if_eq (tgt := 26) hx hb d_Md_isPension_19 (by decide) (fun h => absurd h (by decide +kernel)) (fun _ => ?_)
          refine lv_iconst (v := 1) hx hb d_Md_isPension_22 (by decide +kernel) ?_
          refine lv_goto (tgt := 27) hx hb d_Md_isPension_23 (by decide) ?_
          exact W.zret (v := 1) hx hb hr (by decide +kernel) (fun t ht hW => ⟨1, rfl, (by unfold f_Md_isPension; rw [if_neg c_1, if_neg c_2, if_neg c_3, if_neg c_4]), ht⟩) t_nil d_Md_isPension_27
def f_Md_trip_g (v : Nat → Int32) (g : Nat → Nat → Int32) (p_0 : Int32) (p_1 : Int32) : Int32 := if p_0 < 0 then ((-2)) else (if ((v 47) - 1) < p_0 then ((-2)) else (if p_1 = 0 then ((g 36) (p_0).toNatClampNeg) else (if p_1 = 1 then ((g 37) (p_0).toNatClampNeg) else (if p_1 = 2 then ((g 38) (p_0).toNatClampNeg) else (if p_1 = 3 then ((g 39) (p_0).toNatClampNeg) else (if p_1 = 4 then ((g 40) (p_0).toNatClampNeg) else (if p_1 = 5 then ((g 41) (p_0).toNatClampNeg) else (if p_1 = 6 then ((g 42) (p_0).toNatClampNeg) else (if p_1 = 7 then (if (g 43) (p_0).toNatClampNeg = 0 then (0) else (1)) else ((-2)))))))))))
set_option maxHeartbeats 4000000 in
set_option maxRecDepth 100000 in
theorem c_Md_trip_g (l : Launch) (dC : Nat → ClassId) (dI : Nat → Nat → Nat) (a : Nat → Nat) (k : Nat → ClassId) (v : Nat → Int32) (w : Nat → Int64) (g : Nat → Nat → Int32) (gl : Nat → Int64)  (p_0 : Int32) (p_1 : Int32) (as_0 : ¬ ((v 1) < 0)) (as_1 : ¬ (359999 < (v 1))) (as_2 : ¬ ((v 2) < 0)) (as_3 : ¬ (12 < (v 2))) (as_4 : ¬ ((v 21) < 0)) (as_5 : ¬ (20 < (v 21))) (as_6 : ¬ ((v 28) < 0)) (as_7 : ¬ (400 < (v 28))) (as_8 : ¬ ((v 29) < 0)) (as_9 : ¬ (20 < (v 29))) (as_10 : ¬ ((v 47) < 0)) (as_11 : ¬ (600 < (v 47))) (as_12 : ¬ ((v 60) < 0)) (as_13 : ¬ (30 < (v 60))) : Met l y_Md_trip (.code y_Md_trip b_Md_trip 3 (some .int) :: TB) ({ frames := 1, cells := 0, slots := 0, locals := 22 }) (va_Pc [.ref (a 0), .int p_0, .int p_1] (PR dC dI (MG a k v w g gl) (MT k))) (vp_Si (fun r => r = f_Md_trip_g v g p_0 p_1)) 0 0 (fun _ => False) := by
  refine Met.ofW (cc := b_Md_trip) (maxL := 3) (ret := (some .int)) (by decide) rfl ?_
  intro p e s m args below meth c s₁ B hml hv
  obtain ⟨rfl, hP, hK, hN⟩ := hv
  have hx := B.exec
  have hb := B.bytes
  have hr := B.returns
  have hts := atoms_spec (ws := (.code y_Md_trip b_Md_trip 3 (some .int) :: TB)) B.pre
  have htb := fun w (h : w ∈ TB) => hts w (List.mem_cons_of_mem _ h)
  have hown : s.vm.findClass R_Md = some m.cls := findClass_of_methodNamed B.named
  have hlocks := B.notSynchronized
  have hl := lv_entry ([.ref (a 0), .int p_0, .int p_1]) (n := 3) (Nat.le_of_ble_eq_true rfl)
  rw [lg_entry_eq]
  generalize (lg_sl ([.ref (a 0), .int p_0, .int p_1]) ++ List.replicate (3 - (lg_sl ([.ref (a 0), .int p_0, .int p_1])).length) Slot.unset).toArray = ls at hl ⊢
  have hl : lv_has ls 3 [(0, .ref (a 0)), (1, .int p_0), (2, .int p_1)] := hl
  refine lv_iload_n hx hb d_Md_trip_0 rfl (lv_at hl 1 rfl) ?_
  refine lv_iconst (v := 0) hx hb d_Md_trip_1 (by decide +kernel) ?_
  refine lv_aload_n hx hb d_Md_trip_2 rfl (lv_at hl 0 rfl) ?_
  refine va_get (D := (dC, dI)) (ci := 7) (v := .int (v 47)) (C := R_Md) (T := F_Md) (N := 64) hx hb htb i_Md hown hK hP 0 rfl rfl 47 (by decide) (htb (.fieldLink R_Md 313 "WaterMenModel" "trips" "I") tw_84) (fun _ h9 => h9) rfl d_Md_trip_3 ?_
  refine lv_iconst (v := 1) hx hb d_Md_trip_6 (by decide +kernel) ?_
  refine lv_isub hx hb d_Md_trip_7 ?_
  refine vp_callSi (va_Run.run (va_runS (As := [.int p_0, .int 0, .int ((v 47) - 1)]) (rest := []) ⟨hx, hb, hml, hown, htb⟩ (c_Md_in l p_0 0 ((v 47) - 1)) (cwS 3 htb (gd_S tw_4 tw_5 tw_3 tw_2) rfl rfl rfl (by decide +kernel) ⟨Nat.le_of_ble_eq_true rfl, Nat.le_of_ble_eq_true rfl⟩) ⟨fun _ _ _ _ h => h, fun U _ _ => ⟨rfl, trivial⟩⟩ rfl rfl hl.1 rfl (lv_room (Nat.le_of_ble_eq_true rfl)) d_Md_trip_8 ⟨Nat.le_of_ble_eq_true rfl, Nat.le_of_ble_eq_true rfl⟩)) (fun r er => ?_)
  subst er
  by_cases c_1 : p_0 < 0
  · refine hb_ti 0 (by unfold f_Md_in; rw [if_pos c_1]; first | done | rfl) ?_
    refine lv_if_ne (tgt := 17) hx hb d_Md_trip_11 (by decide) (fun h => absurd (by decide +kernel) h) (fun _ => ?_)
    refine lv_bipush (v := (-2)) hx hb d_Md_trip_14 (by decide +kernel) ?_
    exact W.iret (v := (-2)) hx hb hr (fun t ht hW => ⟨(-2), rfl, (by unfold f_Md_trip_g; rw [if_pos c_1]), ht⟩) t_nil d_Md_trip_16
  · by_cases c_2 : ((v 47) - 1) < p_0
    · refine hb_ti 0 (by unfold f_Md_in; rw [if_neg c_1, if_pos c_2]; first | done | rfl) ?_
      refine lv_if_ne (tgt := 17) hx hb d_Md_trip_11 (by decide) (fun h => absurd (by decide +kernel) h) (fun _ => ?_)
      refine lv_bipush (v := (-2)) hx hb d_Md_trip_14 (by decide +kernel) ?_
      exact W.iret (v := (-2)) hx hb hr (fun t ht hW => ⟨(-2), rfl, (by unfold f_Md_trip_g; rw [if_neg c_1, if_pos c_2]), ht⟩) t_nil d_Md_trip_16
    · refine hb_ti 1 (by unfold f_Md_in; rw [if_neg c_1, if_neg c_2]; first | done | rfl) ?_
      refine lv_if_ne (tgt := 17) hx hb d_Md_trip_11 (by decide) (fun _ => ?_) (fun h => absurd h (by decide +kernel))
      refine lv_iload_n hx hb d_Md_trip_17 rfl (lv_at hl 2 rfl) ?_
      by_cases c_3 : p_1 = 0
      · refine lv_tableIn (off := 46) (tgt := 64) hx hb d_Md_trip_18 (by rw [c_3]; decide +kernel) (by rw [c_3]; decide +kernel) (by rw [c_3]; decide +kernel) (by decide) ?_
        refine lv_aload_n hx hb d_Md_trip_64 rfl (lv_at hl 0 rfl) ?_
        refine va_get (D := (dC, dI)) (ci := 7) (v := .ref (a 36)) (C := R_Md) (T := F_Md) (N := 64) hx hb htb i_Md hown hK hP 0 rfl rfl 48 (by decide) (htb (.fieldLink R_Md 149 "WaterMenModel" "tripBoat" "[I") tw_85) (fun _ h9 => h9) rfl d_Md_trip_65 ?_
        refine lv_iload_n hx hb d_Md_trip_68 rfl (lv_at hl 1 rfl) ?_
        refine va_iald hx hb hK hP 36 35 rfl rfl (by have z0 : (0 : Int32).toInt = 0 := (by decide +kernel); have z1 : (1 : Int32).toInt = 1 := (by decide +kernel); have z2 : (600 : Int32).toInt = 600 := (by decide +kernel); have r0 := fb_rng (p_0); have r1 := fb_rng (v 47); have e0 := c_1; rw [Int32.lt_iff_toInt_lt] at e0; have e1 := as_10; rw [Int32.lt_iff_toInt_lt] at e1; have e2 := as_11; rw [Int32.lt_iff_toInt_lt] at e2; have s0 := fb_subI (x := (v 47)) (y := (1 : Int32)) (by omega) (by omega); have e3 := c_2; rw [Int32.lt_iff_toInt_lt] at e3; rw [vp_in_iff]; omega) d_Md_trip_69 ?_
        exact W.iret (v := (g 36) (p_0).toNatClampNeg) hx hb hr (fun t ht hW => ⟨(g 36) (p_0).toNatClampNeg, rfl, (by unfold f_Md_trip_g; rw [if_neg c_1, if_neg c_2, if_pos c_3]), ht⟩) t_nil d_Md_trip_70
      · by_cases c_4 : p_1 = 1
        · refine lv_tableIn (off := 53) (tgt := 71) hx hb d_Md_trip_18 (by rw [c_4]; decide +kernel) (by rw [c_4]; decide +kernel) (by rw [c_4]; decide +kernel) (by decide) ?_
          refine lv_aload_n hx hb d_Md_trip_71 rfl (lv_at hl 0 rfl) ?_
          refine va_get (D := (dC, dI)) (ci := 7) (v := .ref (a 37)) (C := R_Md) (T := F_Md) (N := 64) hx hb htb i_Md hown hK hP 0 rfl rfl 49 (by decide) (htb (.fieldLink R_Md 152 "WaterMenModel" "tripMan" "[I") tw_51) (fun _ h9 => h9) rfl d_Md_trip_72 ?_
          refine lv_iload_n hx hb d_Md_trip_75 rfl (lv_at hl 1 rfl) ?_
          refine va_iald hx hb hK hP 37 36 rfl rfl (by have z0 : (0 : Int32).toInt = 0 := (by decide +kernel); have z1 : (1 : Int32).toInt = 1 := (by decide +kernel); have z2 : (600 : Int32).toInt = 600 := (by decide +kernel); have r0 := fb_rng (p_0); have r1 := fb_rng (v 47); have e0 := c_1; rw [Int32.lt_iff_toInt_lt] at e0; have e1 := as_10; rw [Int32.lt_iff_toInt_lt] at e1; have e2 := as_11; rw [Int32.lt_iff_toInt_lt] at e2; have s0 := fb_subI (x := (v 47)) (y := (1 : Int32)) (by omega) (by omega); have e3 := c_2; rw [Int32.lt_iff_toInt_lt] at e3; rw [vp_in_iff]; omega) d_Md_trip_76 ?_
          exact W.iret (v := (g 37) (p_0).toNatClampNeg) hx hb hr (fun t ht hW => ⟨(g 37) (p_0).toNatClampNeg, rfl, (by unfold f_Md_trip_g; rw [if_neg c_1, if_neg c_2, if_neg c_3, if_pos c_4]), ht⟩) t_nil d_Md_trip_77
        · by_cases c_5 : p_1 = 2
          · refine lv_tableIn (off := 60) (tgt := 78) hx hb d_Md_trip_18 (by rw [c_5]; decide +kernel) (by rw [c_5]; decide +kernel) (by rw [c_5]; decide +kernel) (by decide) ?_
            refine lv_aload_n hx hb d_Md_trip_78 rfl (lv_at hl 0 rfl) ?_
            refine va_get (D := (dC, dI)) (ci := 7) (v := .ref (a 38)) (C := R_Md) (T := F_Md) (N := 64) hx hb htb i_Md hown hK hP 0 rfl rfl 50 (by decide) (htb (.fieldLink R_Md 155 "WaterMenModel" "tripFrom" "[I") tw_86) (fun _ h9 => h9) rfl d_Md_trip_79 ?_
            refine lv_iload_n hx hb d_Md_trip_82 rfl (lv_at hl 1 rfl) ?_
            refine va_iald hx hb hK hP 38 37 rfl rfl (by have z0 : (0 : Int32).toInt = 0 := (by decide +kernel); have z1 : (1 : Int32).toInt = 1 := (by decide +kernel); have z2 : (600 : Int32).toInt = 600 := (by decide +kernel); have r0 := fb_rng (p_0); have r1 := fb_rng (v 47); have e0 := c_1; rw [Int32.lt_iff_toInt_lt] at e0; have e1 := as_10; rw [Int32.lt_iff_toInt_lt] at e1; have e2 := as_11; rw [Int32.lt_iff_toInt_lt] at e2; have s0 := fb_subI (x := (v 47)) (y := (1 : Int32)) (by omega) (by omega); have e3 := c_2; rw [Int32.lt_iff_toInt_lt] at e3; rw [vp_in_iff]; omega) d_Md_trip_83 ?_
            exact W.iret (v := (g 38) (p_0).toNatClampNeg) hx hb hr (fun t ht hW => ⟨(g 38) (p_0).toNatClampNeg, rfl, (by unfold f_Md_trip_g; rw [if_neg c_1, if_neg c_2, if_neg c_3, if_neg c_4, if_pos c_5]), ht⟩) t_nil d_Md_trip_84
          · by_cases c_6 : p_1 = 3
            · refine lv_tableIn (off := 67) (tgt := 85) hx hb d_Md_trip_18 (by rw [c_6]; decide +kernel) (by rw [c_6]; decide +kernel) (by rw [c_6]; decide +kernel) (by decide) ?_
              refine lv_aload_n hx hb d_Md_trip_85 rfl (lv_at hl 0 rfl) ?_
              refine va_get (D := (dC, dI)) (ci := 7) (v := .ref (a 39)) (C := R_Md) (T := F_Md) (N := 64) hx hb htb i_Md hown hK hP 0 rfl rfl 51 (by decide) (htb (.fieldLink R_Md 158 "WaterMenModel" "tripTo" "[I") tw_87) (fun _ h9 => h9) rfl d_Md_trip_86 ?_
              refine lv_iload_n hx hb d_Md_trip_89 rfl (lv_at hl 1 rfl) ?_
              refine va_iald hx hb hK hP 39 38 rfl rfl (by have z0 : (0 : Int32).toInt = 0 := (by decide +kernel); have z1 : (1 : Int32).toInt = 1 := (by decide +kernel); have z2 : (600 : Int32).toInt = 600 := (by decide +kernel); have r0 := fb_rng (p_0); have r1 := fb_rng (v 47); have e0 := c_1; rw [Int32.lt_iff_toInt_lt] at e0; have e1 := as_10; rw [Int32.lt_iff_toInt_lt] at e1; have e2 := as_11; rw [Int32.lt_iff_toInt_lt] at e2; have s0 := fb_subI (x := (v 47)) (y := (1 : Int32)) (by omega) (by omega); have e3 := c_2; rw [Int32.lt_iff_toInt_lt] at e3; rw [vp_in_iff]; omega) d_Md_trip_90 ?_
              exact W.iret (v := (g 39) (p_0).toNatClampNeg) hx hb hr (fun t ht hW => ⟨(g 39) (p_0).toNatClampNeg, rfl, (by unfold f_Md_trip_g; rw [if_neg c_1, if_neg c_2, if_neg c_3, if_neg c_4, if_neg c_5, if_pos c_6]), ht⟩) t_nil d_Md_trip_91
            · by_cases c_7 : p_1 = 4
              · refine lv_tableIn (off := 74) (tgt := 92) hx hb d_Md_trip_18 (by rw [c_7]; decide +kernel) (by rw [c_7]; decide +kernel) (by rw [c_7]; decide +kernel) (by decide) ?_
                refine lv_aload_n hx hb d_Md_trip_92 rfl (lv_at hl 0 rfl) ?_
                refine va_get (D := (dC, dI)) (ci := 7) (v := .ref (a 40)) (C := R_Md) (T := F_Md) (N := 64) hx hb htb i_Md hown hK hP 0 rfl rfl 52 (by decide) (htb (.fieldLink R_Md 161 "WaterMenModel" "tripBegin" "[I") tw_88) (fun _ h9 => h9) rfl d_Md_trip_93 ?_
                refine lv_iload_n hx hb d_Md_trip_96 rfl (lv_at hl 1 rfl) ?_
                refine va_iald hx hb hK hP 40 39 rfl rfl (by have z0 : (0 : Int32).toInt = 0 := (by decide +kernel); have z1 : (1 : Int32).toInt = 1 := (by decide +kernel); have z2 : (600 : Int32).toInt = 600 := (by decide +kernel); have r0 := fb_rng (p_0); have r1 := fb_rng (v 47); have e0 := c_1; rw [Int32.lt_iff_toInt_lt] at e0; have e1 := as_10; rw [Int32.lt_iff_toInt_lt] at e1; have e2 := as_11; rw [Int32.lt_iff_toInt_lt] at e2; have s0 := fb_subI (x := (v 47)) (y := (1 : Int32)) (by omega) (by omega); have e3 := c_2; rw [Int32.lt_iff_toInt_lt] at e3; rw [vp_in_iff]; omega) d_Md_trip_97 ?_
                exact W.iret (v := (g 40) (p_0).toNatClampNeg) hx hb hr (fun t ht hW => ⟨(g 40) (p_0).toNatClampNeg, rfl, (by unfold f_Md_trip_g; rw [if_neg c_1, if_neg c_2, if_neg c_3, if_neg c_4, if_neg c_5, if_neg c_6, if_pos c_7]), ht⟩) t_nil d_Md_trip_98
              · by_cases c_8 : p_1 = 5
                · refine lv_tableIn (off := 81) (tgt := 99) hx hb d_Md_trip_18 (by rw [c_8]; decide +kernel) (by rw [c_8]; decide +kernel) (by rw [c_8]; decide +kernel) (by decide) ?_
                  refine lv_aload_n hx hb d_Md_trip_99 rfl (lv_at hl 0 rfl) ?_
                  refine va_get (D := (dC, dI)) (ci := 7) (v := .ref (a 41)) (C := R_Md) (T := F_Md) (N := 64) hx hb htb i_Md hown hK hP 0 rfl rfl 53 (by decide) (htb (.fieldLink R_Md 164 "WaterMenModel" "tripThere" "[I") tw_71) (fun _ h9 => h9) rfl d_Md_trip_100 ?_
                  refine lv_iload_n hx hb d_Md_trip_103 rfl (lv_at hl 1 rfl) ?_
                  refine va_iald hx hb hK hP 41 40 rfl rfl (by have z0 : (0 : Int32).toInt = 0 := (by decide +kernel); have z1 : (1 : Int32).toInt = 1 := (by decide +kernel); have z2 : (600 : Int32).toInt = 600 := (by decide +kernel); have r0 := fb_rng (p_0); have r1 := fb_rng (v 47); have e0 := c_1; rw [Int32.lt_iff_toInt_lt] at e0; have e1 := as_10; rw [Int32.lt_iff_toInt_lt] at e1; have e2 := as_11; rw [Int32.lt_iff_toInt_lt] at e2; have s0 := fb_subI (x := (v 47)) (y := (1 : Int32)) (by omega) (by omega); have e3 := c_2; rw [Int32.lt_iff_toInt_lt] at e3; rw [vp_in_iff]; omega) d_Md_trip_104 ?_
                  exact W.iret (v := (g 41) (p_0).toNatClampNeg) hx hb hr (fun t ht hW => ⟨(g 41) (p_0).toNatClampNeg, rfl, (by unfold f_Md_trip_g; rw [if_neg c_1, if_neg c_2, if_neg c_3, if_neg c_4, if_neg c_5, if_neg c_6, if_neg c_7, if_pos c_8]), ht⟩) t_nil d_Md_trip_105
                · by_cases c_9 : p_1 = 6
                  · refine lv_tableIn (off := 88) (tgt := 106) hx hb d_Md_trip_18 (by rw [c_9]; decide +kernel) (by rw [c_9]; decide +kernel) (by rw [c_9]; decide +kernel) (by decide) ?_
                    refine lv_aload_n hx hb d_Md_trip_106 rfl (lv_at hl 0 rfl) ?_
                    refine va_get (D := (dC, dI)) (ci := 7) (v := .ref (a 42)) (C := R_Md) (T := F_Md) (N := 64) hx hb htb i_Md hown hK hP 0 rfl rfl 54 (by decide) (htb (.fieldLink R_Md 167 "WaterMenModel" "tripPaid" "[I") tw_89) (fun _ h9 => h9) rfl d_Md_trip_107 ?_
                    refine lv_iload_n hx hb d_Md_trip_110 rfl (lv_at hl 1 rfl) ?_
                    refine va_iald hx hb hK hP 42 41 rfl rfl (by have z0 : (0 : Int32).toInt = 0 := (by decide +kernel); have z1 : (1 : Int32).toInt = 1 := (by decide +kernel); have z2 : (600 : Int32).toInt = 600 := (by decide +kernel); have r0 := fb_rng (p_0); have r1 := fb_rng (v 47); have e0 := c_1; rw [Int32.lt_iff_toInt_lt] at e0; have e1 := as_10; rw [Int32.lt_iff_toInt_lt] at e1; have e2 := as_11; rw [Int32.lt_iff_toInt_lt] at e2; have s0 := fb_subI (x := (v 47)) (y := (1 : Int32)) (by omega) (by omega); have e3 := c_2; rw [Int32.lt_iff_toInt_lt] at e3; rw [vp_in_iff]; omega) d_Md_trip_111 ?_
                    exact W.iret (v := (g 42) (p_0).toNatClampNeg) hx hb hr (fun t ht hW => ⟨(g 42) (p_0).toNatClampNeg, rfl, (by unfold f_Md_trip_g; rw [if_neg c_1, if_neg c_2, if_neg c_3, if_neg c_4, if_neg c_5, if_neg c_6, if_neg c_7, if_neg c_8, if_pos c_9]), ht⟩) t_nil d_Md_trip_112
                  · by_cases c_10 : p_1 = 7
                    · refine lv_tableIn (off := 95) (tgt := 113) hx hb d_Md_trip_18 (by rw [c_10]; decide +kernel) (by rw [c_10]; decide +kernel) (by rw [c_10]; decide +kernel) (by decide) ?_
                      refine lv_aload_n hx hb d_Md_trip_113 rfl (lv_at hl 0 rfl) ?_
                      refine va_get (D := (dC, dI)) (ci := 7) (v := .ref (a 43)) (C := R_Md) (T := F_Md) (N := 64) hx hb htb i_Md hown hK hP 0 rfl rfl 55 (by decide) (htb (.fieldLink R_Md 170 "WaterMenModel" "sank" "[Z") tw_83) (fun _ h9 => h9) rfl d_Md_trip_114 ?_
                      refine lv_iload_n hx hb d_Md_trip_117 rfl (lv_at hl 1 rfl) ?_
                      refine va_zald hx hb hK hP 43 42 rfl rfl (by have z0 : (0 : Int32).toInt = 0 := (by decide +kernel); have z1 : (1 : Int32).toInt = 1 := (by decide +kernel); have z2 : (600 : Int32).toInt = 600 := (by decide +kernel); have r0 := fb_rng (p_0); have r1 := fb_rng (v 47); have e0 := c_1; rw [Int32.lt_iff_toInt_lt] at e0; have e1 := as_10; rw [Int32.lt_iff_toInt_lt] at e1; have e2 := as_11; rw [Int32.lt_iff_toInt_lt] at e2; have s0 := fb_subI (x := (v 47)) (y := (1 : Int32)) (by omega) (by omega); have e3 := c_2; rw [Int32.lt_iff_toInt_lt] at e3; rw [vp_in_iff]; omega) d_Md_trip_118 ?_
                      refine lv_if_eq (tgt := 126) hx hb d_Md_trip_119 (by decide) (fun c_11 => ?_) (fun c_11 => ?_)
                      · refine lv_iconst (v := 0) hx hb d_Md_trip_126 (by decide +kernel) ?_
                        exact W.iret (v := 0) hx hb hr (fun t ht hW => ⟨0, rfl, (by unfold f_Md_trip_g; rw [if_neg c_1, if_neg c_2, if_neg c_3, if_neg c_4, if_neg c_5, if_neg c_6, if_neg c_7, if_neg c_8, if_neg c_9, if_pos c_10, if_pos c_11]), ht⟩) t_nil d_Md_trip_127
                      · refine lv_iconst (v := 1) hx hb d_Md_trip_122 (by decide +kernel) ?_
                        refine lv_goto (tgt := 127) hx hb d_Md_trip_123 (by decide) ?_
                        exact W.iret (v := 1) hx hb hr (fun t ht hW => ⟨1, rfl, (by unfold f_Md_trip_g; rw [if_neg c_1, if_neg c_2, if_neg c_3, if_neg c_4, if_neg c_5, if_neg c_6, if_neg c_7, if_neg c_8, if_neg c_9, if_pos c_10, if_neg c_11]), ht⟩) t_nil d_Md_trip_127
                    · refine lv_tableOut (tgt := 128) hx hb d_Md_trip_18 (by have h0 := lv_neT c_3 (show (0 : Int32).toInt = 0 by decide +kernel); have h1 := lv_neT c_4 (show (1 : Int32).toInt = 1 by decide +kernel); have h2 := lv_neT c_5 (show (2 : Int32).toInt = 2 by decide +kernel); have h3 := lv_neT c_6 (show (3 : Int32).toInt = 3 by decide +kernel); have h4 := lv_neT c_7 (show (4 : Int32).toInt = 4 by decide +kernel); have h5 := lv_neT c_8 (show (5 : Int32).toInt = 5 by decide +kernel); have h6 := lv_neT c_9 (show (6 : Int32).toInt = 6 by decide +kernel); have h7 := lv_neT c_10 (show (7 : Int32).toInt = 7 by decide +kernel); omega) (by decide) ?_
                      refine lv_bipush (v := (-2)) hx hb d_Md_trip_128 (by decide +kernel) ?_
                      exact W.iret (v := (-2)) hx hb hr (fun t ht hW => ⟨(-2), rfl, (by unfold f_Md_trip_g; rw [if_neg c_1, if_neg c_2, if_neg c_3, if_neg c_4, if_neg c_5, if_neg c_6, if_neg c_7, if_neg c_8, if_neg c_9, if_neg c_10]), ht⟩) t_nil d_Md_trip_130
def T_Md_newPensioner_g (v : Nat → Int32) (w : Nat → Int64) (g : Nat → Nat → Int32) (gl : Nat → Int64) (p_0 : Int32) (p_1 : Int32) : Int32 × MSt := ((((v 60) + 1) - 1), ((upd v 60 ((v 60) + 1)), w, (va_up (va_up g 45 (upd (g 45) ((v 60) : Int32).toNatClampNeg p_0)) 46 (upd (g 46) ((v 60) : Int32).toNatClampNeg p_1)), gl))
set_option maxHeartbeats 4000000 in
set_option maxRecDepth 100000 in
theorem c_Md_newPensioner_g (l : Launch) (dC : Nat → ClassId) (dI : Nat → Nat → Nat) (a : Nat → Nat) (k : Nat → ClassId) (v : Nat → Int32) (w : Nat → Int64) (g : Nat → Nat → Int32) (gl : Nat → Int64) (sz : Nat) (p_0 : Int32) (p_1 : Int32) (as_0 : ¬ ((v 1) < 0)) (as_1 : ¬ (359999 < (v 1))) (as_2 : ¬ ((v 2) < 0)) (as_3 : ¬ (12 < (v 2))) (as_4 : ¬ ((v 21) < 0)) (as_5 : ¬ (20 < (v 21))) (as_6 : ¬ ((v 28) < 0)) (as_7 : ¬ (400 < (v 28))) (as_8 : ¬ ((v 29) < 0)) (as_9 : ¬ (20 < (v 29))) (as_10 : ¬ ((v 47) < 0)) (as_11 : ¬ (600 < (v 47))) (as_12 : ¬ ((v 60) < 0)) (as_13 : ¬ (30 < (v 60))) (as_14 : ¬ ((v 60) = 30)) : Met l y_Md_newPensioner (.code y_Md_newPensioner b_Md_newPensioner 3 (some .int) :: TB) ({ frames := 0, cells := 0, slots := 0, locals := 0 }) (va_Pc [.ref (a 0), .int p_0, .int p_1] (PC dC dI (MG a k v w g gl) (MT k) sz)) (va_Qi (fun r (u : MSt) => (r, u) = T_Md_newPensioner_g v w g gl p_0 p_1) (fun u t => va_P (dC, dI) vwCl (MG a k u.1 u.2.1 u.2.2.1 u.2.2.2) t.heap ∧ va_K (dC, dI) vwCl (MT k) t ∧ va_D (va_A (MG a k v w g gl) sz) (MG a k u.1 u.2.1 u.2.2.1 u.2.2.2)) (va_A (MG a k v w g gl) sz)) 0 0 (va_A (MG a k v w g gl) sz) := by
  refine Met.ofW (cc := b_Md_newPensioner) (maxL := 3) (ret := (some .int)) (by decide) rfl ?_
  intro p e s m args below meth c s₁ B hml hv
  obtain ⟨rfl, hsz, hP, hK, hD0, hN⟩ := hv
  have hx := B.exec
  have hb := B.bytes
  have hr := B.returns
  have hts := atoms_spec (ws := (.code y_Md_newPensioner b_Md_newPensioner 3 (some .int) :: TB)) B.pre
  have htb := fun w (h : w ∈ TB) => hts w (List.mem_cons_of_mem _ h)
  have hown : s.vm.findClass R_Md = some m.cls := findClass_of_methodNamed B.named
  have hlocks := B.notSynchronized
  have hl := lv_entry ([.ref (a 0), .int p_0, .int p_1]) (n := 3) (Nat.le_of_ble_eq_true rfl)
  rw [lg_entry_eq]
  generalize (lg_sl ([.ref (a 0), .int p_0, .int p_1]) ++ List.replicate (3 - (lg_sl ([.ref (a 0), .int p_0, .int p_1])).length) Slot.unset).toArray = ls at hl ⊢
  have hl : lv_has ls 3 [(0, .ref (a 0)), (1, .int p_0), (2, .int p_1)] := hl
  subst hsz
  have hD := hD0.self (sz := s.heap.size)
  obtain ⟨A, hAe⟩ : ∃ A, va_A (MG a k v w g gl) s.heap.size = A := ⟨_, rfl⟩
  rw [hAe] at hD
  have hA : ∀ q : Nat, s.heap.size ≤ q → A q := fun q h => by rw [← hAe]; exact Or.inr h
  have hS : va_S A s.heap s.heap [] := va_S.rf
  refine lv_aload_n hx hb d_Md_newPensioner_0 rfl (lv_at hl 0 rfl) ?_
  refine va_get (D := (dC, dI)) (ci := 7) (v := .ref (a 45)) (C := R_Md) (T := F_Md) (N := 64) hx hb htb i_Md hown hK hP 0 rfl rfl 61 (by decide) (htb (.fieldLink R_Md 177 "WaterMenModel" "pensionOf" "[I") tw_78) (fun _ h9 => h9) rfl d_Md_newPensioner_1 ?_
  refine lv_aload_n hx hb d_Md_newPensioner_4 rfl (lv_at hl 0 rfl) ?_
  refine va_get (D := (dC, dI)) (ci := 7) (v := .int (v 60)) (C := R_Md) (T := F_Md) (N := 64) hx hb htb i_Md hown hK hP 0 rfl rfl 60 (by decide) (htb (.fieldLink R_Md 323 "WaterMenModel" "pensioners" "I") tw_76) (fun _ h9 => h9) rfl d_Md_newPensioner_5 ?_
  refine lv_iload_n hx hb d_Md_newPensioner_8 rfl (lv_at hl 1 rfl) ?_
  refine va_iast hx hb hK hP hD hS 45 44 rfl rfl (by have z0 : (0 : Int32).toInt = 0 := (by decide +kernel); have z1 : (30 : Int32).toInt = 30 := (by decide +kernel); have r0 := fb_rng (v 60); have e0 := as_12; rw [Int32.lt_iff_toInt_lt] at e0; have e1 := as_13; rw [Int32.lt_iff_toInt_lt] at e1; have e2 := as_14; rw [← Int32.toInt_inj] at e2; rw [vp_in_iff]; omega) d_Md_newPensioner_9 (fun H locs hP hD hS => ?_)
  have hP : va_P (dC, dI) vwCl (MG a k v w (va_up g 45 (upd (g 45) ((v 60) : Int32).toNatClampNeg p_0)) gl) H := hP
  have hD : va_D A (MG a k v w (va_up g 45 (upd (g 45) ((v 60) : Int32).toNatClampNeg p_0)) gl) := hD
  refine lv_aload_n hx hb d_Md_newPensioner_10 rfl (lv_at hl 0 rfl) ?_
  refine va_get (D := (dC, dI)) (ci := 7) (v := .ref (a 46)) (C := R_Md) (T := F_Md) (N := 64) hx hb htb i_Md hown hK hP 0 rfl rfl 62 (by decide) (htb (.fieldLink R_Md 180 "WaterMenModel" "pensionEnd" "[I") tw_77) (fun _ h9 => h9) rfl d_Md_newPensioner_11 ?_
  refine lv_aload_n hx hb d_Md_newPensioner_14 rfl (lv_at hl 0 rfl) ?_
  refine va_get (D := (dC, dI)) (ci := 7) (v := .int (v 60)) (C := R_Md) (T := F_Md) (N := 64) hx hb htb i_Md hown hK hP 0 rfl rfl 60 (by decide) (htb (.fieldLink R_Md 323 "WaterMenModel" "pensioners" "I") tw_76) (fun _ h9 => h9) rfl d_Md_newPensioner_15 ?_
  refine lv_iload_n hx hb d_Md_newPensioner_18 rfl (lv_at hl 2 rfl) ?_
  refine va_iast hx hb hK hP hD hS 46 45 rfl rfl (by have z0 : (0 : Int32).toInt = 0 := (by decide +kernel); have z1 : (30 : Int32).toInt = 30 := (by decide +kernel); have r0 := fb_rng (v 60); have e0 := as_12; rw [Int32.lt_iff_toInt_lt] at e0; have e1 := as_13; rw [Int32.lt_iff_toInt_lt] at e1; have e2 := as_14; rw [← Int32.toInt_inj] at e2; rw [vp_in_iff]; omega) d_Md_newPensioner_19 (fun H locs hP hD hS => ?_)
  have hP : va_P (dC, dI) vwCl (MG a k v w (va_up (va_up g 45 (upd (g 45) ((v 60) : Int32).toNatClampNeg p_0)) 46 (upd (g 46) ((v 60) : Int32).toNatClampNeg p_1)) gl) H := hP
  have hD : va_D A (MG a k v w (va_up (va_up g 45 (upd (g 45) ((v 60) : Int32).toNatClampNeg p_0)) 46 (upd (g 46) ((v 60) : Int32).toNatClampNeg p_1)) gl) := hD
  refine lv_aload_n hx hb d_Md_newPensioner_20 rfl (lv_at hl 0 rfl) ?_
  refine lv_dup hx hb d_Md_newPensioner_21 rfl ?_
  refine va_get (D := (dC, dI)) (ci := 7) (v := .int (v 60)) (C := R_Md) (T := F_Md) (N := 64) hx hb htb i_Md hown hK hP 0 rfl rfl 60 (by decide) (htb (.fieldLink R_Md 323 "WaterMenModel" "pensioners" "I") tw_76) (fun _ h9 => h9) rfl d_Md_newPensioner_22 ?_
  refine lv_iconst (v := 1) hx hb d_Md_newPensioner_25 (by decide +kernel) ?_
  refine lv_iadd hx hb d_Md_newPensioner_26 ?_
  refine va_put (D := (dC, dI)) (ci := 7) (v := .int ((v 60) + 1)) (ty := .int) (C := R_Md) (T := F_Md) (N := 64) hx hb htb i_Md t_Md t_Md_ok n_Md hown hK hP hD hS 0 rfl rfl 60 (by decide) (htb (.fieldLink R_Md 323 "WaterMenModel" "pensioners" "I") tw_76) (fun _ h9 => h9) rfl (by decide +kernel) rfl rfl (Nat.le_of_ble_eq_true rfl) d_Md_newPensioner_27 (fun H locs hP hD hS => ?_)
  have hP : va_P (dC, dI) vwCl (MG a k (upd v 60 ((v 60) + 1)) w (va_up (va_up g 45 (upd (g 45) ((v 60) : Int32).toNatClampNeg p_0)) 46 (upd (g 46) ((v 60) : Int32).toNatClampNeg p_1)) gl) H := hP
  have hD : va_D A (MG a k (upd v 60 ((v 60) + 1)) w (va_up (va_up g 45 (upd (g 45) ((v 60) : Int32).toNatClampNeg p_0)) 46 (upd (g 46) ((v 60) : Int32).toNatClampNeg p_1)) gl) := hD
  refine lv_aload_n hx hb d_Md_newPensioner_30 rfl (lv_at hl 0 rfl) ?_
  refine va_get (D := (dC, dI)) (ci := 7) (v := .int ((v 60) + 1)) (C := R_Md) (T := F_Md) (N := 64) hx hb htb i_Md hown hK hP 0 rfl rfl 60 (by decide) (htb (.fieldLink R_Md 323 "WaterMenModel" "pensioners" "I") tw_76) (fun _ h9 => h9) rfl d_Md_newPensioner_31 ?_
  refine lv_iconst (v := 1) hx hb d_Md_newPensioner_34 (by decide +kernel) ?_
  refine lv_isub hx hb d_Md_newPensioner_35 ?_
  exact W.iret (v := (((v 60) + 1) - 1)) hx hb hr (fun t ht hW => ⟨⟨(((v 60) + 1) - 1), ((upd v 60 ((v 60) + 1)), w, (va_up (va_up g 45 (upd (g 45) ((v 60) : Int32).toNatClampNeg p_0)) 46 (upd (g 46) ((v 60) : Int32).toNatClampNeg p_1)), gl), rfl, rfl, by rw [ht]; exact hP, va_K.moved hW.alike hK, by rw [hAe]; exact hD⟩, by rw [hAe]; exact hS.F ht⟩) (by rw [hAe]; exact hS.2.2) d_Md_newPensioner_36
