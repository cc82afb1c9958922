def T_Md_pension_g (v : Nat → Int32) (w : Nat → Int64) (g : Nat → Nat → Int32) (gl : Nat → Int64) (p_0 : Int32) (p_1 : Int32) : Int32 × MSt := if p_0 < 1 then (((-1), (v, w, g, gl))) else (if 10000 < p_0 then (((-1), (v, w, g, gl))) else (if p_1 < 0 then (((-1), (v, w, g, gl))) else (if 9999 < p_1 then (((-1), (v, w, g, gl))) else (if (v 60) = 30 then (((-3), (v, w, g, gl))) else (((((v 60) + 1) - 1), ((upd v 60 ((v 60) + 1)), w, (va_up (va_up g 45 (upd (g 45) ((v 60) : Int32).toNatClampNeg p_0)) 46 (upd (g 46) ((v 60) : Int32).toNatClampNeg p_1)), gl)))))))
set_option maxHeartbeats 4000000 in
set_option maxRecDepth 100000 in
theorem c_Md_pension_g (l : Launch) (dC : Nat → ClassId) (dI : Nat → Nat → Nat) (a : Nat → Nat) (k : Nat → ClassId) (v : Nat → Int32) (w : Nat → Int64) (g : Nat → Nat → Int32) (gl : Nat → Int64) (sz : Nat) (p_0 : Int32) (p_1 : Int32) (as_0 : ¬ ((v 1) < 0)) (as_1 : ¬ (359999 < (v 1))) (as_2 : ¬ ((v 2) < 0)) (as_3 : ¬ (12 < (v 2))) (as_4 : ¬ ((v 21) < 0)) (as_5 : ¬ (20 < (v 21))) (as_6 : ¬ ((v 28) < 0)) (as_7 : ¬ (400 < (v 28))) (as_8 : ¬ ((v 29) < 0)) (as_9 : ¬ (20 < (v 29))) (as_10 : ¬ ((v 47) < 0)) (as_11 : ¬ (600 < (v 47))) (as_12 : ¬ ((v 60) < 0)) (as_13 : ¬ (30 < (v 60))) : Met l y_Md_pension (.code y_Md_pension b_Md_pension 3 (some .int) :: TB) ({ frames := 2, cells := 0, slots := 0, locals := 43 }) (va_Pc [.ref (a 0), .int p_0, .int p_1] (PC dC dI (MG a k v w g gl) (MT k) sz)) (va_Qi (fun r (u : MSt) => (r, u) = T_Md_pension_g v w g gl p_0 p_1) (fun u t => va_P (dC, dI) vwCl (MG a k u.1 u.2.1 u.2.2.1 u.2.2.2) t.heap ∧ va_K (dC, dI) vwCl (MT k) t ∧ va_D (va_A (MG a k v w g gl) sz) (MG a k u.1 u.2.1 u.2.2.1 u.2.2.2)) (va_A (MG a k v w g gl) sz)) 0 0 (va_A (MG a k v w g gl) sz) := by
  refine Met.ofW (cc := b_Md_pension) (maxL := 3) (ret := (some .int)) (by decide) rfl ?_
  intro p e s m args below meth c s₁ B hml hv
  obtain ⟨rfl, hsz, hP, hK, hD0, hN⟩ := hv
  have hx := B.exec
  have hb := B.bytes
  have hr := B.returns
  have hts := atoms_spec (ws := (.code y_Md_pension b_Md_pension 3 (some .int) :: TB)) B.pre
  have htb := fun w (h : w ∈ TB) => hts w (List.mem_cons_of_mem _ h)
  have hown : s.vm.findClass R_Md = some m.cls := findClass_of_methodNamed B.named
  have hlocks := B.notSynchronized
  have hl := lv_entry ([.ref (a 0), .int p_0, .int p_1]) (n := 3) (Nat.le_of_ble_eq_true rfl)
  rw [lg_entry_eq]
  generalize (lg_sl ([.ref (a 0), .int p_0, .int p_1]) ++ List.replicate (3 - (lg_sl ([.ref (a 0), .int p_0, .int p_1])).length) Slot.unset).toArray = ls at hl ⊢
  have hl : lv_has ls 3 [(0, .ref (a 0)), (1, .int p_0), (2, .int p_1)] := hl
  subst hsz
  have hD := hD0.self (sz := s.heap.size)
  obtain ⟨A, hAe⟩ : ∃ A, va_A (MG a k v w g gl) s.heap.size = A := ⟨_, rfl⟩
  rw [hAe] at hD
  have hA : ∀ q : Nat, s.heap.size ≤ q → A q := fun q h => by rw [← hAe]; exact Or.inr h
  have hS : va_S A s.heap s.heap [] := va_S.rf
  refine lv_iload_n hx hb d_Md_pension_0 rfl (lv_at hl 1 rfl) ?_
  refine lv_iload_n hx hb d_Md_pension_1 rfl (lv_at hl 2 rfl) ?_
  refine vp_callSi (va_Run.run (va_runS (As := [.int p_0, .int p_1]) (rest := []) ⟨hx, hb, hml, hown, htb⟩ (c_Md_isPension l p_0 p_1) (cwS 2 htb (gd_S tw_81 tw_82 tw_3 tw_80) rfl rfl rfl (by decide +kernel) ⟨Nat.le_of_ble_eq_true rfl, Nat.le_of_ble_eq_true rfl⟩) ⟨fun _ _ _ _ h => h, fun U _ _ => ⟨rfl, trivial⟩⟩ rfl rfl hl.1 rfl (lv_room (Nat.le_of_ble_eq_true rfl)) d_Md_pension_2 ⟨Nat.le_of_ble_eq_true rfl, Nat.le_of_ble_eq_true rfl⟩)) (fun r er => ?_)
  subst er
  by_cases c_1 : p_0 < 1
  · refine hb_ti 0 (by unfold f_Md_isPension; rw [if_pos c_1]; first | done | rfl) ?_
    refine lv_if_ne (tgt := 10) hx hb d_Md_pension_5 (by decide) (fun h => absurd (by decide +kernel) h) (fun _ => ?_)
    refine lv_iconst (v := (-1)) hx hb d_Md_pension_8 (by decide +kernel) ?_
    exact W.iret (v := (-1)) hx hb hr (fun t ht hW => ⟨⟨(-1), (v, w, g, gl), rfl, (by unfold T_Md_pension_g; rw [if_pos c_1]), by rw [ht]; exact hP, va_K.moved hW.alike hK, by rw [hAe]; exact hD⟩, by rw [hAe]; exact hS.F ht⟩) (by rw [hAe]; exact hS.2.2) d_Md_pension_9
  · by_cases c_2 : 10000 < p_0
    · refine hb_ti 0 (by unfold f_Md_isPension; rw [if_neg c_1, if_pos c_2]; first | done | rfl) ?_
      refine lv_if_ne (tgt := 10) hx hb d_Md_pension_5 (by decide) (fun h => absurd (by decide +kernel) h) (fun _ => ?_)
      refine lv_iconst (v := (-1)) hx hb d_Md_pension_8 (by decide +kernel) ?_
      exact W.iret (v := (-1)) hx hb hr (fun t ht hW => ⟨⟨(-1), (v, w, g, gl), rfl, (by unfold T_Md_pension_g; rw [if_neg c_1, if_pos c_2]), by rw [ht]; exact hP, va_K.moved hW.alike hK, by rw [hAe]; exact hD⟩, by rw [hAe]; exact hS.F ht⟩) (by rw [hAe]; exact hS.2.2) d_Md_pension_9
    · by_cases c_3 : p_1 < 0
      · refine hb_ti 0 (by unfold f_Md_isPension; rw [if_neg c_1, if_neg c_2, if_pos c_3]; first | done | rfl) ?_
        refine lv_if_ne (tgt := 10) hx hb d_Md_pension_5 (by decide) (fun h => absurd (by decide +kernel) h) (fun _ => ?_)
        refine lv_iconst (v := (-1)) hx hb d_Md_pension_8 (by decide +kernel) ?_
        exact W.iret (v := (-1)) hx hb hr (fun t ht hW => ⟨⟨(-1), (v, w, g, gl), rfl, (by unfold T_Md_pension_g; rw [if_neg c_1, if_neg c_2, if_pos c_3]), by rw [ht]; exact hP, va_K.moved hW.alike hK, by rw [hAe]; exact hD⟩, by rw [hAe]; exact hS.F ht⟩) (by rw [hAe]; exact hS.2.2) d_Md_pension_9
      · by_cases c_4 : 9999 < p_1
        · refine hb_ti 0 (by unfold f_Md_isPension; rw [if_neg c_1, if_neg c_2, if_neg c_3, if_pos c_4]; first | done | rfl) ?_
          refine lv_if_ne (tgt := 10) hx hb d_Md_pension_5 (by decide) (fun h => absurd (by decide +kernel) h) (fun _ => ?_)
          refine lv_iconst (v := (-1)) hx hb d_Md_pension_8 (by decide +kernel) ?_
          exact W.iret (v := (-1)) hx hb hr (fun t ht hW => ⟨⟨(-1), (v, w, g, gl), rfl, (by unfold T_Md_pension_g; rw [if_neg c_1, if_neg c_2, if_neg c_3, if_pos c_4]), by rw [ht]; exact hP, va_K.moved hW.alike hK, by rw [hAe]; exact hD⟩, by rw [hAe]; exact hS.F ht⟩) (by rw [hAe]; exact hS.2.2) d_Md_pension_9
        · refine hb_ti 1 (by unfold f_Md_isPension; rw [if_neg c_1, if_neg c_2, if_neg c_3, if_neg c_4]; first | done | rfl) ?_
          refine lv_if_ne (tgt := 10) hx hb d_Md_pension_5 (by decide) (fun _ => ?_) (fun h => absurd h (by decide +kernel))
          refine lv_aload_n hx hb d_Md_pension_10 rfl (lv_at hl 0 rfl) ?_
          refine va_get (D := (dC, dI)) (ci := 7) (v := .int (v 60)) (C := R_Md) (T := F_Md) (N := 64) hx hb htb i_Md hown hK hP 0 rfl rfl 60 (by decide) (htb (.fieldLink R_Md 323 "WaterMenModel" "pensioners" "I") tw_76) (fun _ h9 => h9) rfl d_Md_pension_11 ?_
          refine lv_bipush (v := 30) hx hb d_Md_pension_14 (by decide +kernel) ?_
          refine lv_icmp_ne (tgt := 24) hx hb d_Md_pension_16 (by decide) (fun c_5 => ?_) (fun c_5 => ?_)
          · refine lv_aload_n hx hb d_Md_pension_24 rfl (lv_at hl 0 rfl) ?_
            refine lv_iload_n hx hb d_Md_pension_25 rfl (lv_at hl 1 rfl) ?_
            refine lv_iload_n hx hb d_Md_pension_26 rfl (lv_at hl 2 rfl) ?_
            have hFc := hb_free hD hS hA
            refine va_calli (va_runV (As := [.int p_0, .int p_1]) (rest := []) ⟨hx, hb, hml, hown, htb⟩ (c_Md_newPensioner_g l dC dI a k v w g gl _ p_0 p_1 as_0 as_1 as_2 as_3 as_4 as_5 as_6 as_7 as_8 as_9 as_10 as_11 as_12 as_13 c_5) (cwV 2 htb (gd_V tw_91 tw_92 tw_93 tw_3 tw_90) rfl rfl rfl (by decide +kernel) ⟨Nat.le_of_ble_eq_true rfl, Nat.le_of_ble_eq_true rfl⟩) ⟨pc_blind, va_recv hK hP (ci := 7) (q0 := 0) rfl rfl, pc_pre hP hK hD hN⟩ rfl rfl hl.1 rfl (lv_room (Nat.le_of_ble_eq_true rfl)) d_Md_pension_27 ⟨Nat.le_of_ble_eq_true rfl, Nat.le_of_ble_eq_true rfl⟩) hS (fun q _ h => hFc q h) hFc (fun r u t H1 locs ht hvm er hB hz1 hk1 hS => ?_)
            unfold T_Md_newPensioner_g at er
            obtain ⟨rfl, rfl⟩ := Prod.mk.inj er
            obtain ⟨hP, hK1, hD1⟩ := hB
            rw [ht] at hP
            have hD : va_D A (MG a k (upd v 60 ((v 60) + 1)) w (va_up (va_up g 45 (upd (g 45) ((v 60) : Int32).toNatClampNeg p_0)) 46 (upd (g 46) ((v 60) : Int32).toNatClampNeg p_1)) gl) := hD1.weaken (fun _ q _ h => hFc q.1 h)
            have hP : va_P (dC, dI) vwCl (MG a k (upd v 60 ((v 60) + 1)) w (va_up (va_up g 45 (upd (g 45) ((v 60) : Int32).toNatClampNeg p_0)) 46 (upd (g 46) ((v 60) : Int32).toNatClampNeg p_1)) gl) H1 := hP
            generalize H1 = H at hP hS ⊢
            refine hb_ti (((v 60) + 1) - 1) rfl ?_
            exact W.iret (v := (((v 60) + 1) - 1)) hx hb hr (fun t ht hW => ⟨⟨(((v 60) + 1) - 1), ((upd v 60 ((v 60) + 1)), w, (va_up (va_up g 45 (upd (g 45) ((v 60) : Int32).toNatClampNeg p_0)) 46 (upd (g 46) ((v 60) : Int32).toNatClampNeg p_1)), gl), rfl, (by unfold T_Md_pension_g; rw [if_neg c_1, if_neg c_2, if_neg c_3, if_neg c_4, if_neg c_5]), by rw [ht]; exact hP, va_K.moved hW.alike hK, by rw [hAe]; exact hD⟩, by rw [hAe]; exact hS.F ht⟩) (by rw [hAe]; exact hS.2.2) d_Md_pension_30
          · refine lv_bipush (v := (-3)) hx hb d_Md_pension_19 (by decide +kernel) ?_
            refine lv_goto (tgt := 30) hx hb d_Md_pension_21 (by decide) ?_
            exact W.iret (v := (-3)) hx hb hr (fun t ht hW => ⟨⟨(-3), (v, w, g, gl), rfl, (by unfold T_Md_pension_g; rw [if_neg c_1, if_neg c_2, if_neg c_3, if_neg c_4, if_pos c_5]), by rw [ht]; exact hP, va_K.moved hW.alike hK, by rw [hAe]; exact hD⟩, by rw [hAe]; exact hS.F ht⟩) (by rw [hAe]; exact hS.2.2) d_Md_pension_30
def f_Md_pensioner_g (v : Nat → Int32) (g : Nat → Nat → Int32) (p_0 : Int32) (p_1 : Int32) : Int32 := if p_0 < 0 then ((-1)) else (if ((v 60) - 1) < p_0 then ((-1)) else (if p_1 = 0 then ((g 45) (p_0).toNatClampNeg) else (if p_1 = 1 then ((g 46) (p_0).toNatClampNeg) else (if p_1 = 2 then ((g 47) (p_0).toNatClampNeg) else ((-1))))))
set_option maxHeartbeats 4000000 in
set_option maxRecDepth 100000 in
theorem c_Md_pensioner_g (l : Launch) (dC : Nat → ClassId) (dI : Nat → Nat → Nat) (a : Nat → Nat) (k : Nat → ClassId) (v : Nat → Int32) (w : Nat → Int64) (g : Nat → Nat → Int32) (gl : Nat → Int64)  (p_0 : Int32) (p_1 : Int32) (as_0 : ¬ ((v 1) < 0)) (as_1 : ¬ (359999 < (v 1))) (as_2 : ¬ ((v 2) < 0)) (as_3 : ¬ (12 < (v 2))) (as_4 : ¬ ((v 21) < 0)) (as_5 : ¬ (20 < (v 21))) (as_6 : ¬ ((v 28) < 0)) (as_7 : ¬ (400 < (v 28))) (as_8 : ¬ ((v 29) < 0)) (as_9 : ¬ (20 < (v 29))) (as_10 : ¬ ((v 47) < 0)) (as_11 : ¬ (600 < (v 47))) (as_12 : ¬ ((v 60) < 0)) (as_13 : ¬ (30 < (v 60))) : Met l y_Md_pensioner (.code y_Md_pensioner b_Md_pensioner 3 (some .int) :: TB) ({ frames := 1, cells := 0, slots := 0, locals := 22 }) (va_Pc [.ref (a 0), .int p_0, .int p_1] (PR dC dI (MG a k v w g gl) (MT k))) (vp_Si (fun r => r = f_Md_pensioner_g v g p_0 p_1)) 0 0 (fun _ => False) := by
  refine Met.ofW (cc := b_Md_pensioner) (maxL := 3) (ret := (some .int)) (by decide) rfl ?_
  intro p e s m args below meth c s₁ B hml hv
  obtain ⟨rfl, hP, hK, hN⟩ := hv
  have hx := B.exec
  have hb := B.bytes
  have hr := B.returns
  have hts := atoms_spec (ws := (.code y_Md_pensioner b_Md_pensioner 3 (some .int) :: TB)) B.pre
  have htb := fun w (h : w ∈ TB) => hts w (List.mem_cons_of_mem _ h)
  have hown : s.vm.findClass R_Md = some m.cls := findClass_of_methodNamed B.named
  have hlocks := B.notSynchronized
  have hl := lv_entry ([.ref (a 0), .int p_0, .int p_1]) (n := 3) (Nat.le_of_ble_eq_true rfl)
  rw [lg_entry_eq]
  generalize (lg_sl ([.ref (a 0), .int p_0, .int p_1]) ++ List.replicate (3 - (lg_sl ([.ref (a 0), .int p_0, .int p_1])).length) Slot.unset).toArray = ls at hl ⊢
  have hl : lv_has ls 3 [(0, .ref (a 0)), (1, .int p_0), (2, .int p_1)] := hl
  refine lv_iload_n hx hb d_Md_pensioner_0 rfl (lv_at hl 1 rfl) ?_
  refine lv_iconst (v := 0) hx hb d_Md_pensioner_1 (by decide +kernel) ?_
  refine lv_aload_n hx hb d_Md_pensioner_2 rfl (lv_at hl 0 rfl) ?_
  refine va_get (D := (dC, dI)) (ci := 7) (v := .int (v 60)) (C := R_Md) (T := F_Md) (N := 64) hx hb htb i_Md hown hK hP 0 rfl rfl 60 (by decide) (htb (.fieldLink R_Md 323 "WaterMenModel" "pensioners" "I") tw_76) (fun _ h9 => h9) rfl d_Md_pensioner_3 ?_
  refine lv_iconst (v := 1) hx hb d_Md_pensioner_6 (by decide +kernel) ?_
  refine lv_isub hx hb d_Md_pensioner_7 ?_
  refine vp_callSi (va_Run.run (va_runS (As := [.int p_0, .int 0, .int ((v 60) - 1)]) (rest := []) ⟨hx, hb, hml, hown, htb⟩ (c_Md_in l p_0 0 ((v 60) - 1)) (cwS 3 htb (gd_S tw_4 tw_5 tw_3 tw_2) rfl rfl rfl (by decide +kernel) ⟨Nat.le_of_ble_eq_true rfl, Nat.le_of_ble_eq_true rfl⟩) ⟨fun _ _ _ _ h => h, fun U _ _ => ⟨rfl, trivial⟩⟩ rfl rfl hl.1 rfl (lv_room (Nat.le_of_ble_eq_true rfl)) d_Md_pensioner_8 ⟨Nat.le_of_ble_eq_true rfl, Nat.le_of_ble_eq_true rfl⟩)) (fun r er => ?_)
  subst er
  by_cases c_1 : p_0 < 0
  · refine hb_ti 0 (by unfold f_Md_in; rw [if_pos c_1]; first | done | rfl) ?_
    refine lv_if_ne (tgt := 16) hx hb d_Md_pensioner_11 (by decide) (fun h => absurd (by decide +kernel) h) (fun _ => ?_)
    refine lv_iconst (v := (-1)) hx hb d_Md_pensioner_14 (by decide +kernel) ?_
    exact W.iret (v := (-1)) hx hb hr (fun t ht hW => ⟨(-1), rfl, (by unfold f_Md_pensioner_g; rw [if_pos c_1]), ht⟩) t_nil d_Md_pensioner_15
  · by_cases c_2 : ((v 60) - 1) < p_0
    · refine hb_ti 0 (by unfold f_Md_in; rw [if_neg c_1, if_pos c_2]; first | done | rfl) ?_
      refine lv_if_ne (tgt := 16) hx hb d_Md_pensioner_11 (by decide) (fun h => absurd (by decide +kernel) h) (fun _ => ?_)
      refine lv_iconst (v := (-1)) hx hb d_Md_pensioner_14 (by decide +kernel) ?_
      exact W.iret (v := (-1)) hx hb hr (fun t ht hW => ⟨(-1), rfl, (by unfold f_Md_pensioner_g; rw [if_neg c_1, if_pos c_2]), ht⟩) t_nil d_Md_pensioner_15
    · refine hb_ti 1 (by unfold f_Md_in; rw [if_neg c_1, if_neg c_2]; first | done | rfl) ?_
      refine lv_if_ne (tgt := 16) hx hb d_Md_pensioner_11 (by decide) (fun _ => ?_) (fun h => absurd h (by decide +kernel))
      refine lv_iload_n hx hb d_Md_pensioner_16 rfl (lv_at hl 2 rfl) ?_
      by_cases c_3 : p_1 = 0
      · refine lv_tableIn (off := 27) (tgt := 44) hx hb d_Md_pensioner_17 (by rw [c_3]; decide +kernel) (by rw [c_3]; decide +kernel) (by rw [c_3]; decide +kernel) (by decide) ?_
        refine lv_aload_n hx hb d_Md_pensioner_44 rfl (lv_at hl 0 rfl) ?_
        refine va_get (D := (dC, dI)) (ci := 7) (v := .ref (a 45)) (C := R_Md) (T := F_Md) (N := 64) hx hb htb i_Md hown hK hP 0 rfl rfl 61 (by decide) (htb (.fieldLink R_Md 177 "WaterMenModel" "pensionOf" "[I") tw_78) (fun _ h9 => h9) rfl d_Md_pensioner_45 ?_
        refine lv_iload_n hx hb d_Md_pensioner_48 rfl (lv_at hl 1 rfl) ?_
        refine va_iald hx hb hK hP 45 44 rfl rfl (by have z0 : (0 : Int32).toInt = 0 := (by decide +kernel); have z1 : (1 : Int32).toInt = 1 := (by decide +kernel); have z2 : (30 : Int32).toInt = 30 := (by decide +kernel); have r0 := fb_rng (p_0); have r1 := fb_rng (v 60); have e0 := c_1; rw [Int32.lt_iff_toInt_lt] at e0; have e1 := as_12; rw [Int32.lt_iff_toInt_lt] at e1; have e2 := as_13; rw [Int32.lt_iff_toInt_lt] at e2; have s0 := fb_subI (x := (v 60)) (y := (1 : Int32)) (by omega) (by omega); have e3 := c_2; rw [Int32.lt_iff_toInt_lt] at e3; rw [vp_in_iff]; omega) d_Md_pensioner_49 ?_
        exact W.iret (v := (g 45) (p_0).toNatClampNeg) hx hb hr (fun t ht hW => ⟨(g 45) (p_0).toNatClampNeg, rfl, (by unfold f_Md_pensioner_g; rw [if_neg c_1, if_neg c_2, if_pos c_3]), ht⟩) t_nil d_Md_pensioner_50
      · by_cases c_4 : p_1 = 1
        · refine lv_tableIn (off := 34) (tgt := 51) hx hb d_Md_pensioner_17 (by rw [c_4]; decide +kernel) (by rw [c_4]; decide +kernel) (by rw [c_4]; decide +kernel) (by decide) ?_
          refine lv_aload_n hx hb d_Md_pensioner_51 rfl (lv_at hl 0 rfl) ?_
          refine va_get (D := (dC, dI)) (ci := 7) (v := .ref (a 46)) (C := R_Md) (T := F_Md) (N := 64) hx hb htb i_Md hown hK hP 0 rfl rfl 62 (by decide) (htb (.fieldLink R_Md 180 "WaterMenModel" "pensionEnd" "[I") tw_77) (fun _ h9 => h9) rfl d_Md_pensioner_52 ?_
          refine lv_iload_n hx hb d_Md_pensioner_55 rfl (lv_at hl 1 rfl) ?_
          refine va_iald hx hb hK hP 46 45 rfl rfl (by have z0 : (0 : Int32).toInt = 0 := (by decide +kernel); have z1 : (1 : Int32).toInt = 1 := (by decide +kernel); have z2 : (30 : Int32).toInt = 30 := (by decide +kernel); have r0 := fb_rng (p_0); have r1 := fb_rng (v 60); have e0 := c_1; rw [Int32.lt_iff_toInt_lt] at e0; have e1 := as_12; rw [Int32.lt_iff_toInt_lt] at e1; have e2 := as_13; rw [Int32.lt_iff_toInt_lt] at e2; have s0 := fb_subI (x := (v 60)) (y := (1 : Int32)) (by omega) (by omega); have e3 := c_2; rw [Int32.lt_iff_toInt_lt] at e3; rw [vp_in_iff]; omega) d_Md_pensioner_56 ?_
          exact W.iret (v := (g 46) (p_0).toNatClampNeg) hx hb hr (fun t ht hW => ⟨(g 46) (p_0).toNatClampNeg, rfl, (by unfold f_Md_pensioner_g; rw [if_neg c_1, if_neg c_2, if_neg c_3, if_pos c_4]), ht⟩) t_nil d_Md_pensioner_57
        · by_cases c_5 : p_1 = 2
          · refine lv_tableIn (off := 41) (tgt := 58) hx hb d_Md_pensioner_17 (by rw [c_5]; decide +kernel) (by rw [c_5]; decide +kernel) (by rw [c_5]; decide +kernel) (by decide) ?_
            refine lv_aload_n hx hb d_Md_pensioner_58 rfl (lv_at hl 0 rfl) ?_
            refine va_get (D := (dC, dI)) (ci := 7) (v := .ref (a 47)) (C := R_Md) (T := F_Md) (N := 64) hx hb htb i_Md hown hK hP 0 rfl rfl 63 (by decide) (htb (.fieldLink R_Md 183 "WaterMenModel" "gotten" "[I") tw_94) (fun _ h9 => h9) rfl d_Md_pensioner_59 ?_
            refine lv_iload_n hx hb d_Md_pensioner_62 rfl (lv_at hl 1 rfl) ?_
            refine va_iald hx hb hK hP 47 46 rfl rfl (by have z0 : (0 : Int32).toInt = 0 := (by decide +kernel); have z1 : (1 : Int32).toInt = 1 := (by decide +kernel); have z2 : (30 : Int32).toInt = 30 := (by decide +kernel); have r0 := fb_rng (p_0); have r1 := fb_rng (v 60); have e0 := c_1; rw [Int32.lt_iff_toInt_lt] at e0; have e1 := as_12; rw [Int32.lt_iff_toInt_lt] at e1; have e2 := as_13; rw [Int32.lt_iff_toInt_lt] at e2; have s0 := fb_subI (x := (v 60)) (y := (1 : Int32)) (by omega) (by omega); have e3 := c_2; rw [Int32.lt_iff_toInt_lt] at e3; rw [vp_in_iff]; omega) d_Md_pensioner_63 ?_
            exact W.iret (v := (g 47) (p_0).toNatClampNeg) hx hb hr (fun t ht hW => ⟨(g 47) (p_0).toNatClampNeg, rfl, (by unfold f_Md_pensioner_g; rw [if_neg c_1, if_neg c_2, if_neg c_3, if_neg c_4, if_pos c_5]), ht⟩) t_nil d_Md_pensioner_64
          · refine lv_tableOut (tgt := 65) hx hb d_Md_pensioner_17 (by have h0 := lv_neT c_3 (show (0 : Int32).toInt = 0 by decide +kernel); have h1 := lv_neT c_4 (show (1 : Int32).toInt = 1 by decide +kernel); have h2 := lv_neT c_5 (show (2 : Int32).toInt = 2 by decide +kernel); omega) (by decide) ?_
            refine lv_iconst (v := (-1)) hx hb d_Md_pensioner_65 (by decide +kernel) ?_
            exact W.iret (v := (-1)) hx hb hr (fun t ht hW => ⟨(-1), rfl, (by unfold f_Md_pensioner_g; rw [if_neg c_1, if_neg c_2, if_neg c_3, if_neg c_4, if_neg c_5]), ht⟩) t_nil d_Md_pensioner_66
