def WL_Md_minutes_w_27_6 : List (Nat × Nat) := [(27, 1), (27, 56), (27, 57), (27, 58), (39, 1000), (40, 1000), (42, 1000), (48, 1000), (71, 1000), (74, 1000)]
def W_Md_minutes_w : List (Nat × Nat) := [(27, 1), (27, 56), (27, 57), (27, 58), (39, 1000), (40, 1000), (42, 1000), (48, 1000), (71, 1000), (74, 1000)]
def wpB_Md_minutes_w_27_6 (L : List Nat) (f : TF) (q0 : Nat) (p_0 : Int32) (Q : Int32 → List Nat → TF → Prop) (rec_6 : Int32 → List Nat → TF → Prop) (v2_6 : Int32) (L_1 : List Nat) (f_1 : TF) : Prop := Ok L_1 f_1 → Ext WL_Md_minutes_w_27_6 L f L_1 f_1 → ((p_0 ≤ v2_6 → Q (ti f_1 q0 1) L_1 f_1) ∧ (¬ (p_0 ≤ v2_6) → ∀ f_2 : TF, f_2 = sI f_1 q0 1 ((ti f_1 q0 1) + 1) → Ok L_1 f_2 → wp_Md_arrive_w L_1 f_2 q0 (fun (L_3 : List Nat) (f_3 : TF) => Ok L_3 f_3 → Ext W_Md_arrive_w L_1 f_2 L_3 f_3 → ∀ y_11 : Int32, y_11 = ((ti f_1 q0 1) + 1) - ((ti f_1 q0 1) + 1) / 720 * 720 → ((y_11 = 0 → wp_Md_today_w L_3 f_3 q0 (fun (r_13 : Int32) => (∀ y_18 : Int32, y_18 = (r_13 - 1) - (r_13 - 1) / 7 * 7 → ((y_18 = 0 → wp_Md_today_w L_3 f_3 q0 (fun (r_33 : Int32) => (∀ (L_4 : List Nat) (f_4 : TF), Ok L_4 f_4 → Ext W_Md_part_t L_3 f_3 L_4 f_4 → wp_Md_today_w L_4 f_4 q0 (fun (r_39 : Int32) => (∀ y_44 : Int32, y_44 = r_39 - r_39 / 100 * 100 → ((y_44 = 0 → wp_Md_today_w L_4 f_4 q0 (fun (r_46 : Int32) => (∀ (L_5 : List Nat) (f_5 : TF), Ok L_5 f_5 → Ext W_Md_pay_t L_4 f_4 L_5 f_5 → rec_6 (v2_6 + 1) L_5 f_5))) ∧ (¬ (y_44 = 0) → rec_6 (v2_6 + 1) L_4 f_4))))))) ∧ (¬ (y_18 = 0) → wp_Md_today_w L_3 f_3 q0 (fun (r_20 : Int32) => (∀ y_25 : Int32, y_25 = r_20 - r_20 / 100 * 100 → ((y_25 = 0 → wp_Md_today_w L_3 f_3 q0 (fun (r_27 : Int32) => (∀ (L_4 : List Nat) (f_4 : TF), Ok L_4 f_4 → Ext W_Md_pay_t L_3 f_3 L_4 f_4 → rec_6 (v2_6 + 1) L_4 f_4))) ∧ (¬ (y_25 = 0) → rec_6 (v2_6 + 1) L_3 f_3))))))))) ∧ (¬ (y_11 = 0) → rec_6 (v2_6 + 1) L_3 f_3)))))
def wpL_Md_minutes_w_27_6 (L : List Nat) (f : TF) (q0 : Nat) (p_0 : Int32) (Q : Int32 → List Nat → TF → Prop) : Nat → Int32 → List Nat → TF → Prop
  | 0 => fun v2_6 L_1 f_1 => wpB_Md_minutes_w_27_6 L f q0 p_0 Q (fun _ _ _ => True) v2_6 L_1 f_1
  | n + 1 => fun v2_6 L_1 f_1 => wpB_Md_minutes_w_27_6 L f q0 p_0 Q (wpL_Md_minutes_w_27_6 L f q0 p_0 Q n) v2_6 L_1 f_1
def wpR_Md_minutes_w_27_6 (L : List Nat) (f : TF) (q0 : Nat) (p_0 : Int32) (Q : Int32 → List Nat → TF → Prop) : Nat → Int32 → List Nat → TF → Prop
  | 0 => fun _ _ _ => True
  | n + 1 => wpL_Md_minutes_w_27_6 L f q0 p_0 Q n
theorem wpL_Md_minutes_w_27_6_eq {L : List Nat} {f : TF} {q0 : Nat} {p_0 : Int32} {Q : Int32 → List Nat → TF → Prop} {n : Nat} : wpL_Md_minutes_w_27_6 L f q0 p_0 Q n = wpB_Md_minutes_w_27_6 L f q0 p_0 Q (wpR_Md_minutes_w_27_6 L f q0 p_0 Q n) := by cases n <;> rfl
theorem wpR_Md_minutes_w_27_6_pos {L : List Nat} {f : TF} {q0 : Nat} {p_0 : Int32} {Q : Int32 → List Nat → TF → Prop} {n : Nat} (h : 0 < n) : wpR_Md_minutes_w_27_6 L f q0 p_0 Q n = wpL_Md_minutes_w_27_6 L f q0 p_0 Q (n - 1) := by
  cases n with
  | zero => omega
  | succ n => rfl
def wp_Md_minutes_w (L : List Nat) (f : TF) (q0 : Nat) (p_0 : Int32) (Q : Int32 → List Nat → TF → Prop) : Prop := ((p_0 < 1 → Q (-1) L f) ∧ (¬ (p_0 < 1) → ((1440 < p_0 → Q (-1) L f) ∧ (¬ (1440 < p_0) → ((((ti f q0 1) + p_0) ≤ 359999 → wpL_Md_minutes_w_27_6 L f q0 p_0 Q (((1440 : Int32).toInt - (0 : Int32).toInt).toNat) (0 : Int32) L f) ∧ (¬ (((ti f q0 1) + p_0) ≤ 359999) → Q (-1) L f))))))
set_option maxHeartbeats 4000000 in
set_option maxRecDepth 100000 in
theorem c_Md_minutes_w (l : Launch) (dC : Nat → ClassId) (dI : Nat → Nat → Nat) (ct : Nat → ClassId) (L : List Nat) (f : TF) (hO_0 : Ok L f) (q0 : Nat) (m0 : q0 ∈ L ∧ tk f q0 = 27) (sz : Nat) (p_0 : Int32)   (Q : Int32 → List Nat → TF → Prop) (hQ : wp_Md_minutes_w L f q0 p_0 Q) : Met l y_Md_minutes (.code y_Md_minutes b_Md_minutes 3 (some .int) :: TB) ({ frames := 1, cells := 0, slots := 0, locals := 25 }) (va_Pc [.ref q0, .int p_0] (PC dC dI (TW ct L f) (TT ct) sz)) (va_Qi (fun r (u : TSt) => Ok u.1 u.2 ∧ Ext W_Md_minutes_w L f u.1 u.2 ∧ (True) ∧ Q r u.1 u.2) (fun (u : TSt) t => va_P (dC, dI) vwCl (TW ct u.1 u.2) t.heap ∧ va_K (dC, dI) vwCl (TT ct) t ∧ va_D (va_A (TW ct L f) sz) (TW ct u.1 u.2)) (va_A (TW ct L f) sz)) 0 0 (va_A (TW ct L f) sz) := by
  refine Met.ofW (cc := b_Md_minutes) (maxL := 3) (ret := (some .int)) (by decide) rfl ?_
  intro p e s m args below meth c s₁ B hml hv
  obtain ⟨rfl, hsz, hP, hK, hD0, hN⟩ := hv
  have hx := B.exec
  have hb := B.bytes
  have hr := B.returns
  have hts := atoms_spec (ws := (.code y_Md_minutes b_Md_minutes 3 (some .int) :: TB)) B.pre
  have htb := fun w (h : w ∈ TB) => hts w (List.mem_cons_of_mem _ h)
  have hown : s.vm.findClass R_Md = some m.cls := findClass_of_methodNamed B.named
  have hlocks := B.notSynchronized
  have hl := lv_entry ([.ref q0, .int p_0]) (n := 3) (Nat.le_of_ble_eq_true rfl)
  rw [lg_entry_eq]
  generalize (lg_sl ([.ref q0, .int p_0]) ++ List.replicate (3 - (lg_sl ([.ref q0, .int p_0])).length) Slot.unset).toArray = ls at hl ⊢
  have hl : lv_has ls 3 [(0, .ref q0), (1, .int p_0)] := hl
  subst hsz
  have hD := hD0.self (sz := s.heap.size)
  obtain ⟨A, hAe⟩ : ∃ A, va_A (TW ct L f) s.heap.size = A := ⟨_, rfl⟩
  rw [hAe] at hD
  have hA : ∀ q : Nat, s.heap.size ≤ q → A q := fun q h => by rw [← hAe]; exact Or.inr h
  have hS : va_S A s.heap s.heap [] := va_S.rf
  have hA_0 : Ext [] L f L f := Ext.rf
  suffices hGo : ∀ (H : Heap) (locs : List Loc), va_P (dC, dI) vwCl (TW ct L f) H → va_S A s.heap H locs → W p l e (headSpec (.code y_Md_minutes b_Md_minutes 3 (some .int) :: TB) ({ frames := 1, cells := 0, slots := 0, locals := 25 })).room s m [.ref q0, .int p_0].toArray below meth c H locs 0 0 (MQ below (va_Qi (fun r (u : TSt) => Ok u.1 u.2 ∧ Ext W_Md_minutes_w L f u.1 u.2 ∧ (True) ∧ Q r u.1 u.2) (fun (u : TSt) t => va_P (dC, dI) vwCl (TW ct u.1 u.2) t.heap ∧ va_K (dC, dI) vwCl (TT ct) t ∧ va_D (va_A (TW ct L f) s.heap.size) (TW ct u.1 u.2)) (va_A (TW ct L f) s.heap.size)) [.ref q0, .int p_0].toArray s 0 0 (va_A (TW ct L f) s.heap.size)) (F0 m 0 ls []) from hGo _ _ hP hS
  clear hP hS
  intro H locs hP hS
  unfold wp_Md_minutes_w at hQ
  have bs_1 := hO_0.i m0 (show slotD 27 1 = some (.inl (0, 359999)) from rfl)
  refine lv_iload_n hx hb d_Md_minutes_0 rfl (lv_at hl 1 rfl) ?_
  refine lv_iconst (v := 1) hx hb d_Md_minutes_1 (by decide +kernel) ?_
  refine lv_sipush (v := 1440) hx hb d_Md_minutes_2 (by decide +kernel) ?_
  refine vp_callSi (va_Run.run (va_runS (As := [.int p_0, .int 1, .int 1440]) (rest := []) ⟨hx, hb, hml, hown, htb⟩ (c_Md_in l p_0 1 1440) (cwS 3 htb (gd_S tw_90 tw_91 tw_89 tw_88) rfl rfl rfl (by decide +kernel) ⟨Nat.le_of_ble_eq_true rfl, Nat.le_of_ble_eq_true rfl⟩) ⟨fun _ _ _ _ h => h, fun U _ _ => ⟨rfl, trivial⟩⟩ rfl rfl hl.1 rfl (lv_room (Nat.le_of_ble_eq_true rfl)) d_Md_minutes_5 ⟨Nat.le_of_ble_eq_true rfl, Nat.le_of_ble_eq_true rfl⟩)) (fun r er => ?_)
  subst er
  by_cases c_3 : p_0 < 1
  · have hQ := hQ.1 c_3
    refine hb_ti 0 (by unfold f_Md_in; rw [if_pos c_3]; first | done | rfl) ?_
    refine lv_if_eq (tgt := 23) hx hb d_Md_minutes_8 (by decide) (fun _ => ?_) (fun h => absurd (by decide +kernel) h)
    refine lv_iconst (v := (-1)) hx hb d_Md_minutes_23 (by decide +kernel) ?_
    refine W.widen (k := 0) (n := 0) (Nat.le_of_ble_eq_true rfl) (Nat.le_of_ble_eq_true rfl) ?_
    exact W.iret (v := (-1)) hx hb hr (fun t ht hW => ⟨⟨(-1), (L, f), rfl, ⟨hO_0, hA_0.mono (by decide +kernel), trivial, hQ⟩, by rw [ht]; exact hP, va_K.moved hW.alike hK, by rw [hAe]; exact hD⟩, by rw [hAe]; exact hS.F ht⟩) (by rw [hAe]; exact hS.2.2) d_Md_minutes_24
  · have hQ := hQ.2 c_3
    by_cases c_4 : 1440 < p_0
    · have hQ := hQ.1 c_4
      refine hb_ti 0 (by unfold f_Md_in; rw [if_neg c_3, if_pos c_4]; first | done | rfl) ?_
      refine lv_if_eq (tgt := 23) hx hb d_Md_minutes_8 (by decide) (fun _ => ?_) (fun h => absurd (by decide +kernel) h)
      refine lv_iconst (v := (-1)) hx hb d_Md_minutes_23 (by decide +kernel) ?_
      refine W.widen (k := 0) (n := 0) (Nat.le_of_ble_eq_true rfl) (Nat.le_of_ble_eq_true rfl) ?_
      exact W.iret (v := (-1)) hx hb hr (fun t ht hW => ⟨⟨(-1), (L, f), rfl, ⟨hO_0, hA_0.mono (by decide +kernel), trivial, hQ⟩, by rw [ht]; exact hP, va_K.moved hW.alike hK, by rw [hAe]; exact hD⟩, by rw [hAe]; exact hS.F ht⟩) (by rw [hAe]; exact hS.2.2) d_Md_minutes_24
    · have hQ := hQ.2 c_4
      refine hb_ti 1 (by unfold f_Md_in; rw [if_neg c_3, if_neg c_4]; first | done | rfl) ?_
      refine lv_if_eq (tgt := 23) hx hb d_Md_minutes_8 (by decide) (fun h => absurd h (by decide +kernel)) (fun _ => ?_)
      refine lv_aload_n hx hb d_Md_minutes_11 rfl (lv_at hl 0 rfl) ?_
      refine tw_getI (x := (ti f q0 1)) (D := (dC, dI)) (C := R_Md) (T := F_Md) (N := 64) (ci := 7) (kd := 27) (ct := ct) hx hb htb i_Md hown hK hP m0 rfl rfl 1 rfl (by decide) (htb (.fieldLink R_Md 7 "WaterMenModel" "time" "I") tw_111) (fun _ h9 => h9) rfl d_Md_minutes_12 ?_
      refine lv_iload_n hx hb d_Md_minutes_15 rfl (lv_at hl 1 rfl) ?_
      refine lv_iadd hx hb d_Md_minutes_16 ?_
      refine lv_ldcw (v := 359999) hx hb hown (htb (.constant R_Md 305 359999) tw_226) d_Md_minutes_17 ?_
      refine lv_icmp_le (tgt := 25) hx hb d_Md_minutes_20 (by decide) (fun c_5 => ?_) (fun c_5 => ?_)
      · have hQ := hQ.1 c_5
        refine lv_iconst (v := 0) hx hb d_Md_minutes_25 (by decide +kernel) ?_
        refine lv_istore_n (lv' := [(2, .int 0), (0, .ref q0), (1, .int p_0)]) hx hb d_Md_minutes_26 rfl hl (by decide) rfl (fun ls hl => ?_)
        have cut_6 : ∀ (n_6 : Nat) (v2_6 : Int32) (L_1 : List Nat) (f_1 : TF) (H : Heap) (locs : List Loc) (ls : Array Slot), va_P (dC, dI) vwCl (TW ct L_1 f_1) H → va_D A (TW ct L_1 f_1) → va_S A s.heap H locs → Ok L_1 f_1 → Ext WL_Md_minutes_w_27_6 L f L_1 f_1 → ¬ (v2_6 < 0) → ¬ (1440 < v2_6) → (ti f_1 q0 1) = ((ti f q0 1) + v2_6) → (1440 : Int32).toInt - (v2_6 : Int32).toInt ≤ (n_6 : Int) → wpL_Md_minutes_w_27_6 L f q0 p_0 Q n_6 v2_6 L_1 f_1 → lv_has ls 3 [(0, .ref q0), (1, .int p_0), (2, .int v2_6)] → W p l e (headSpec (.code y_Md_minutes b_Md_minutes 3 (some .int) :: TB) ({ frames := 1, cells := 0, slots := 0, locals := 25 })).room s m [.ref q0, .int p_0].toArray below meth c H locs 0 0 (MQ below (va_Qi (fun r (u : TSt) => Ok u.1 u.2 ∧ Ext W_Md_minutes_w L f u.1 u.2 ∧ (True) ∧ Q r u.1 u.2) (fun (u : TSt) t => va_P (dC, dI) vwCl (TW ct u.1 u.2) t.heap ∧ va_K (dC, dI) vwCl (TT ct) t ∧ va_D (va_A (TW ct L f) s.heap.size) (TW ct u.1 u.2)) (va_A (TW ct L f) s.heap.size)) [.ref q0, .int p_0].toArray s 0 0 (va_A (TW ct L f) s.heap.size)) (F0 m 27 ls []) := by
          intro n_6
          induction n_6 using Nat.strongRecOn with
          | _ n_6 ih_6 =>
            intro v2_6 L_1 f_1 H locs ls hP hD hS hO_1 hE_1 iv0_6 iv1_6 iv2_6 hm_6 hQ hl
            have hA_1 := hA_0.trans hE_1
            have bf_7 := hO_1.i (hA_1.m m0) (show slotD 27 1 = some (.inl (0, 359999)) from rfl)
            rw [wpL_Md_minutes_w_27_6_eq] at hQ
            obtain ⟨rec_6, hrec_6⟩ : ∃ g, wpR_Md_minutes_w_27_6 L f q0 p_0 Q n_6 = g := ⟨_, rfl⟩
            rw [hrec_6] at hQ
            unfold wpB_Md_minutes_w_27_6 at hQ
            have hQ := hQ hO_1 hE_1
            refine lv_iload_n hx hb d_Md_minutes_27 rfl (lv_at hl 2 rfl) ?_
            refine lv_iload_n hx hb d_Md_minutes_28 rfl (lv_at hl 1 rfl) ?_
            refine lv_icmp_ge (tgt := 106) hx hb d_Md_minutes_29 (by decide) (fun c_8 => ?_) (fun c_8 => ?_)
            · have hQ := hQ.1 c_8
              refine lv_aload_n hx hb d_Md_minutes_106 rfl (lv_at hl 0 rfl) ?_
              refine tw_getI (x := (ti f_1 q0 1)) (D := (dC, dI)) (C := R_Md) (T := F_Md) (N := 64) (ci := 7) (kd := 27) (ct := ct) hx hb htb i_Md hown hK hP (hA_1.m m0) rfl rfl 1 rfl (by decide) (htb (.fieldLink R_Md 7 "WaterMenModel" "time" "I") tw_111) (fun _ h9 => h9) rfl d_Md_minutes_107 ?_
              refine W.widen (k := 0) (n := 0) (Nat.le_of_ble_eq_true rfl) (Nat.le_of_ble_eq_true rfl) ?_
              exact W.iret (v := (ti f_1 q0 1)) hx hb hr (fun t ht hW => ⟨⟨(ti f_1 q0 1), (L_1, f_1), rfl, ⟨hO_1, hA_1.mono (by decide +kernel), trivial, hQ⟩, by rw [ht]; exact hP, va_K.moved hW.alike hK, by rw [hAe]; exact hD⟩, by rw [hAe]; exact hS.F ht⟩) (by rw [hAe]; exact hS.2.2) d_Md_minutes_110
            · have hQ := hQ.2 c_8
              refine lv_aload_n hx hb d_Md_minutes_32 rfl (lv_at hl 0 rfl) ?_
              refine lv_dup hx hb d_Md_minutes_33 rfl ?_
              refine tw_getI (x := (ti f_1 q0 1)) (D := (dC, dI)) (C := R_Md) (T := F_Md) (N := 64) (ci := 7) (kd := 27) (ct := ct) hx hb htb i_Md hown hK hP (hA_1.m m0) rfl rfl 1 rfl (by decide) (htb (.fieldLink R_Md 7 "WaterMenModel" "time" "I") tw_111) (fun _ h9 => h9) rfl d_Md_minutes_34 ?_
              refine lv_iconst (v := 1) hx hb d_Md_minutes_37 (by decide +kernel) ?_
              refine lv_iadd hx hb d_Md_minutes_38 ?_
              refine tw_puti (v := ((ti f_1 q0 1) + 1)) (D := (dC, dI)) (C := R_Md) (T := F_Md) (N := 64) (ci := 7) (kd := 27) (ct := ct) (ty := .int) hx hb htb i_Md t_Md t_Md_ok n_Md hown hK hP hD hS hO_1 (hA_1.m m0) rfl rfl 1 (by decide) (htb (.fieldLink R_Md 7 "WaterMenModel" "time" "I") tw_111) (fun _ h9 => h9) rfl (by decide +kernel) rfl rfl rfl ⟨(show ¬ (((ti f_1 q0 1) + 1) < 0) from ((fun (a_0 : Int32) (k_0 : ¬ (a_0 < 0)) (k_1 : ¬ (359999 < a_0)) => (show ¬ ((a_0 + 1) < 0) from by have z0 : (0 : Int32).toInt = 0 := (by decide +kernel); have z1 : (1 : Int32).toInt = 1 := (by decide +kernel); have z2 : (359999 : Int32).toInt = 359999 := (by decide +kernel); have r0 := fb_rng (a_0); have e0 := k_0; rw [Int32.lt_iff_toInt_lt, z0] at e0; have e1 := k_1; rw [Int32.lt_iff_toInt_lt, z2] at e1; obtain ⟨n_0, hn_0, s0⟩ := nd_add (x := a_0) (y := (1 : Int32)) (by (try rw [z1]); omega) (by (try rw [z1]); omega); rw [z1] at s0; rw [hn_0, Int32.lt_iff_toInt_lt, z0]; omega)) (ti f_1 q0 1) bf_7.1 bf_7.2)), (show ¬ (359999 < ((ti f_1 q0 1) + 1)) from ((fun (a_0 : Int32) (a_1 : Int32) (a_2 : Int32) (a_3 : Int32) (k_0 : ¬ (a_0 ≤ a_3)) (k_1 : ¬ (359999 < a_1)) (k_2 : ¬ (1440 < a_0)) (k_3 : ¬ (a_3 < 0)) (k_4 : a_2 = (a_1 + a_3)) (k_5 : (a_1 + a_0) ≤ 359999) => (show ¬ (359999 < (a_2 + 1)) from by have z0 : (0 : Int32).toInt = 0 := (by decide +kernel); have z1 : (1 : Int32).toInt = 1 := (by decide +kernel); have z2 : (1440 : Int32).toInt = 1440 := (by decide +kernel); have z3 : (359999 : Int32).toInt = 359999 := (by decide +kernel); have r0 := fb_rng (a_0); have r1 := fb_rng (a_1); have r2 := fb_rng (a_2); have r3 := fb_rng (a_3); have e0 := k_0; rw [Int32.le_iff_toInt_le] at e0; have e1 := k_1; rw [Int32.lt_iff_toInt_lt, z3] at e1; have e2 := k_2; rw [Int32.lt_iff_toInt_lt, z2] at e2; have e3 := k_3; rw [Int32.lt_iff_toInt_lt, z0] at e3; obtain ⟨n_0, hn_0, s0⟩ := nd_add (x := a_1) (y := (a_3)) (by omega) (by omega); have e4 := k_4; rw [hn_0, ← Int32.toInt_inj] at e4; obtain ⟨n_1, hn_1, s1⟩ := nd_add (x := a_1) (y := (a_0)) (by omega) (by omega); have e5 := k_5; rw [hn_1, Int32.le_iff_toInt_le, z3] at e5; obtain ⟨n_2, hn_2, s2⟩ := nd_add (x := a_2) (y := (1 : Int32)) (by (try rw [z1]); omega) (by (try rw [z1]); omega); rw [z1] at s2; rw [hn_2, Int32.lt_iff_toInt_lt, z3]; omega)) p_0 (ti f q0 1) (ti f_1 q0 1) v2_6 c_8 bs_1.2 c_4 iv0_6 iv2_6 c_5))⟩ d_Md_minutes_39 (fun f_2 H locs hP hD hS hO_2 hE_2 w_9 hF_2 => ?_)
              have hA_2 := hA_1.trans hE_2
              have hQ := hQ f_2 hF_2
              have hQ := hQ hO_2
              refine lv_aload_n hx hb d_Md_minutes_42 rfl (lv_at hl 0 rfl) ?_
              have hFc := hb_free hD hS hA
              refine va_callv (va_runV (As := []) (rest := []) ⟨hx, hb, hml, hown, htb⟩ (c_Md_arrive_w l dC dI ct L_1 f_2 hO_2 q0 (hA_2.m m0) _ _ hQ) (cwV 0 htb (gd_V tw_232 tw_233 tw_234 tw_89 tw_231) rfl rfl rfl (by decide +kernel) ⟨Nat.le_of_ble_eq_true rfl, Nat.le_of_ble_eq_true rfl⟩) ⟨pc_blind, tw_recv hK hP (hA_2.m m0) rfl rfl, pc_pre hP hK hD hN⟩ rfl rfl hl.1 rfl (lv_room (Nat.le_of_ble_eq_true rfl)) d_Md_minutes_43 ⟨Nat.le_of_ble_eq_true rfl, Nat.le_of_ble_eq_true rfl⟩) hS (fun q _ h => hFc q h) hFc (fun u t H locs ht hvm er hB hz1 hk1 hS => ?_)
              obtain ⟨L_3, f_3⟩ := u
              obtain ⟨hO_3, hE_3, er, hQ⟩ := er
              obtain ⟨hP, hK1, hD1⟩ := hB
              rw [ht] at hP
              have hP : va_P (dC, dI) vwCl (TW ct L_3 f_3) H := hP
              have hD : va_D A (TW ct L_3 f_3) := hD1.weaken (fun _ q _ h => hFc q.1 h)
              have hO_3 : Ok L_3 f_3 := hO_3
              have hE_3 : Ext W_Md_arrive_w L_1 f_2 L_3 f_3 := hE_3
              clear hK1 hD1 ht hvm hz1 hk1
              have hA_3 := hA_2.trans hE_3
              have hQ := hQ hO_3 hE_3
              clear er
              refine lv_aload_n hx hb d_Md_minutes_46 rfl (lv_at hl 0 rfl) ?_
              refine tw_getI (x := ((ti f_1 q0 1) + 1)) (D := (dC, dI)) (C := R_Md) (T := F_Md) (N := 64) (ci := 7) (kd := 27) (ct := ct) hx hb htb i_Md hown hK hP (hA_3.m m0) rfl rfl 1 ((hE_3.ei (hA_2.m m0) rfl).trans w_9) (by decide) (htb (.fieldLink R_Md 7 "WaterMenModel" "time" "I") tw_111) (fun _ h9 => h9) rfl d_Md_minutes_47 ?_
              refine lv_sipush (v := 720) hx hb d_Md_minutes_50 (by decide +kernel) ?_
              refine lv_irem hx hb d_Md_minutes_53 (by decide) ?_
              refine hb_remn (c := 720) (C1 := 719) (K := 2147482927) (by decide +kernel) (by decide +kernel) (by decide +kernel) (show ¬ (((ti f_1 q0 1) + 1) < 0) from ((fun (a_0 : Int32) (k_0 : ¬ (a_0 < 0)) (k_1 : ¬ (359999 < a_0)) => (show ¬ ((a_0 + 1) < 0) from by have z0 : (0 : Int32).toInt = 0 := (by decide +kernel); have z1 : (1 : Int32).toInt = 1 := (by decide +kernel); have z2 : (359999 : Int32).toInt = 359999 := (by decide +kernel); have r0 := fb_rng (a_0); have e0 := k_0; rw [Int32.lt_iff_toInt_lt, z0] at e0; have e1 := k_1; rw [Int32.lt_iff_toInt_lt, z2] at e1; obtain ⟨n_0, hn_0, s0⟩ := nd_add (x := a_0) (y := (1 : Int32)) (by (try rw [z1]); omega) (by (try rw [z1]); omega); rw [z1] at s0; rw [hn_0, Int32.lt_iff_toInt_lt, z0]; omega)) (ti f_1 q0 1) bf_7.1 bf_7.2)) (show ¬ (2147482927 < ((ti f_1 q0 1) + 1)) from ((fun (a_0 : Int32) (k_0 : ¬ (359999 < a_0)) => (show ¬ (2147482927 < (a_0 + 1)) from by have z0 : (1 : Int32).toInt = 1 := (by decide +kernel); have z1 : (359999 : Int32).toInt = 359999 := (by decide +kernel); have z2 : (2147482927 : Int32).toInt = 2147482927 := (by decide +kernel); have r0 := fb_rng (a_0); have e0 := k_0; rw [Int32.lt_iff_toInt_lt, z1] at e0; obtain ⟨n_0, hn_0, s0⟩ := nd_add (x := a_0) (y := (1 : Int32)) (by (try rw [z0]); omega) (by (try rw [z0]); omega); rw [z0] at s0; rw [hn_0, Int32.lt_iff_toInt_lt, z2]; omega)) (ti f_1 q0 1) bf_7.2)) (fun y_11 qu_11 g1_11 g2_11 g3_11 g4_11 g5_11 g9_11 => ?_)
              have hQ := hQ y_11 g9_11
              refine lv_if_eq (tgt := 60) hx hb d_Md_minutes_54 (by decide) (fun c_12 => ?_) (fun c_12 => ?_)
              · have hQ := hQ.1 c_12
                refine lv_aload_n hx hb d_Md_minutes_60 rfl (lv_at hl 0 rfl) ?_
                refine vp_callSi (va_Run.run (va_runV (As := []) (rest := []) ⟨hx, hb, hml, hown, htb⟩ (c_Md_today_w l dC dI ct L_3 f_3 hO_3 q0 (hA_3.m m0) _ hQ) (cwV 0 htb (gd_V tw_113 tw_114 tw_115 tw_89 tw_112) rfl rfl rfl (by decide +kernel) ⟨Nat.le_of_ble_eq_true rfl, Nat.le_of_ble_eq_true rfl⟩) ⟨pr_blind, tw_recv hK hP (hA_3.m m0) rfl rfl, pr_pre hP hK hN⟩ rfl rfl hl.1 rfl (lv_room (Nat.le_of_ble_eq_true rfl)) d_Md_minutes_61 ⟨Nat.le_of_ble_eq_true rfl, Nat.le_of_ble_eq_true rfl⟩)) (fun r_13 er_13 => ?_)
                obtain ⟨er_13, hQ⟩ := er_13
                obtain ⟨po_14, po_15, po_16, po_17, -⟩ := er_13
                rw [show ti f_3 q0 1 = ((ti f_1 q0 1) + 1) from ((hE_3.ei (hA_2.m m0) rfl).trans w_9)] at po_16
                rw [show ti f_3 q0 1 = ((ti f_1 q0 1) + 1) from ((hE_3.ei (hA_2.m m0) rfl).trans w_9)] at po_17
                refine lv_iconst (v := 1) hx hb d_Md_minutes_64 (by decide +kernel) ?_
                refine lv_isub hx hb d_Md_minutes_65 ?_
                refine lv_bipush (v := 7) hx hb d_Md_minutes_66 (by decide +kernel) ?_
                refine lv_irem hx hb d_Md_minutes_68 (by decide) ?_
                refine hb_remn (c := 7) (C1 := 6) (K := 2147483640) (by decide +kernel) (by decide +kernel) (by decide +kernel) (show ¬ ((r_13 - 1) < 0) from ((fun (a_0 : Int32) (a_1 : Int32) (a_2 : Int32) (a_3 : Int32) (k_0 : ¬ (a_1 < 0)) (k_1 : ¬ (499 < a_1)) (k_2 : ¬ (a_2 < 0)) (k_3 : ¬ (359999 < a_2)) (k_4 : ¬ ((a_2 + 1) < a_0)) (k_5 : a_3 = 0) (k_6 : ¬ (a_0 < 0)) (k_7 : ¬ (((a_1 * 720) + 719) < (a_2 + 1))) (k_8 : (a_2 + 1) = ((a_0 * 720) + a_3)) => (show ¬ ((a_1 - 1) < 0) from by have z0 : (0 : Int32).toInt = 0 := (by decide +kernel); have z1 : (1 : Int32).toInt = 1 := (by decide +kernel); have z2 : (499 : Int32).toInt = 499 := (by decide +kernel); have z3 : (719 : Int32).toInt = 719 := (by decide +kernel); have z4 : (720 : Int32).toInt = 720 := (by decide +kernel); have z5 : (359999 : Int32).toInt = 359999 := (by decide +kernel); have r0 := fb_rng (a_0); have r1 := fb_rng (a_1); have r2 := fb_rng (a_2); have r3 := fb_rng (a_3); have e0 := k_0; rw [Int32.lt_iff_toInt_lt, z0] at e0; have e1 := k_1; rw [Int32.lt_iff_toInt_lt, z2] at e1; obtain ⟨n_0, hn_0, s0⟩ := nd_mul (x := (a_1)) (y := (720 : Int32)) (by (try rw [z4]); omega) (by (try rw [z4]); omega); rw [z4] at s0; obtain ⟨n_1, hn_1, s1⟩ := nd_add (x := n_0) (y := (719 : Int32)) (by (try rw [z3]); omega) (by (try rw [z3]); omega); rw [z3] at s1; have e2 := k_2; rw [Int32.lt_iff_toInt_lt, z0] at e2; have e3 := k_3; rw [Int32.lt_iff_toInt_lt, z5] at e3; obtain ⟨n_2, hn_2, s2⟩ := nd_add (x := a_2) (y := (1 : Int32)) (by (try rw [z1]); omega) (by (try rw [z1]); omega); rw [z1] at s2; have e4 := k_4; rw [hn_2, Int32.lt_iff_toInt_lt] at e4; have e5 := k_5; rw [← Int32.toInt_inj, z0] at e5; have e6 := k_6; rw [Int32.lt_iff_toInt_lt, z0] at e6; have e7 := k_7; rw [hn_0, hn_1, hn_2, Int32.lt_iff_toInt_lt] at e7; obtain ⟨n_3, hn_3, s3⟩ := nd_mul (x := (a_0)) (y := (720 : Int32)) (by (try rw [z4]); omega) (by (try rw [z4]); omega); rw [z4] at s3; obtain ⟨n_4, hn_4, s4⟩ := nd_add (x := n_3) (y := (a_3)) (by omega) (by omega); have e8 := k_8; rw [hn_2, hn_3, hn_4, ← Int32.toInt_inj] at e8; obtain ⟨n_5, hn_5, s5⟩ := nd_sub (x := (a_1)) (y := (1 : Int32)) (by (try rw [z1]); omega) (by (try rw [z1]); omega); rw [z1] at s5; rw [hn_5, Int32.lt_iff_toInt_lt, z0]; omega)) qu_11 r_13 (ti f_1 q0 1) y_11 po_14 po_15 bf_7.1 bf_7.2 g4_11 c_12 g3_11 po_17 g5_11)) (show ¬ (2147483640 < (r_13 - 1)) from by have e0 := po_14; rw [Int32.lt_iff_toInt_lt] at e0; have e1 := po_15; rw [Int32.lt_iff_toInt_lt] at e1; have z0 : (0 : Int32).toInt = 0 := (by decide +kernel); have z1 : (1 : Int32).toInt = 1 := (by decide +kernel); have z2 : (499 : Int32).toInt = 499 := (by decide +kernel); have z3 : (2147483640 : Int32).toInt = 2147483640 := (by decide +kernel); have ss := fb_subI (x := r_13) (y := 1) (by omega) (by omega); rw [Int32.lt_iff_toInt_lt]; omega) (fun y_18 qu_18 g1_18 g2_18 g3_18 g4_18 g5_18 g9_18 => ?_)
                have hQ := hQ y_18 g9_18
                refine lv_if_ne (tgt := 82) hx hb d_Md_minutes_69 (by decide) (fun c_19 => ?_) (fun c_19 => ?_)
                · have hQ := hQ.2 c_19
                  refine lv_aload_n hx hb d_Md_minutes_82 rfl (lv_at hl 0 rfl) ?_
                  refine vp_callSi (va_Run.run (va_runV (As := []) (rest := []) ⟨hx, hb, hml, hown, htb⟩ (c_Md_today_w l dC dI ct L_3 f_3 hO_3 q0 (hA_3.m m0) _ hQ) (cwV 0 htb (gd_V tw_113 tw_114 tw_115 tw_89 tw_112) rfl rfl rfl (by decide +kernel) ⟨Nat.le_of_ble_eq_true rfl, Nat.le_of_ble_eq_true rfl⟩) ⟨pr_blind, tw_recv hK hP (hA_3.m m0) rfl rfl, pr_pre hP hK hN⟩ rfl rfl hl.1 rfl (lv_room (Nat.le_of_ble_eq_true rfl)) d_Md_minutes_83 ⟨Nat.le_of_ble_eq_true rfl, Nat.le_of_ble_eq_true rfl⟩)) (fun r_20 er_20 => ?_)
                  obtain ⟨er_20, hQ⟩ := er_20
                  obtain ⟨po_21, po_22, po_23, po_24, -⟩ := er_20
                  rw [show ti f_3 q0 1 = ((ti f_1 q0 1) + 1) from ((hE_3.ei (hA_2.m m0) rfl).trans w_9)] at po_23
                  rw [show ti f_3 q0 1 = ((ti f_1 q0 1) + 1) from ((hE_3.ei (hA_2.m m0) rfl).trans w_9)] at po_24
                  refine lv_bipush (v := 100) hx hb d_Md_minutes_86 (by decide +kernel) ?_
                  refine lv_irem hx hb d_Md_minutes_88 (by decide) ?_
                  refine hb_remn (c := 100) (C1 := 99) (K := 2147483547) (by decide +kernel) (by decide +kernel) (by decide +kernel) po_21 (show ¬ (2147483547 < r_20) from by have e0 := po_21; rw [Int32.lt_iff_toInt_lt] at e0; have e1 := po_22; rw [Int32.lt_iff_toInt_lt] at e1; have z0 : (0 : Int32).toInt = 0 := (by decide +kernel); have z1 : (499 : Int32).toInt = 499 := (by decide +kernel); have z2 : (2147483547 : Int32).toInt = 2147483547 := (by decide +kernel); rw [Int32.lt_iff_toInt_lt]; omega) (fun y_25 qu_25 g1_25 g2_25 g3_25 g4_25 g5_25 g9_25 => ?_)
                  have hQ := hQ y_25 g9_25
                  refine lv_if_ne (tgt := 100) hx hb d_Md_minutes_89 (by decide) (fun c_26 => ?_) (fun c_26 => ?_)
                  · have hQ := hQ.2 c_26
                    refine lv_iinc (v := (v2_6 + 1)) (lv' := [(2, .int (v2_6 + 1)), (0, .ref q0), (1, .int p_0)]) hx hb d_Md_minutes_100 hl (k := 2) rfl rfl (by decide) rfl (fun ls hl => ?_)
                    refine lv_goto (tgt := 27) hx hb d_Md_minutes_103 (by decide) ?_
                    exact ih_6 (n_6 - 1) (ms_1 ((fun (a_0 : Int32) (a_1 : Int32) (k_0 : ¬ (a_0 ≤ a_1)) (k_1 : ¬ (1440 < a_0)) => (show 1 ≤ (1440 : Int32).toInt - (a_1).toInt ∧ (1440 : Int32).toInt - ((a_1) + (1 : Int32)).toInt + 1 ≤ (1440 : Int32).toInt - (a_1).toInt from by have z0 : (1 : Int32).toInt = 1 := (by decide +kernel); have z1 : (1440 : Int32).toInt = 1440 := (by decide +kernel); have r0 := fb_rng (a_0); have r1 := fb_rng (a_1); have e0 := k_0; rw [Int32.le_iff_toInt_le] at e0; have e1 := k_1; rw [Int32.lt_iff_toInt_lt, z1] at e1; obtain ⟨n_0, hn_0, s0⟩ := nd_add (x := (a_1)) (y := (1 : Int32)) (by (try rw [z0]); omega) (by (try rw [z0]); omega); rw [z0] at s0; rw [hn_0]; (try rw [z1]); omega)) p_0 v2_6 c_8 c_4) hm_6) (v2_6 + 1) _ _ _ _ _ hP hD hS hO_3 (((hE_1.trans hE_2).trans hE_3).mono (by decide +kernel)) (show ¬ ((v2_6 + 1) < 0) from by have e0 := iv0_6; rw [Int32.lt_iff_toInt_lt] at e0; have e1 := iv1_6; rw [Int32.lt_iff_toInt_lt] at e1; have z0 : (0 : Int32).toInt = 0 := (by decide +kernel); have z1 : (1 : Int32).toInt = 1 := (by decide +kernel); have z2 : (1440 : Int32).toInt = 1440 := (by decide +kernel); have ss := fb_addI (x := v2_6) (y := 1) (by omega) (by omega); rw [Int32.lt_iff_toInt_lt]; omega) (show ¬ (1440 < (v2_6 + 1)) from ((fun (a_0 : Int32) (a_1 : Int32) (k_0 : ¬ (a_0 ≤ a_1)) (k_1 : ¬ (1440 < a_0)) => (show ¬ (1440 < (a_1 + 1)) from by have z0 : (1 : Int32).toInt = 1 := (by decide +kernel); have z1 : (1440 : Int32).toInt = 1440 := (by decide +kernel); have r0 := fb_rng (a_0); have r1 := fb_rng (a_1); have e0 := k_0; rw [Int32.le_iff_toInt_le] at e0; have e1 := k_1; rw [Int32.lt_iff_toInt_lt, z1] at e1; obtain ⟨n_0, hn_0, s0⟩ := nd_add (x := (a_1)) (y := (1 : Int32)) (by (try rw [z0]); omega) (by (try rw [z0]); omega); rw [z0] at s0; rw [hn_0, Int32.lt_iff_toInt_lt, z1]; omega)) p_0 v2_6 c_8 c_4)) (by rw [show ti f_3 q0 1 = ((ti f_1 q0 1) + 1) from ((hE_3.ei (hA_2.m m0) rfl).trans w_9)]; first | done | exact (show ((ti f_1 q0 1) + 1) = ((ti f q0 1) + (v2_6 + 1)) from ((fun (a_0 : Int32) (a_1 : Int32) (a_2 : Int32) (a_3 : Int32) (k_0 : ¬ (359999 < a_1)) (k_1 : ¬ (a_3 < 0)) (k_2 : ¬ (a_0 ≤ a_3)) (k_3 : ¬ (1440 < a_0)) (k_4 : a_2 = (a_1 + a_3)) => (show (a_2 + 1) = (a_1 + (a_3 + 1)) from by have z0 : (0 : Int32).toInt = 0 := (by decide +kernel); have z1 : (1 : Int32).toInt = 1 := (by decide +kernel); have z2 : (1440 : Int32).toInt = 1440 := (by decide +kernel); have z3 : (359999 : Int32).toInt = 359999 := (by decide +kernel); have r0 := fb_rng (a_0); have r1 := fb_rng (a_1); have r2 := fb_rng (a_2); have r3 := fb_rng (a_3); have e0 := k_0; rw [Int32.lt_iff_toInt_lt, z3] at e0; have e1 := k_1; rw [Int32.lt_iff_toInt_lt, z0] at e1; have e2 := k_2; rw [Int32.le_iff_toInt_le] at e2; have e3 := k_3; rw [Int32.lt_iff_toInt_lt, z2] at e3; obtain ⟨n_0, hn_0, s0⟩ := nd_add (x := a_1) (y := (a_3)) (by omega) (by omega); have e4 := k_4; rw [hn_0, ← Int32.toInt_inj] at e4; obtain ⟨n_1, hn_1, s1⟩ := nd_add (x := a_2) (y := (1 : Int32)) (by (try rw [z1]); omega) (by (try rw [z1]); omega); rw [z1] at s1; obtain ⟨n_2, hn_2, s2⟩ := nd_add (x := (a_3)) (y := (1 : Int32)) (by (try rw [z1]); omega) (by (try rw [z1]); omega); rw [z1] at s2; obtain ⟨n_3, hn_3, s3⟩ := nd_add (x := a_1) (y := n_2) (by omega) (by omega); rw [hn_1, hn_2, hn_3, ← Int32.toInt_inj]; omega)) p_0 (ti f q0 1) (ti f_1 q0 1) v2_6 bs_1.2 iv0_6 c_8 c_4 iv2_6))) (by exact ms_2 ((fun (a_0 : Int32) (a_1 : Int32) (k_0 : ¬ (a_0 ≤ a_1)) (k_1 : ¬ (1440 < a_0)) => (show 1 ≤ (1440 : Int32).toInt - (a_1).toInt ∧ (1440 : Int32).toInt - ((a_1) + (1 : Int32)).toInt + 1 ≤ (1440 : Int32).toInt - (a_1).toInt from by have z0 : (1 : Int32).toInt = 1 := (by decide +kernel); have z1 : (1440 : Int32).toInt = 1440 := (by decide +kernel); have r0 := fb_rng (a_0); have r1 := fb_rng (a_1); have e0 := k_0; rw [Int32.le_iff_toInt_le] at e0; have e1 := k_1; rw [Int32.lt_iff_toInt_lt, z1] at e1; obtain ⟨n_0, hn_0, s0⟩ := nd_add (x := (a_1)) (y := (1 : Int32)) (by (try rw [z0]); omega) (by (try rw [z0]); omega); rw [z0] at s0; rw [hn_0]; (try rw [z1]); omega)) p_0 v2_6 c_8 c_4) hm_6) (by rw [← hrec_6, wpR_Md_minutes_w_27_6_pos (ms_3 ((fun (a_0 : Int32) (a_1 : Int32) (k_0 : ¬ (a_0 ≤ a_1)) (k_1 : ¬ (1440 < a_0)) => (show 1 ≤ (1440 : Int32).toInt - (a_1).toInt ∧ (1440 : Int32).toInt - ((a_1) + (1 : Int32)).toInt + 1 ≤ (1440 : Int32).toInt - (a_1).toInt from by have z0 : (1 : Int32).toInt = 1 := (by decide +kernel); have z1 : (1440 : Int32).toInt = 1440 := (by decide +kernel); have r0 := fb_rng (a_0); have r1 := fb_rng (a_1); have e0 := k_0; rw [Int32.le_iff_toInt_le] at e0; have e1 := k_1; rw [Int32.lt_iff_toInt_lt, z1] at e1; obtain ⟨n_0, hn_0, s0⟩ := nd_add (x := (a_1)) (y := (1 : Int32)) (by (try rw [z0]); omega) (by (try rw [z0]); omega); rw [z0] at s0; rw [hn_0]; (try rw [z1]); omega)) p_0 v2_6 c_8 c_4) hm_6)] at hQ; exact hQ) (lv_sub hl [1, 2, 0] rfl)
                  · have hQ := hQ.1 c_26
                    refine lv_aload_n hx hb d_Md_minutes_92 rfl (lv_at hl 0 rfl) ?_
                    refine lv_aload_n hx hb d_Md_minutes_93 rfl (lv_at hl 0 rfl) ?_
                    refine vp_callSi (va_Run.run (va_runV (As := []) (rest := [.ref q0]) ⟨hx, hb, hml, hown, htb⟩ (c_Md_today_w l dC dI ct L_3 f_3 hO_3 q0 (hA_3.m m0) _ hQ) (cwV 0 htb (gd_V tw_113 tw_114 tw_115 tw_89 tw_112) rfl rfl rfl (by decide +kernel) ⟨Nat.le_of_ble_eq_true rfl, Nat.le_of_ble_eq_true rfl⟩) ⟨pr_blind, tw_recv hK hP (hA_3.m m0) rfl rfl, pr_pre hP hK hN⟩ rfl rfl hl.1 rfl (lv_room (Nat.le_of_ble_eq_true rfl)) d_Md_minutes_94 ⟨Nat.le_of_ble_eq_true rfl, Nat.le_of_ble_eq_true rfl⟩)) (fun r_27 er_27 => ?_)
                    obtain ⟨er_27, hQ⟩ := er_27
                    obtain ⟨po_28, po_29, po_30, po_31, -⟩ := er_27
                    rw [show ti f_3 q0 1 = ((ti f_1 q0 1) + 1) from ((hE_3.ei (hA_2.m m0) rfl).trans w_9)] at po_30
                    rw [show ti f_3 q0 1 = ((ti f_1 q0 1) + 1) from ((hE_3.ei (hA_2.m m0) rfl).trans w_9)] at po_31
                    have hFc := hb_free hD hS hA
                    refine va_callv (va_runV (As := [.int r_27]) (rest := []) ⟨hx, hb, hml, hown, htb⟩ (c_Md_pay_t l dC dI ct L_3 f_3 hO_3 q0 (hA_3.m m0) _ r_27) (cwV 1 htb (gd_V tw_236 tw_237 tw_238 tw_89 tw_235) rfl rfl rfl (by decide +kernel) ⟨Nat.le_of_ble_eq_true rfl, Nat.le_of_ble_eq_true rfl⟩) ⟨pc_blind, tw_recv hK hP (hA_3.m m0) rfl rfl, pc_pre hP hK hD hN⟩ rfl rfl hl.1 rfl (lv_room (Nat.le_of_ble_eq_true rfl)) d_Md_minutes_97 ⟨Nat.le_of_ble_eq_true rfl, Nat.le_of_ble_eq_true rfl⟩) hS (fun q _ h => hFc q h) hFc (fun u t H locs ht hvm er hB hz1 hk1 hS => ?_)
                    obtain ⟨L_4, f_4⟩ := u
                    obtain ⟨hO_4, hE_4, er⟩ := er
                    obtain ⟨hP, hK1, hD1⟩ := hB
                    rw [ht] at hP
                    have hP : va_P (dC, dI) vwCl (TW ct L_4 f_4) H := hP
                    have hD : va_D A (TW ct L_4 f_4) := hD1.weaken (fun _ q _ h => hFc q.1 h)
                    have hO_4 : Ok L_4 f_4 := hO_4
                    have hE_4 : Ext W_Md_pay_t L_3 f_3 L_4 f_4 := hE_4
                    clear hK1 hD1 ht hvm hz1 hk1
                    have hA_4 := hA_3.trans hE_4
                    have hQ := hQ L_4 f_4 hO_4 hE_4
                    clear er
                    refine lv_iinc (v := (v2_6 + 1)) (lv' := [(2, .int (v2_6 + 1)), (0, .ref q0), (1, .int p_0)]) hx hb d_Md_minutes_100 hl (k := 2) rfl rfl (by decide) rfl (fun ls hl => ?_)
                    refine lv_goto (tgt := 27) hx hb d_Md_minutes_103 (by decide) ?_
                    exact ih_6 (n_6 - 1) (ms_1 ((fun (a_0 : Int32) (a_1 : Int32) (k_0 : ¬ (a_0 ≤ a_1)) (k_1 : ¬ (1440 < a_0)) => (show 1 ≤ (1440 : Int32).toInt - (a_1).toInt ∧ (1440 : Int32).toInt - ((a_1) + (1 : Int32)).toInt + 1 ≤ (1440 : Int32).toInt - (a_1).toInt from by have z0 : (1 : Int32).toInt = 1 := (by decide +kernel); have z1 : (1440 : Int32).toInt = 1440 := (by decide +kernel); have r0 := fb_rng (a_0); have r1 := fb_rng (a_1); have e0 := k_0; rw [Int32.le_iff_toInt_le] at e0; have e1 := k_1; rw [Int32.lt_iff_toInt_lt, z1] at e1; obtain ⟨n_0, hn_0, s0⟩ := nd_add (x := (a_1)) (y := (1 : Int32)) (by (try rw [z0]); omega) (by (try rw [z0]); omega); rw [z0] at s0; rw [hn_0]; (try rw [z1]); omega)) p_0 v2_6 c_8 c_4) hm_6) (v2_6 + 1) _ _ _ _ _ hP hD hS hO_4 ((((hE_1.trans hE_2).trans hE_3).trans hE_4).mono (by decide +kernel)) (show ¬ ((v2_6 + 1) < 0) from by have e0 := iv0_6; rw [Int32.lt_iff_toInt_lt] at e0; have e1 := iv1_6; rw [Int32.lt_iff_toInt_lt] at e1; have z0 : (0 : Int32).toInt = 0 := (by decide +kernel); have z1 : (1 : Int32).toInt = 1 := (by decide +kernel); have z2 : (1440 : Int32).toInt = 1440 := (by decide +kernel); have ss := fb_addI (x := v2_6) (y := 1) (by omega) (by omega); rw [Int32.lt_iff_toInt_lt]; omega) (show ¬ (1440 < (v2_6 + 1)) from ((fun (a_0 : Int32) (a_1 : Int32) (k_0 : ¬ (a_0 ≤ a_1)) (k_1 : ¬ (1440 < a_0)) => (show ¬ (1440 < (a_1 + 1)) from by have z0 : (1 : Int32).toInt = 1 := (by decide +kernel); have z1 : (1440 : Int32).toInt = 1440 := (by decide +kernel); have r0 := fb_rng (a_0); have r1 := fb_rng (a_1); have e0 := k_0; rw [Int32.le_iff_toInt_le] at e0; have e1 := k_1; rw [Int32.lt_iff_toInt_lt, z1] at e1; obtain ⟨n_0, hn_0, s0⟩ := nd_add (x := (a_1)) (y := (1 : Int32)) (by (try rw [z0]); omega) (by (try rw [z0]); omega); rw [z0] at s0; rw [hn_0, Int32.lt_iff_toInt_lt, z1]; omega)) p_0 v2_6 c_8 c_4)) (by rw [show ti f_4 q0 1 = ((ti f_1 q0 1) + 1) from ((hE_4.ei (hA_3.m m0) rfl).trans ((hE_3.ei (hA_2.m m0) rfl).trans w_9))]; first | done | exact (show ((ti f_1 q0 1) + 1) = ((ti f q0 1) + (v2_6 + 1)) from ((fun (a_0 : Int32) (a_1 : Int32) (a_2 : Int32) (a_3 : Int32) (k_0 : ¬ (359999 < a_1)) (k_1 : ¬ (a_3 < 0)) (k_2 : ¬ (a_0 ≤ a_3)) (k_3 : ¬ (1440 < a_0)) (k_4 : a_2 = (a_1 + a_3)) => (show (a_2 + 1) = (a_1 + (a_3 + 1)) from by have z0 : (0 : Int32).toInt = 0 := (by decide +kernel); have z1 : (1 : Int32).toInt = 1 := (by decide +kernel); have z2 : (1440 : Int32).toInt = 1440 := (by decide +kernel); have z3 : (359999 : Int32).toInt = 359999 := (by decide +kernel); have r0 := fb_rng (a_0); have r1 := fb_rng (a_1); have r2 := fb_rng (a_2); have r3 := fb_rng (a_3); have e0 := k_0; rw [Int32.lt_iff_toInt_lt, z3] at e0; have e1 := k_1; rw [Int32.lt_iff_toInt_lt, z0] at e1; have e2 := k_2; rw [Int32.le_iff_toInt_le] at e2; have e3 := k_3; rw [Int32.lt_iff_toInt_lt, z2] at e3; obtain ⟨n_0, hn_0, s0⟩ := nd_add (x := a_1) (y := (a_3)) (by omega) (by omega); have e4 := k_4; rw [hn_0, ← Int32.toInt_inj] at e4; obtain ⟨n_1, hn_1, s1⟩ := nd_add (x := a_2) (y := (1 : Int32)) (by (try rw [z1]); omega) (by (try rw [z1]); omega); rw [z1] at s1; obtain ⟨n_2, hn_2, s2⟩ := nd_add (x := (a_3)) (y := (1 : Int32)) (by (try rw [z1]); omega) (by (try rw [z1]); omega); rw [z1] at s2; obtain ⟨n_3, hn_3, s3⟩ := nd_add (x := a_1) (y := n_2) (by omega) (by omega); rw [hn_1, hn_2, hn_3, ← Int32.toInt_inj]; omega)) p_0 (ti f q0 1) (ti f_1 q0 1) v2_6 bs_1.2 iv0_6 c_8 c_4 iv2_6))) (by exact ms_2 ((fun (a_0 : Int32) (a_1 : Int32) (k_0 : ¬ (a_0 ≤ a_1)) (k_1 : ¬ (1440 < a_0)) => (show 1 ≤ (1440 : Int32).toInt - (a_1).toInt ∧ (1440 : Int32).toInt - ((a_1) + (1 : Int32)).toInt + 1 ≤ (1440 : Int32).toInt - (a_1).toInt from by have z0 : (1 : Int32).toInt = 1 := (by decide +kernel); have z1 : (1440 : Int32).toInt = 1440 := (by decide +kernel); have r0 := fb_rng (a_0); have r1 := fb_rng (a_1); have e0 := k_0; rw [Int32.le_iff_toInt_le] at e0; have e1 := k_1; rw [Int32.lt_iff_toInt_lt, z1] at e1; obtain ⟨n_0, hn_0, s0⟩ := nd_add (x := (a_1)) (y := (1 : Int32)) (by (try rw [z0]); omega) (by (try rw [z0]); omega); rw [z0] at s0; rw [hn_0]; (try rw [z1]); omega)) p_0 v2_6 c_8 c_4) hm_6) (by rw [← hrec_6, wpR_Md_minutes_w_27_6_pos (ms_3 ((fun (a_0 : Int32) (a_1 : Int32) (k_0 : ¬ (a_0 ≤ a_1)) (k_1 : ¬ (1440 < a_0)) => (show 1 ≤ (1440 : Int32).toInt - (a_1).toInt ∧ (1440 : Int32).toInt - ((a_1) + (1 : Int32)).toInt + 1 ≤ (1440 : Int32).toInt - (a_1).toInt from by have z0 : (1 : Int32).toInt = 1 := (by decide +kernel); have z1 : (1440 : Int32).toInt = 1440 := (by decide +kernel); have r0 := fb_rng (a_0); have r1 := fb_rng (a_1); have e0 := k_0; rw [Int32.le_iff_toInt_le] at e0; have e1 := k_1; rw [Int32.lt_iff_toInt_lt, z1] at e1; obtain ⟨n_0, hn_0, s0⟩ := nd_add (x := (a_1)) (y := (1 : Int32)) (by (try rw [z0]); omega) (by (try rw [z0]); omega); rw [z0] at s0; rw [hn_0]; (try rw [z1]); omega)) p_0 v2_6 c_8 c_4) hm_6)] at hQ; exact hQ) (lv_sub hl [1, 2, 0] rfl)
                · have hQ := hQ.1 c_19
                  refine lv_aload_n hx hb d_Md_minutes_72 rfl (lv_at hl 0 rfl) ?_
                  refine lv_aload_n hx hb d_Md_minutes_73 rfl (lv_at hl 0 rfl) ?_
                  refine vp_callSi (va_Run.run (va_runV (As := []) (rest := [.ref q0]) ⟨hx, hb, hml, hown, htb⟩ (c_Md_today_w l dC dI ct L_3 f_3 hO_3 q0 (hA_3.m m0) _ hQ) (cwV 0 htb (gd_V tw_113 tw_114 tw_115 tw_89 tw_112) rfl rfl rfl (by decide +kernel) ⟨Nat.le_of_ble_eq_true rfl, Nat.le_of_ble_eq_true rfl⟩) ⟨pr_blind, tw_recv hK hP (hA_3.m m0) rfl rfl, pr_pre hP hK hN⟩ rfl rfl hl.1 rfl (lv_room (Nat.le_of_ble_eq_true rfl)) d_Md_minutes_74 ⟨Nat.le_of_ble_eq_true rfl, Nat.le_of_ble_eq_true rfl⟩)) (fun r_33 er_33 => ?_)
                  obtain ⟨er_33, hQ⟩ := er_33
                  obtain ⟨po_34, po_35, po_36, po_37, -⟩ := er_33
                  rw [show ti f_3 q0 1 = ((ti f_1 q0 1) + 1) from ((hE_3.ei (hA_2.m m0) rfl).trans w_9)] at po_36
                  rw [show ti f_3 q0 1 = ((ti f_1 q0 1) + 1) from ((hE_3.ei (hA_2.m m0) rfl).trans w_9)] at po_37
                  refine lv_iconst (v := 1) hx hb d_Md_minutes_77 (by decide +kernel) ?_
                  refine lv_isub hx hb d_Md_minutes_78 ?_
                  have hFc := hb_free hD hS hA
                  refine va_callv (va_runV (As := [.int (r_33 - 1)]) (rest := []) ⟨hx, hb, hml, hown, htb⟩ (c_Md_part_t l dC dI ct L_3 f_3 hO_3 q0 (hA_3.m m0) _ (r_33 - 1) (show ¬ ((r_33 - 1) < 0) from ((fun (a_0 : Int32) (a_1 : Int32) (a_2 : Int32) (a_3 : Int32) (k_0 : ¬ (a_2 < 0)) (k_1 : ¬ (499 < a_2)) (k_2 : ¬ (359999 < a_3)) (k_3 : ¬ (a_1 < 0)) (k_4 : ¬ (499 < a_1)) (k_5 : ¬ (a_0 < 0)) (k_6 : ¬ (((a_2 * 720) + 719) < (a_3 + 1))) (k_7 : ¬ ((a_3 + 1) < (a_1 * 720))) (k_8 : ¬ ((a_1 - 1) < a_0)) => (show ¬ ((a_2 - 1) < 0) from by have z0 : (0 : Int32).toInt = 0 := (by decide +kernel); have z1 : (1 : Int32).toInt = 1 := (by decide +kernel); have z2 : (499 : Int32).toInt = 499 := (by decide +kernel); have z3 : (719 : Int32).toInt = 719 := (by decide +kernel); have z4 : (720 : Int32).toInt = 720 := (by decide +kernel); have z5 : (359999 : Int32).toInt = 359999 := (by decide +kernel); have r0 := fb_rng (a_0); have r1 := fb_rng (a_1); have r2 := fb_rng (a_2); have r3 := fb_rng (a_3); have e0 := k_0; rw [Int32.lt_iff_toInt_lt, z0] at e0; have e1 := k_1; rw [Int32.lt_iff_toInt_lt, z2] at e1; obtain ⟨n_0, hn_0, s0⟩ := nd_mul (x := (a_2)) (y := (720 : Int32)) (by (try rw [z4]); omega) (by (try rw [z4]); omega); rw [z4] at s0; obtain ⟨n_1, hn_1, s1⟩ := nd_add (x := n_0) (y := (719 : Int32)) (by (try rw [z3]); omega) (by (try rw [z3]); omega); rw [z3] at s1; have e2 := k_2; rw [Int32.lt_iff_toInt_lt, z5] at e2; obtain ⟨n_2, hn_2, s2⟩ := nd_add (x := a_3) (y := (1 : Int32)) (by (try rw [z1]); omega) (by (try rw [z1]); omega); rw [z1] at s2; have e3 := k_3; rw [Int32.lt_iff_toInt_lt, z0] at e3; have e4 := k_4; rw [Int32.lt_iff_toInt_lt, z2] at e4; have e5 := k_5; rw [Int32.lt_iff_toInt_lt, z0] at e5; have e6 := k_6; rw [hn_0, hn_1, hn_2, Int32.lt_iff_toInt_lt] at e6; obtain ⟨n_3, hn_3, s3⟩ := nd_mul (x := (a_1)) (y := (720 : Int32)) (by (try rw [z4]); omega) (by (try rw [z4]); omega); rw [z4] at s3; have e7 := k_7; rw [hn_2, hn_3, Int32.lt_iff_toInt_lt] at e7; obtain ⟨n_4, hn_4, s4⟩ := nd_sub (x := (a_1)) (y := (1 : Int32)) (by (try rw [z1]); omega) (by (try rw [z1]); omega); rw [z1] at s4; have e8 := k_8; rw [hn_4, Int32.lt_iff_toInt_lt] at e8; obtain ⟨n_5, hn_5, s5⟩ := nd_sub (x := (a_2)) (y := (1 : Int32)) (by (try rw [z1]); omega) (by (try rw [z1]); omega); rw [z1] at s5; rw [hn_5, Int32.lt_iff_toInt_lt, z0]; omega)) qu_18 r_13 r_33 (ti f_1 q0 1) po_34 po_35 bf_7.2 po_14 po_15 g3_18 po_37 po_16 g4_18)) (show ¬ (499 < (r_33 - 1)) from by have e0 := po_34; rw [Int32.lt_iff_toInt_lt] at e0; have e1 := po_35; rw [Int32.lt_iff_toInt_lt] at e1; have z0 : (0 : Int32).toInt = 0 := (by decide +kernel); have z1 : (1 : Int32).toInt = 1 := (by decide +kernel); have z2 : (499 : Int32).toInt = 499 := (by decide +kernel); have ss := fb_subI (x := r_33) (y := 1) (by omega) (by omega); rw [Int32.lt_iff_toInt_lt]; omega)) (cwV 1 htb (gd_V tw_241 tw_242 tw_243 tw_89 tw_240) rfl rfl rfl (by decide +kernel) ⟨Nat.le_of_ble_eq_true rfl, Nat.le_of_ble_eq_true rfl⟩) ⟨pc_blind, tw_recv hK hP (hA_3.m m0) rfl rfl, pc_pre hP hK hD hN⟩ rfl rfl hl.1 rfl (lv_room (Nat.le_of_ble_eq_true rfl)) d_Md_minutes_79 ⟨Nat.le_of_ble_eq_true rfl, Nat.le_of_ble_eq_true rfl⟩) hS (fun q _ h => hFc q h) hFc (fun u t H locs ht hvm er hB hz1 hk1 hS => ?_)
                  obtain ⟨L_4, f_4⟩ := u
                  obtain ⟨hO_4, hE_4, er⟩ := er
                  obtain ⟨hP, hK1, hD1⟩ := hB
                  rw [ht] at hP
                  have hP : va_P (dC, dI) vwCl (TW ct L_4 f_4) H := hP
                  have hD : va_D A (TW ct L_4 f_4) := hD1.weaken (fun _ q _ h => hFc q.1 h)
                  have hO_4 : Ok L_4 f_4 := hO_4
                  have hE_4 : Ext W_Md_part_t L_3 f_3 L_4 f_4 := hE_4
                  clear hK1 hD1 ht hvm hz1 hk1
                  have hA_4 := hA_3.trans hE_4
                  have hQ := hQ L_4 f_4 hO_4 hE_4
                  clear er
                  refine lv_aload_n hx hb d_Md_minutes_82 rfl (lv_at hl 0 rfl) ?_
                  refine vp_callSi (va_Run.run (va_runV (As := []) (rest := []) ⟨hx, hb, hml, hown, htb⟩ (c_Md_today_w l dC dI ct L_4 f_4 hO_4 q0 (hA_4.m m0) _ hQ) (cwV 0 htb (gd_V tw_113 tw_114 tw_115 tw_89 tw_112) rfl rfl rfl (by decide +kernel) ⟨Nat.le_of_ble_eq_true rfl, Nat.le_of_ble_eq_true rfl⟩) ⟨pr_blind, tw_recv hK hP (hA_4.m m0) rfl rfl, pr_pre hP hK hN⟩ rfl rfl hl.1 rfl (lv_room (Nat.le_of_ble_eq_true rfl)) d_Md_minutes_83 ⟨Nat.le_of_ble_eq_true rfl, Nat.le_of_ble_eq_true rfl⟩)) (fun r_39 er_39 => ?_)
                  obtain ⟨er_39, hQ⟩ := er_39
                  obtain ⟨po_40, po_41, po_42, po_43, -⟩ := er_39
                  rw [show ti f_4 q0 1 = ((ti f_1 q0 1) + 1) from ((hE_4.ei (hA_3.m m0) rfl).trans ((hE_3.ei (hA_2.m m0) rfl).trans w_9))] at po_42
                  rw [show ti f_4 q0 1 = ((ti f_1 q0 1) + 1) from ((hE_4.ei (hA_3.m m0) rfl).trans ((hE_3.ei (hA_2.m m0) rfl).trans w_9))] at po_43
                  refine lv_bipush (v := 100) hx hb d_Md_minutes_86 (by decide +kernel) ?_
                  refine lv_irem hx hb d_Md_minutes_88 (by decide) ?_
                  refine hb_remn (c := 100) (C1 := 99) (K := 2147483547) (by decide +kernel) (by decide +kernel) (by decide +kernel) po_40 (show ¬ (2147483547 < r_39) from by have e0 := po_40; rw [Int32.lt_iff_toInt_lt] at e0; have e1 := po_41; rw [Int32.lt_iff_toInt_lt] at e1; have z0 : (0 : Int32).toInt = 0 := (by decide +kernel); have z1 : (499 : Int32).toInt = 499 := (by decide +kernel); have z2 : (2147483547 : Int32).toInt = 2147483547 := (by decide +kernel); rw [Int32.lt_iff_toInt_lt]; omega) (fun y_44 qu_44 g1_44 g2_44 g3_44 g4_44 g5_44 g9_44 => ?_)
                  have hQ := hQ y_44 g9_44
                  refine lv_if_ne (tgt := 100) hx hb d_Md_minutes_89 (by decide) (fun c_45 => ?_) (fun c_45 => ?_)
                  · have hQ := hQ.2 c_45
                    refine lv_iinc (v := (v2_6 + 1)) (lv' := [(2, .int (v2_6 + 1)), (0, .ref q0), (1, .int p_0)]) hx hb d_Md_minutes_100 hl (k := 2) rfl rfl (by decide) rfl (fun ls hl => ?_)
                    refine lv_goto (tgt := 27) hx hb d_Md_minutes_103 (by decide) ?_
                    exact ih_6 (n_6 - 1) (ms_1 ((fun (a_0 : Int32) (a_1 : Int32) (k_0 : ¬ (a_0 ≤ a_1)) (k_1 : ¬ (1440 < a_0)) => (show 1 ≤ (1440 : Int32).toInt - (a_1).toInt ∧ (1440 : Int32).toInt - ((a_1) + (1 : Int32)).toInt + 1 ≤ (1440 : Int32).toInt - (a_1).toInt from by have z0 : (1 : Int32).toInt = 1 := (by decide +kernel); have z1 : (1440 : Int32).toInt = 1440 := (by decide +kernel); have r0 := fb_rng (a_0); have r1 := fb_rng (a_1); have e0 := k_0; rw [Int32.le_iff_toInt_le] at e0; have e1 := k_1; rw [Int32.lt_iff_toInt_lt, z1] at e1; obtain ⟨n_0, hn_0, s0⟩ := nd_add (x := (a_1)) (y := (1 : Int32)) (by (try rw [z0]); omega) (by (try rw [z0]); omega); rw [z0] at s0; rw [hn_0]; (try rw [z1]); omega)) p_0 v2_6 c_8 c_4) hm_6) (v2_6 + 1) _ _ _ _ _ hP hD hS hO_4 ((((hE_1.trans hE_2).trans hE_3).trans hE_4).mono (by decide +kernel)) (show ¬ ((v2_6 + 1) < 0) from by have e0 := iv0_6; rw [Int32.lt_iff_toInt_lt] at e0; have e1 := iv1_6; rw [Int32.lt_iff_toInt_lt] at e1; have z0 : (0 : Int32).toInt = 0 := (by decide +kernel); have z1 : (1 : Int32).toInt = 1 := (by decide +kernel); have z2 : (1440 : Int32).toInt = 1440 := (by decide +kernel); have ss := fb_addI (x := v2_6) (y := 1) (by omega) (by omega); rw [Int32.lt_iff_toInt_lt]; omega) (show ¬ (1440 < (v2_6 + 1)) from ((fun (a_0 : Int32) (a_1 : Int32) (k_0 : ¬ (a_0 ≤ a_1)) (k_1 : ¬ (1440 < a_0)) => (show ¬ (1440 < (a_1 + 1)) from by have z0 : (1 : Int32).toInt = 1 := (by decide +kernel); have z1 : (1440 : Int32).toInt = 1440 := (by decide +kernel); have r0 := fb_rng (a_0); have r1 := fb_rng (a_1); have e0 := k_0; rw [Int32.le_iff_toInt_le] at e0; have e1 := k_1; rw [Int32.lt_iff_toInt_lt, z1] at e1; obtain ⟨n_0, hn_0, s0⟩ := nd_add (x := (a_1)) (y := (1 : Int32)) (by (try rw [z0]); omega) (by (try rw [z0]); omega); rw [z0] at s0; rw [hn_0, Int32.lt_iff_toInt_lt, z1]; omega)) p_0 v2_6 c_8 c_4)) (by rw [show ti f_4 q0 1 = ((ti f_1 q0 1) + 1) from ((hE_4.ei (hA_3.m m0) rfl).trans ((hE_3.ei (hA_2.m m0) rfl).trans w_9))]; first | done | exact (show ((ti f_1 q0 1) + 1) = ((ti f q0 1) + (v2_6 + 1)) from ((fun (a_0 : Int32) (a_1 : Int32) (a_2 : Int32) (a_3 : Int32) (k_0 : ¬ (359999 < a_1)) (k_1 : ¬ (a_3 < 0)) (k_2 : ¬ (a_0 ≤ a_3)) (k_3 : ¬ (1440 < a_0)) (k_4 : a_2 = (a_1 + a_3)) => (show (a_2 + 1) = (a_1 + (a_3 + 1)) from by have z0 : (0 : Int32).toInt = 0 := (by decide +kernel); have z1 : (1 : Int32).toInt = 1 := (by decide +kernel); have z2 : (1440 : Int32).toInt = 1440 := (by decide +kernel); have z3 : (359999 : Int32).toInt = 359999 := (by decide +kernel); have r0 := fb_rng (a_0); have r1 := fb_rng (a_1); have r2 := fb_rng (a_2); have r3 := fb_rng (a_3); have e0 := k_0; rw [Int32.lt_iff_toInt_lt, z3] at e0; have e1 := k_1; rw [Int32.lt_iff_toInt_lt, z0] at e1; have e2 := k_2; rw [Int32.le_iff_toInt_le] at e2; have e3 := k_3; rw [Int32.lt_iff_toInt_lt, z2] at e3; obtain ⟨n_0, hn_0, s0⟩ := nd_add (x := a_1) (y := (a_3)) (by omega) (by omega); have e4 := k_4; rw [hn_0, ← Int32.toInt_inj] at e4; obtain ⟨n_1, hn_1, s1⟩ := nd_add (x := a_2) (y := (1 : Int32)) (by (try rw [z1]); omega) (by (try rw [z1]); omega); rw [z1] at s1; obtain ⟨n_2, hn_2, s2⟩ := nd_add (x := (a_3)) (y := (1 : Int32)) (by (try rw [z1]); omega) (by (try rw [z1]); omega); rw [z1] at s2; obtain ⟨n_3, hn_3, s3⟩ := nd_add (x := a_1) (y := n_2) (by omega) (by omega); rw [hn_1, hn_2, hn_3, ← Int32.toInt_inj]; omega)) p_0 (ti f q0 1) (ti f_1 q0 1) v2_6 bs_1.2 iv0_6 c_8 c_4 iv2_6))) (by exact ms_2 ((fun (a_0 : Int32) (a_1 : Int32) (k_0 : ¬ (a_0 ≤ a_1)) (k_1 : ¬ (1440 < a_0)) => (show 1 ≤ (1440 : Int32).toInt - (a_1).toInt ∧ (1440 : Int32).toInt - ((a_1) + (1 : Int32)).toInt + 1 ≤ (1440 : Int32).toInt - (a_1).toInt from by have z0 : (1 : Int32).toInt = 1 := (by decide +kernel); have z1 : (1440 : Int32).toInt = 1440 := (by decide +kernel); have r0 := fb_rng (a_0); have r1 := fb_rng (a_1); have e0 := k_0; rw [Int32.le_iff_toInt_le] at e0; have e1 := k_1; rw [Int32.lt_iff_toInt_lt, z1] at e1; obtain ⟨n_0, hn_0, s0⟩ := nd_add (x := (a_1)) (y := (1 : Int32)) (by (try rw [z0]); omega) (by (try rw [z0]); omega); rw [z0] at s0; rw [hn_0]; (try rw [z1]); omega)) p_0 v2_6 c_8 c_4) hm_6) (by rw [← hrec_6, wpR_Md_minutes_w_27_6_pos (ms_3 ((fun (a_0 : Int32) (a_1 : Int32) (k_0 : ¬ (a_0 ≤ a_1)) (k_1 : ¬ (1440 < a_0)) => (show 1 ≤ (1440 : Int32).toInt - (a_1).toInt ∧ (1440 : Int32).toInt - ((a_1) + (1 : Int32)).toInt + 1 ≤ (1440 : Int32).toInt - (a_1).toInt from by have z0 : (1 : Int32).toInt = 1 := (by decide +kernel); have z1 : (1440 : Int32).toInt = 1440 := (by decide +kernel); have r0 := fb_rng (a_0); have r1 := fb_rng (a_1); have e0 := k_0; rw [Int32.le_iff_toInt_le] at e0; have e1 := k_1; rw [Int32.lt_iff_toInt_lt, z1] at e1; obtain ⟨n_0, hn_0, s0⟩ := nd_add (x := (a_1)) (y := (1 : Int32)) (by (try rw [z0]); omega) (by (try rw [z0]); omega); rw [z0] at s0; rw [hn_0]; (try rw [z1]); omega)) p_0 v2_6 c_8 c_4) hm_6)] at hQ; exact hQ) (lv_sub hl [1, 2, 0] rfl)
                  · have hQ := hQ.1 c_45
                    refine lv_aload_n hx hb d_Md_minutes_92 rfl (lv_at hl 0 rfl) ?_
                    refine lv_aload_n hx hb d_Md_minutes_93 rfl (lv_at hl 0 rfl) ?_
                    refine vp_callSi (va_Run.run (va_runV (As := []) (rest := [.ref q0]) ⟨hx, hb, hml, hown, htb⟩ (c_Md_today_w l dC dI ct L_4 f_4 hO_4 q0 (hA_4.m m0) _ hQ) (cwV 0 htb (gd_V tw_113 tw_114 tw_115 tw_89 tw_112) rfl rfl rfl (by decide +kernel) ⟨Nat.le_of_ble_eq_true rfl, Nat.le_of_ble_eq_true rfl⟩) ⟨pr_blind, tw_recv hK hP (hA_4.m m0) rfl rfl, pr_pre hP hK hN⟩ rfl rfl hl.1 rfl (lv_room (Nat.le_of_ble_eq_true rfl)) d_Md_minutes_94 ⟨Nat.le_of_ble_eq_true rfl, Nat.le_of_ble_eq_true rfl⟩)) (fun r_46 er_46 => ?_)
                    obtain ⟨er_46, hQ⟩ := er_46
                    obtain ⟨po_47, po_48, po_49, po_50, -⟩ := er_46
                    rw [show ti f_4 q0 1 = ((ti f_1 q0 1) + 1) from ((hE_4.ei (hA_3.m m0) rfl).trans ((hE_3.ei (hA_2.m m0) rfl).trans w_9))] at po_49
                    rw [show ti f_4 q0 1 = ((ti f_1 q0 1) + 1) from ((hE_4.ei (hA_3.m m0) rfl).trans ((hE_3.ei (hA_2.m m0) rfl).trans w_9))] at po_50
                    have hFc := hb_free hD hS hA
                    refine va_callv (va_runV (As := [.int r_46]) (rest := []) ⟨hx, hb, hml, hown, htb⟩ (c_Md_pay_t l dC dI ct L_4 f_4 hO_4 q0 (hA_4.m m0) _ r_46) (cwV 1 htb (gd_V tw_236 tw_237 tw_238 tw_89 tw_235) rfl rfl rfl (by decide +kernel) ⟨Nat.le_of_ble_eq_true rfl, Nat.le_of_ble_eq_true rfl⟩) ⟨pc_blind, tw_recv hK hP (hA_4.m m0) rfl rfl, pc_pre hP hK hD hN⟩ rfl rfl hl.1 rfl (lv_room (Nat.le_of_ble_eq_true rfl)) d_Md_minutes_97 ⟨Nat.le_of_ble_eq_true rfl, Nat.le_of_ble_eq_true rfl⟩) hS (fun q _ h => hFc q h) hFc (fun u t H locs ht hvm er hB hz1 hk1 hS => ?_)
                    obtain ⟨L_5, f_5⟩ := u
                    obtain ⟨hO_5, hE_5, er⟩ := er
                    obtain ⟨hP, hK1, hD1⟩ := hB
                    rw [ht] at hP
                    have hP : va_P (dC, dI) vwCl (TW ct L_5 f_5) H := hP
                    have hD : va_D A (TW ct L_5 f_5) := hD1.weaken (fun _ q _ h => hFc q.1 h)
                    have hO_5 : Ok L_5 f_5 := hO_5
                    have hE_5 : Ext W_Md_pay_t L_4 f_4 L_5 f_5 := hE_5
                    clear hK1 hD1 ht hvm hz1 hk1
                    have hA_5 := hA_4.trans hE_5
                    have hQ := hQ L_5 f_5 hO_5 hE_5
                    clear er
                    refine lv_iinc (v := (v2_6 + 1)) (lv' := [(2, .int (v2_6 + 1)), (0, .ref q0), (1, .int p_0)]) hx hb d_Md_minutes_100 hl (k := 2) rfl rfl (by decide) rfl (fun ls hl => ?_)
                    refine lv_goto (tgt := 27) hx hb d_Md_minutes_103 (by decide) ?_
                    exact ih_6 (n_6 - 1) (ms_1 ((fun (a_0 : Int32) (a_1 : Int32) (k_0 : ¬ (a_0 ≤ a_1)) (k_1 : ¬ (1440 < a_0)) => (show 1 ≤ (1440 : Int32).toInt - (a_1).toInt ∧ (1440 : Int32).toInt - ((a_1) + (1 : Int32)).toInt + 1 ≤ (1440 : Int32).toInt - (a_1).toInt from by have z0 : (1 : Int32).toInt = 1 := (by decide +kernel); have z1 : (1440 : Int32).toInt = 1440 := (by decide +kernel); have r0 := fb_rng (a_0); have r1 := fb_rng (a_1); have e0 := k_0; rw [Int32.le_iff_toInt_le] at e0; have e1 := k_1; rw [Int32.lt_iff_toInt_lt, z1] at e1; obtain ⟨n_0, hn_0, s0⟩ := nd_add (x := (a_1)) (y := (1 : Int32)) (by (try rw [z0]); omega) (by (try rw [z0]); omega); rw [z0] at s0; rw [hn_0]; (try rw [z1]); omega)) p_0 v2_6 c_8 c_4) hm_6) (v2_6 + 1) _ _ _ _ _ hP hD hS hO_5 (((((hE_1.trans hE_2).trans hE_3).trans hE_4).trans hE_5).mono (by decide +kernel)) (show ¬ ((v2_6 + 1) < 0) from by have e0 := iv0_6; rw [Int32.lt_iff_toInt_lt] at e0; have e1 := iv1_6; rw [Int32.lt_iff_toInt_lt] at e1; have z0 : (0 : Int32).toInt = 0 := (by decide +kernel); have z1 : (1 : Int32).toInt = 1 := (by decide +kernel); have z2 : (1440 : Int32).toInt = 1440 := (by decide +kernel); have ss := fb_addI (x := v2_6) (y := 1) (by omega) (by omega); rw [Int32.lt_iff_toInt_lt]; omega) (show ¬ (1440 < (v2_6 + 1)) from ((fun (a_0 : Int32) (a_1 : Int32) (k_0 : ¬ (a_0 ≤ a_1)) (k_1 : ¬ (1440 < a_0)) => (show ¬ (1440 < (a_1 + 1)) from by have z0 : (1 : Int32).toInt = 1 := (by decide +kernel); have z1 : (1440 : Int32).toInt = 1440 := (by decide +kernel); have r0 := fb_rng (a_0); have r1 := fb_rng (a_1); have e0 := k_0; rw [Int32.le_iff_toInt_le] at e0; have e1 := k_1; rw [Int32.lt_iff_toInt_lt, z1] at e1; obtain ⟨n_0, hn_0, s0⟩ := nd_add (x := (a_1)) (y := (1 : Int32)) (by (try rw [z0]); omega) (by (try rw [z0]); omega); rw [z0] at s0; rw [hn_0, Int32.lt_iff_toInt_lt, z1]; omega)) p_0 v2_6 c_8 c_4)) (by rw [show ti f_5 q0 1 = ((ti f_1 q0 1) + 1) from ((hE_5.ei (hA_4.m m0) rfl).trans ((hE_4.ei (hA_3.m m0) rfl).trans ((hE_3.ei (hA_2.m m0) rfl).trans w_9)))]; first | done | exact (show ((ti f_1 q0 1) + 1) = ((ti f q0 1) + (v2_6 + 1)) from ((fun (a_0 : Int32) (a_1 : Int32) (a_2 : Int32) (a_3 : Int32) (k_0 : ¬ (359999 < a_1)) (k_1 : ¬ (a_3 < 0)) (k_2 : ¬ (a_0 ≤ a_3)) (k_3 : ¬ (1440 < a_0)) (k_4 : a_2 = (a_1 + a_3)) => (show (a_2 + 1) = (a_1 + (a_3 + 1)) from by have z0 : (0 : Int32).toInt = 0 := (by decide +kernel); have z1 : (1 : Int32).toInt = 1 := (by decide +kernel); have z2 : (1440 : Int32).toInt = 1440 := (by decide +kernel); have z3 : (359999 : Int32).toInt = 359999 := (by decide +kernel); have r0 := fb_rng (a_0); have r1 := fb_rng (a_1); have r2 := fb_rng (a_2); have r3 := fb_rng (a_3); have e0 := k_0; rw [Int32.lt_iff_toInt_lt, z3] at e0; have e1 := k_1; rw [Int32.lt_iff_toInt_lt, z0] at e1; have e2 := k_2; rw [Int32.le_iff_toInt_le] at e2; have e3 := k_3; rw [Int32.lt_iff_toInt_lt, z2] at e3; obtain ⟨n_0, hn_0, s0⟩ := nd_add (x := a_1) (y := (a_3)) (by omega) (by omega); have e4 := k_4; rw [hn_0, ← Int32.toInt_inj] at e4; obtain ⟨n_1, hn_1, s1⟩ := nd_add (x := a_2) (y := (1 : Int32)) (by (try rw [z1]); omega) (by (try rw [z1]); omega); rw [z1] at s1; obtain ⟨n_2, hn_2, s2⟩ := nd_add (x := (a_3)) (y := (1 : Int32)) (by (try rw [z1]); omega) (by (try rw [z1]); omega); rw [z1] at s2; obtain ⟨n_3, hn_3, s3⟩ := nd_add (x := a_1) (y := n_2) (by omega) (by omega); rw [hn_1, hn_2, hn_3, ← Int32.toInt_inj]; omega)) p_0 (ti f q0 1) (ti f_1 q0 1) v2_6 bs_1.2 iv0_6 c_8 c_4 iv2_6))) (by exact ms_2 ((fun (a_0 : Int32) (a_1 : Int32) (k_0 : ¬ (a_0 ≤ a_1)) (k_1 : ¬ (1440 < a_0)) => (show 1 ≤ (1440 : Int32).toInt - (a_1).toInt ∧ (1440 : Int32).toInt - ((a_1) + (1 : Int32)).toInt + 1 ≤ (1440 : Int32).toInt - (a_1).toInt from by have z0 : (1 : Int32).toInt = 1 := (by decide +kernel); have z1 : (1440 : Int32).toInt = 1440 := (by decide +kernel); have r0 := fb_rng (a_0); have r1 := fb_rng (a_1); have e0 := k_0; rw [Int32.le_iff_toInt_le] at e0; have e1 := k_1; rw [Int32.lt_iff_toInt_lt, z1] at e1; obtain ⟨n_0, hn_0, s0⟩ := nd_add (x := (a_1)) (y := (1 : Int32)) (by (try rw [z0]); omega) (by (try rw [z0]); omega); rw [z0] at s0; rw [hn_0]; (try rw [z1]); omega)) p_0 v2_6 c_8 c_4) hm_6) (by rw [← hrec_6, wpR_Md_minutes_w_27_6_pos (ms_3 ((fun (a_0 : Int32) (a_1 : Int32) (k_0 : ¬ (a_0 ≤ a_1)) (k_1 : ¬ (1440 < a_0)) => (show 1 ≤ (1440 : Int32).toInt - (a_1).toInt ∧ (1440 : Int32).toInt - ((a_1) + (1 : Int32)).toInt + 1 ≤ (1440 : Int32).toInt - (a_1).toInt from by have z0 : (1 : Int32).toInt = 1 := (by decide +kernel); have z1 : (1440 : Int32).toInt = 1440 := (by decide +kernel); have r0 := fb_rng (a_0); have r1 := fb_rng (a_1); have e0 := k_0; rw [Int32.le_iff_toInt_le] at e0; have e1 := k_1; rw [Int32.lt_iff_toInt_lt, z1] at e1; obtain ⟨n_0, hn_0, s0⟩ := nd_add (x := (a_1)) (y := (1 : Int32)) (by (try rw [z0]); omega) (by (try rw [z0]); omega); rw [z0] at s0; rw [hn_0]; (try rw [z1]); omega)) p_0 v2_6 c_8 c_4) hm_6)] at hQ; exact hQ) (lv_sub hl [1, 2, 0] rfl)
              · have hQ := hQ.2 c_12
                refine lv_goto (tgt := 100) hx hb d_Md_minutes_57 (by decide) ?_
                refine lv_iinc (v := (v2_6 + 1)) (lv' := [(2, .int (v2_6 + 1)), (0, .ref q0), (1, .int p_0)]) hx hb d_Md_minutes_100 hl (k := 2) rfl rfl (by decide) rfl (fun ls hl => ?_)
                refine lv_goto (tgt := 27) hx hb d_Md_minutes_103 (by decide) ?_
                exact ih_6 (n_6 - 1) (ms_1 ((fun (a_0 : Int32) (a_1 : Int32) (k_0 : ¬ (a_0 ≤ a_1)) (k_1 : ¬ (1440 < a_0)) => (show 1 ≤ (1440 : Int32).toInt - (a_1).toInt ∧ (1440 : Int32).toInt - ((a_1) + (1 : Int32)).toInt + 1 ≤ (1440 : Int32).toInt - (a_1).toInt from by have z0 : (1 : Int32).toInt = 1 := (by decide +kernel); have z1 : (1440 : Int32).toInt = 1440 := (by decide +kernel); have r0 := fb_rng (a_0); have r1 := fb_rng (a_1); have e0 := k_0; rw [Int32.le_iff_toInt_le] at e0; have e1 := k_1; rw [Int32.lt_iff_toInt_lt, z1] at e1; obtain ⟨n_0, hn_0, s0⟩ := nd_add (x := (a_1)) (y := (1 : Int32)) (by (try rw [z0]); omega) (by (try rw [z0]); omega); rw [z0] at s0; rw [hn_0]; (try rw [z1]); omega)) p_0 v2_6 c_8 c_4) hm_6) (v2_6 + 1) _ _ _ _ _ hP hD hS hO_3 (((hE_1.trans hE_2).trans hE_3).mono (by decide +kernel)) (show ¬ ((v2_6 + 1) < 0) from by have e0 := iv0_6; rw [Int32.lt_iff_toInt_lt] at e0; have e1 := iv1_6; rw [Int32.lt_iff_toInt_lt] at e1; have z0 : (0 : Int32).toInt = 0 := (by decide +kernel); have z1 : (1 : Int32).toInt = 1 := (by decide +kernel); have z2 : (1440 : Int32).toInt = 1440 := (by decide +kernel); have ss := fb_addI (x := v2_6) (y := 1) (by omega) (by omega); rw [Int32.lt_iff_toInt_lt]; omega) (show ¬ (1440 < (v2_6 + 1)) from ((fun (a_0 : Int32) (a_1 : Int32) (k_0 : ¬ (a_0 ≤ a_1)) (k_1 : ¬ (1440 < a_0)) => (show ¬ (1440 < (a_1 + 1)) from by have z0 : (1 : Int32).toInt = 1 := (by decide +kernel); have z1 : (1440 : Int32).toInt = 1440 := (by decide +kernel); have r0 := fb_rng (a_0); have r1 := fb_rng (a_1); have e0 := k_0; rw [Int32.le_iff_toInt_le] at e0; have e1 := k_1; rw [Int32.lt_iff_toInt_lt, z1] at e1; obtain ⟨n_0, hn_0, s0⟩ := nd_add (x := (a_1)) (y := (1 : Int32)) (by (try rw [z0]); omega) (by (try rw [z0]); omega); rw [z0] at s0; rw [hn_0, Int32.lt_iff_toInt_lt, z1]; omega)) p_0 v2_6 c_8 c_4)) (by rw [show ti f_3 q0 1 = ((ti f_1 q0 1) + 1) from ((hE_3.ei (hA_2.m m0) rfl).trans w_9)]; first | done | exact (show ((ti f_1 q0 1) + 1) = ((ti f q0 1) + (v2_6 + 1)) from ((fun (a_0 : Int32) (a_1 : Int32) (a_2 : Int32) (a_3 : Int32) (k_0 : ¬ (359999 < a_1)) (k_1 : ¬ (a_3 < 0)) (k_2 : ¬ (a_0 ≤ a_3)) (k_3 : ¬ (1440 < a_0)) (k_4 : a_2 = (a_1 + a_3)) => (show (a_2 + 1) = (a_1 + (a_3 + 1)) from by have z0 : (0 : Int32).toInt = 0 := (by decide +kernel); have z1 : (1 : Int32).toInt = 1 := (by decide +kernel); have z2 : (1440 : Int32).toInt = 1440 := (by decide +kernel); have z3 : (359999 : Int32).toInt = 359999 := (by decide +kernel); have r0 := fb_rng (a_0); have r1 := fb_rng (a_1); have r2 := fb_rng (a_2); have r3 := fb_rng (a_3); have e0 := k_0; rw [Int32.lt_iff_toInt_lt, z3] at e0; have e1 := k_1; rw [Int32.lt_iff_toInt_lt, z0] at e1; have e2 := k_2; rw [Int32.le_iff_toInt_le] at e2; have e3 := k_3; rw [Int32.lt_iff_toInt_lt, z2] at e3; obtain ⟨n_0, hn_0, s0⟩ := nd_add (x := a_1) (y := (a_3)) (by omega) (by omega); have e4 := k_4; rw [hn_0, ← Int32.toInt_inj] at e4; obtain ⟨n_1, hn_1, s1⟩ := nd_add (x := a_2) (y := (1 : Int32)) (by (try rw [z1]); omega) (by (try rw [z1]); omega); rw [z1] at s1; obtain ⟨n_2, hn_2, s2⟩ := nd_add (x := (a_3)) (y := (1 : Int32)) (by (try rw [z1]); omega) (by (try rw [z1]); omega); rw [z1] at s2; obtain ⟨n_3, hn_3, s3⟩ := nd_add (x := a_1) (y := n_2) (by omega) (by omega); rw [hn_1, hn_2, hn_3, ← Int32.toInt_inj]; omega)) p_0 (ti f q0 1) (ti f_1 q0 1) v2_6 bs_1.2 iv0_6 c_8 c_4 iv2_6))) (by exact ms_2 ((fun (a_0 : Int32) (a_1 : Int32) (k_0 : ¬ (a_0 ≤ a_1)) (k_1 : ¬ (1440 < a_0)) => (show 1 ≤ (1440 : Int32).toInt - (a_1).toInt ∧ (1440 : Int32).toInt - ((a_1) + (1 : Int32)).toInt + 1 ≤ (1440 : Int32).toInt - (a_1).toInt from by have z0 : (1 : Int32).toInt = 1 := (by decide +kernel); have z1 : (1440 : Int32).toInt = 1440 := (by decide +kernel); have r0 := fb_rng (a_0); have r1 := fb_rng (a_1); have e0 := k_0; rw [Int32.le_iff_toInt_le] at e0; have e1 := k_1; rw [Int32.lt_iff_toInt_lt, z1] at e1; obtain ⟨n_0, hn_0, s0⟩ := nd_add (x := (a_1)) (y := (1 : Int32)) (by (try rw [z0]); omega) (by (try rw [z0]); omega); rw [z0] at s0; rw [hn_0]; (try rw [z1]); omega)) p_0 v2_6 c_8 c_4) hm_6) (by rw [← hrec_6, wpR_Md_minutes_w_27_6_pos (ms_3 ((fun (a_0 : Int32) (a_1 : Int32) (k_0 : ¬ (a_0 ≤ a_1)) (k_1 : ¬ (1440 < a_0)) => (show 1 ≤ (1440 : Int32).toInt - (a_1).toInt ∧ (1440 : Int32).toInt - ((a_1) + (1 : Int32)).toInt + 1 ≤ (1440 : Int32).toInt - (a_1).toInt from by have z0 : (1 : Int32).toInt = 1 := (by decide +kernel); have z1 : (1440 : Int32).toInt = 1440 := (by decide +kernel); have r0 := fb_rng (a_0); have r1 := fb_rng (a_1); have e0 := k_0; rw [Int32.le_iff_toInt_le] at e0; have e1 := k_1; rw [Int32.lt_iff_toInt_lt, z1] at e1; obtain ⟨n_0, hn_0, s0⟩ := nd_add (x := (a_1)) (y := (1 : Int32)) (by (try rw [z0]); omega) (by (try rw [z0]); omega); rw [z0] at s0; rw [hn_0]; (try rw [z1]); omega)) p_0 v2_6 c_8 c_4) hm_6)] at hQ; exact hQ) (lv_sub hl [1, 2, 0] rfl)
        exact cut_6 ((1440 : Int32).toInt - (0 : Int32).toInt).toNat (0 : Int32) _ _ _ _ _ hP hD hS hO_0 Ext.rf (by decide +kernel) (by decide +kernel) (show (ti f q0 1) = ((ti f q0 1) + 0) from ((fun (a_0 : Int32)  => (show a_0 = (a_0 + 0) from by have z0 : (0 : Int32).toInt = 0 := (by decide +kernel); have r0 := fb_rng (a_0); obtain ⟨n_0, hn_0, s0⟩ := nd_add (x := a_0) (y := (0 : Int32)) (by (try rw [z0]); omega) (by (try rw [z0]); omega); rw [z0] at s0; rw [hn_0, ← Int32.toInt_inj]; omega)) (ti f q0 1) )) (by exact ms_e _ _) hQ (lv_sub hl [1, 2, 0] rfl)
      · have hQ := hQ.2 c_5
        refine lv_iconst (v := (-1)) hx hb d_Md_minutes_23 (by decide +kernel) ?_
        refine W.widen (k := 0) (n := 0) (Nat.le_of_ble_eq_true rfl) (Nat.le_of_ble_eq_true rfl) ?_
        exact W.iret (v := (-1)) hx hb hr (fun t ht hW => ⟨⟨(-1), (L, f), rfl, ⟨hO_0, hA_0.mono (by decide +kernel), trivial, hQ⟩, by rw [ht]; exact hP, va_K.moved hW.alike hK, by rw [hAe]; exact hD⟩, by rw [hAe]; exact hS.F ht⟩) (by rw [hAe]; exact hS.2.2) d_Md_minutes_24
def WL_Or_clear_w_2_1 : List (Nat × Nat) := [(18, 1000)]
def W_Or_clear_w : List (Nat × Nat) := [(15, 5), (15, 6), (18, 1000)]
def wpB_Or_clear_w_2_1 (L : List Nat) (f : TF) (q0 : Nat) (Q : List Nat → TF → Prop) (rec_1 : Int32 → List Nat → TF → Prop) (v1_1 : Int32) (L_1 : List Nat) (f_1 : TF) : Prop := Ok L_1 f_1 → Ext WL_Or_clear_w_2_1 L f L_1 f_1 → ((9 ≤ v1_1 → ∀ f_2 : TF, f_2 = sI f_1 q0 5 0 → Ok L_1 f_2 → ∀ f_3 : TF, f_3 = sI f_2 q0 6 0 → Ok L_1 f_3 → Q L_1 f_3) ∧ (¬ (9 ≤ v1_1) → ∀ q_5 : Nat, tr f_1 q0 4 = some q_5 → ∀ f_2 : TF, f_2 = sI f_1 q_5 (v1_1 : Int32).toNatClampNeg (-1) → Ok L_1 f_2 → rec_1 (v1_1 + 1) L_1 f_2))
def wpL_Or_clear_w_2_1 (L : List Nat) (f : TF) (q0 : Nat) (Q : List Nat → TF → Prop) : Nat → Int32 → List Nat → TF → Prop
  | 0 => fun v1_1 L_1 f_1 => wpB_Or_clear_w_2_1 L f q0 Q (fun _ _ _ => True) v1_1 L_1 f_1
  | n + 1 => fun v1_1 L_1 f_1 => wpB_Or_clear_w_2_1 L f q0 Q (wpL_Or_clear_w_2_1 L f q0 Q n) v1_1 L_1 f_1
def wpR_Or_clear_w_2_1 (L : List Nat) (f : TF) (q0 : Nat) (Q : List Nat → TF → Prop) : Nat → Int32 → List Nat → TF → Prop
  | 0 => fun _ _ _ => True
  | n + 1 => wpL_Or_clear_w_2_1 L f q0 Q n
theorem wpL_Or_clear_w_2_1_eq {L : List Nat} {f : TF} {q0 : Nat} {Q : List Nat → TF → Prop} {n : Nat} : wpL_Or_clear_w_2_1 L f q0 Q n = wpB_Or_clear_w_2_1 L f q0 Q (wpR_Or_clear_w_2_1 L f q0 Q n) := by cases n <;> rfl
theorem wpR_Or_clear_w_2_1_pos {L : List Nat} {f : TF} {q0 : Nat} {Q : List Nat → TF → Prop} {n : Nat} (h : 0 < n) : wpR_Or_clear_w_2_1 L f q0 Q n = wpL_Or_clear_w_2_1 L f q0 Q (n - 1) := by
  cases n with
  | zero => omega
  | succ n => rfl
def wp_Or_clear_w (L : List Nat) (f : TF) (q0 : Nat) (Q : List Nat → TF → Prop) : Prop := wpL_Or_clear_w_2_1 L f q0 Q (((9 : Int32).toInt - (0 : Int32).toInt).toNat) (0 : Int32) L f
set_option maxHeartbeats 4000000 in
set_option maxRecDepth 100000 in
theorem c_Or_clear_w (l : Launch) (dC : Nat → ClassId) (dI : Nat → Nat → Nat) (ct : Nat → ClassId) (L : List Nat) (f : TF) (hO_0 : Ok L f) (q0 : Nat) (m0 : q0 ∈ L ∧ tk f q0 = 15) (sz : Nat)    (Q : List Nat → TF → Prop) (hQ : wp_Or_clear_w L f q0 Q) : Met l y_Or_clear (.code y_Or_clear b_Or_clear 2 none :: TB) ({ frames := 0, cells := 0, slots := 0, locals := 0 }) (va_Pc [.ref q0] (PC dC dI (TW ct L f) (TT ct) sz)) (va_Qv (fun (u : TSt) => Ok u.1 u.2 ∧ Ext W_Or_clear_w L f u.1 u.2 ∧ (True) ∧ Q u.1 u.2) (fun (u : TSt) t => va_P (dC, dI) vwCl (TW ct u.1 u.2) t.heap ∧ va_K (dC, dI) vwCl (TT ct) t ∧ va_D (va_A (TW ct L f) sz) (TW ct u.1 u.2)) (va_A (TW ct L f) sz)) 0 0 (va_A (TW ct L f) sz) := by
  refine Met.ofW (cc := b_Or_clear) (maxL := 2) (ret := none) (by decide) rfl ?_
  intro p e s m args below meth c s₁ B hml hv
  obtain ⟨rfl, hsz, hP, hK, hD0, hN⟩ := hv
  have hx := B.exec
  have hb := B.bytes
  have hr := B.returns
  have hts := atoms_spec (ws := (.code y_Or_clear b_Or_clear 2 none :: TB)) B.pre
  have htb := fun w (h : w ∈ TB) => hts w (List.mem_cons_of_mem _ h)
  have hown : s.vm.findClass R_Or = some m.cls := findClass_of_methodNamed B.named
  have hlocks := B.notSynchronized
  have hl := lv_entry ([.ref q0]) (n := 2) (Nat.le_of_ble_eq_true rfl)
  rw [lg_entry_eq]
  generalize (lg_sl ([.ref q0]) ++ List.replicate (2 - (lg_sl ([.ref q0])).length) Slot.unset).toArray = ls at hl ⊢
  have hl : lv_has ls 2 [(0, .ref q0)] := hl
  subst hsz
  have hD := hD0.self (sz := s.heap.size)
  obtain ⟨A, hAe⟩ : ∃ A, va_A (TW ct L f) s.heap.size = A := ⟨_, rfl⟩
  rw [hAe] at hD
  have hA : ∀ q : Nat, s.heap.size ≤ q → A q := fun q h => by rw [← hAe]; exact Or.inr h
  have hS : va_S A s.heap s.heap [] := va_S.rf
  have hA_0 : Ext [] L f L f := Ext.rf
  suffices hGo : ∀ (H : Heap) (locs : List Loc), va_P (dC, dI) vwCl (TW ct L f) H → va_S A s.heap H locs → W p l e (headSpec (.code y_Or_clear b_Or_clear 2 none :: TB) ({ frames := 0, cells := 0, slots := 0, locals := 0 })).room s m [.ref q0].toArray below meth c H locs 0 0 (MQ below (va_Qv (fun (u : TSt) => Ok u.1 u.2 ∧ Ext W_Or_clear_w L f u.1 u.2 ∧ (True) ∧ Q u.1 u.2) (fun (u : TSt) t => va_P (dC, dI) vwCl (TW ct u.1 u.2) t.heap ∧ va_K (dC, dI) vwCl (TT ct) t ∧ va_D (va_A (TW ct L f) s.heap.size) (TW ct u.1 u.2)) (va_A (TW ct L f) s.heap.size)) [.ref q0].toArray s 0 0 (va_A (TW ct L f) s.heap.size)) (F0 m 0 ls []) from hGo _ _ hP hS
  clear hP hS
  intro H locs hP hS
  unfold wp_Or_clear_w at hQ
  refine lv_iconst (v := 0) hx hb d_Or_clear_0 (by decide +kernel) ?_
  refine lv_istore_n (lv' := [(1, .int 0), (0, .ref q0)]) hx hb d_Or_clear_1 rfl hl (by decide) rfl (fun ls hl => ?_)
  have cut_1 : ∀ (n_1 : Nat) (v1_1 : Int32) (L_1 : List Nat) (f_1 : TF) (H : Heap) (locs : List Loc) (ls : Array Slot), va_P (dC, dI) vwCl (TW ct L_1 f_1) H → va_D A (TW ct L_1 f_1) → va_S A s.heap H locs → Ok L_1 f_1 → Ext WL_Or_clear_w_2_1 L f L_1 f_1 → ¬ (v1_1 < 0) → ¬ (9 < v1_1) → (9 : Int32).toInt - (v1_1 : Int32).toInt ≤ (n_1 : Int) → wpL_Or_clear_w_2_1 L f q0 Q n_1 v1_1 L_1 f_1 → lv_has ls 2 [(0, .ref q0), (1, .int v1_1)] → W p l e (headSpec (.code y_Or_clear b_Or_clear 2 none :: TB) ({ frames := 0, cells := 0, slots := 0, locals := 0 })).room s m [.ref q0].toArray below meth c H locs 0 0 (MQ below (va_Qv (fun (u : TSt) => Ok u.1 u.2 ∧ Ext W_Or_clear_w L f u.1 u.2 ∧ (True) ∧ Q u.1 u.2) (fun (u : TSt) t => va_P (dC, dI) vwCl (TW ct u.1 u.2) t.heap ∧ va_K (dC, dI) vwCl (TT ct) t ∧ va_D (va_A (TW ct L f) s.heap.size) (TW ct u.1 u.2)) (va_A (TW ct L f) s.heap.size)) [.ref q0].toArray s 0 0 (va_A (TW ct L f) s.heap.size)) (F0 m 2 ls []) := by
    intro n_1
    induction n_1 using Nat.strongRecOn with
    | _ n_1 ih_1 =>
      intro v1_1 L_1 f_1 H locs ls hP hD hS hO_1 hE_1 iv0_1 iv1_1 hm_1 hQ hl
      have hA_1 := hA_0.trans hE_1
      rw [wpL_Or_clear_w_2_1_eq] at hQ
      obtain ⟨rec_1, hrec_1⟩ : ∃ g, wpR_Or_clear_w_2_1 L f q0 Q n_1 = g := ⟨_, rfl⟩
      rw [hrec_1] at hQ
      unfold wpB_Or_clear_w_2_1 at hQ
      have hQ := hQ hO_1 hE_1
      refine lv_iload_n hx hb d_Or_clear_2 rfl (lv_at hl 1 rfl) ?_
      refine lv_bipush (v := 9) hx hb d_Or_clear_3 (by decide +kernel) ?_
      refine lv_icmp_ge (tgt := 21) hx hb d_Or_clear_5 (by decide) (fun c_2 => ?_) (fun c_2 => ?_)
      · have hQ := hQ.1 c_2
        refine lv_aload_n hx hb d_Or_clear_21 rfl (lv_at hl 0 rfl) ?_
        refine lv_iconst (v := 0) hx hb d_Or_clear_22 (by decide +kernel) ?_
        refine tw_puti (v := 0) (D := (dC, dI)) (C := R_Or) (T := F_Or) (N := 9) (ci := 3) (kd := 15) (ct := ct) (ty := .int) hx hb htb i_Or t_Or t_Or_ok n_Or hown hK hP hD hS hO_1 (hA_1.m m0) rfl rfl 5 (by decide) (htb (.fieldLink R_Or 23 "WaterMen$Order" "fareCount" "I") tw_246) (fun _ h9 => h9) rfl (by decide +kernel) rfl rfl rfl ⟨by decide +kernel, by decide +kernel⟩ d_Or_clear_23 (fun f_2 H locs hP hD hS hO_2 hE_2 w_3 hF_2 => ?_)
        have hA_2 := hA_1.trans hE_2
        have hQ := hQ f_2 hF_2
        have hQ := hQ hO_2
        refine lv_aload_n hx hb d_Or_clear_26 rfl (lv_at hl 0 rfl) ?_
        refine lv_iconst (v := 0) hx hb d_Or_clear_27 (by decide +kernel) ?_
        refine tw_puti (v := 0) (D := (dC, dI)) (C := R_Or) (T := F_Or) (N := 9) (ci := 3) (kd := 15) (ct := ct) (ty := .int) hx hb htb i_Or t_Or t_Or_ok n_Or hown hK hP hD hS hO_2 (hA_2.m m0) rfl rfl 6 (by decide) (htb (.fieldLink R_Or 27 "WaterMen$Order" "hourCount" "I") tw_247) (fun _ h9 => h9) rfl (by decide +kernel) rfl rfl rfl ⟨by decide +kernel, by decide +kernel⟩ d_Or_clear_28 (fun f_3 H locs hP hD hS hO_3 hE_3 w_4 hF_3 => ?_)
        have hA_3 := hA_2.trans hE_3
        have hQ := hQ f_3 hF_3
        have hQ := hQ hO_3
        refine W.widen (k := 0) (n := 0) (Nat.le_of_ble_eq_true rfl) (Nat.le_of_ble_eq_true rfl) ?_
        exact W.vret hx hb hr (fun t ht hW => ⟨⟨(L_1, f_3), rfl, ⟨hO_3, hA_3.mono (by decide +kernel), trivial, hQ⟩, by rw [ht]; exact hP, va_K.moved hW.alike hK, by rw [hAe]; exact hD⟩, by rw [hAe]; exact hS.F ht⟩) (by rw [hAe]; exact hS.2.2) d_Or_clear_31
      · have hQ := hQ.2 c_2
        refine lv_aload_n hx hb d_Or_clear_8 rfl (lv_at hl 0 rfl) ?_
        refine tw_getr (D := (dC, dI)) (C := R_Or) (T := F_Or) (N := 9) (ci := 3) (kd := 15) (ct := ct) hx hb htb i_Or hown hK hP hO_1 (hA_1.m m0) rfl rfl 4 (by decide) (htb (.fieldLink R_Or 20 "WaterMen$Order" "single" "[I") tw_248) (fun _ h9 => h9) rfl d_Or_clear_9 (fun q_5 e_5 m_5 => ?_)
        have hQ := hQ q_5 e_5
        refine lv_iload_n hx hb d_Or_clear_12 rfl (lv_at hl 1 rfl) ?_
        refine lv_iconst (v := (-1)) hx hb d_Or_clear_13 (by decide +kernel) ?_
        refine tw_astI (ct := ct) (x := (-1)) hx hb hK hP hD hS hO_1 m_5 rfl (hb_in iv0_1 c_2 (by decide +kernel)) (i32_full _) d_Or_clear_14 (fun f_2 H locs hP hD hS hO_2 hE_2 w_6 ow_6 hF_2 => ?_)
        have hA_2 := hA_1.trans hE_2
        have hQ := hQ f_2 hF_2
        have hQ := hQ hO_2
        refine lv_iinc (v := (v1_1 + 1)) (lv' := [(1, .int (v1_1 + 1)), (0, .ref q0)]) hx hb d_Or_clear_15 hl (k := 1) rfl rfl (by decide) rfl (fun ls hl => ?_)
        refine lv_goto (tgt := 2) hx hb d_Or_clear_18 (by decide) ?_
        exact ih_1 (n_1 - 1) (ms_1 ((fun (a_0 : Int32) (k_0 : ¬ (9 ≤ a_0)) => (show 1 ≤ (9 : Int32).toInt - (a_0).toInt ∧ (9 : Int32).toInt - ((a_0) + (1 : Int32)).toInt + 1 ≤ (9 : Int32).toInt - (a_0).toInt from by have z0 : (1 : Int32).toInt = 1 := (by decide +kernel); have z1 : (9 : Int32).toInt = 9 := (by decide +kernel); have r0 := fb_rng (a_0); have e0 := k_0; rw [Int32.le_iff_toInt_le, z1] at e0; obtain ⟨n_0, hn_0, s0⟩ := nd_add (x := (a_0)) (y := (1 : Int32)) (by (try rw [z0]); omega) (by (try rw [z0]); omega); rw [z0] at s0; rw [hn_0]; (try rw [z1]); omega)) v1_1 c_2) hm_1) (v1_1 + 1) _ _ _ _ _ hP hD hS hO_2 ((hE_1.trans hE_2).mono (by decide +kernel)) (show ¬ ((v1_1 + 1) < 0) from by have e0 := iv0_1; rw [Int32.lt_iff_toInt_lt] at e0; have e1 := c_2; rw [Int32.le_iff_toInt_le] at e1; have z0 : (0 : Int32).toInt = 0 := (by decide +kernel); have z1 : (1 : Int32).toInt = 1 := (by decide +kernel); have z2 : (9 : Int32).toInt = 9 := (by decide +kernel); have ss := fb_addI (x := v1_1) (y := 1) (by omega) (by omega); rw [Int32.lt_iff_toInt_lt]; omega) (show ¬ (9 < (v1_1 + 1)) from by have e0 := iv0_1; rw [Int32.lt_iff_toInt_lt] at e0; have e1 := c_2; rw [Int32.le_iff_toInt_le] at e1; have z0 : (0 : Int32).toInt = 0 := (by decide +kernel); have z1 : (1 : Int32).toInt = 1 := (by decide +kernel); have z2 : (9 : Int32).toInt = 9 := (by decide +kernel); have ss := fb_addI (x := v1_1) (y := 1) (by omega) (by omega); rw [Int32.lt_iff_toInt_lt]; omega) (by exact ms_2 ((fun (a_0 : Int32) (k_0 : ¬ (9 ≤ a_0)) => (show 1 ≤ (9 : Int32).toInt - (a_0).toInt ∧ (9 : Int32).toInt - ((a_0) + (1 : Int32)).toInt + 1 ≤ (9 : Int32).toInt - (a_0).toInt from by have z0 : (1 : Int32).toInt = 1 := (by decide +kernel); have z1 : (9 : Int32).toInt = 9 := (by decide +kernel); have r0 := fb_rng (a_0); have e0 := k_0; rw [Int32.le_iff_toInt_le, z1] at e0; obtain ⟨n_0, hn_0, s0⟩ := nd_add (x := (a_0)) (y := (1 : Int32)) (by (try rw [z0]); omega) (by (try rw [z0]); omega); rw [z0] at s0; rw [hn_0]; (try rw [z1]); omega)) v1_1 c_2) hm_1) (by rw [← hrec_1, wpR_Or_clear_w_2_1_pos (ms_3 ((fun (a_0 : Int32) (k_0 : ¬ (9 ≤ a_0)) => (show 1 ≤ (9 : Int32).toInt - (a_0).toInt ∧ (9 : Int32).toInt - ((a_0) + (1 : Int32)).toInt + 1 ≤ (9 : Int32).toInt - (a_0).toInt from by have z0 : (1 : Int32).toInt = 1 := (by decide +kernel); have z1 : (9 : Int32).toInt = 9 := (by decide +kernel); have r0 := fb_rng (a_0); have e0 := k_0; rw [Int32.le_iff_toInt_le, z1] at e0; obtain ⟨n_0, hn_0, s0⟩ := nd_add (x := (a_0)) (y := (1 : Int32)) (by (try rw [z0]); omega) (by (try rw [z0]); omega); rw [z0] at s0; rw [hn_0]; (try rw [z1]); omega)) v1_1 c_2) hm_1)] at hQ; exact hQ) (lv_sub hl [1, 0] rfl)
  exact cut_1 ((9 : Int32).toInt - (0 : Int32).toInt).toNat (0 : Int32) _ _ _ _ _ hP hD hS hO_0 Ext.rf (by decide +kernel) (by decide +kernel) (by exact ms_e _ _) hQ (lv_sub hl [1, 0] rfl)
def f_Tp_isLetter  (p_0 : Int32) : Int32 := if p_0 < 97 then (0) else (if 122 < p_0 then (0) else (1))
set_option maxHeartbeats 4000000 in
set_option maxRecDepth 100000 in
theorem c_Tp_isLetter (l : Launch)  (p_0 : Int32)  : Met l y_Tp_isLetter (.code y_Tp_isLetter b_Tp_isLetter 1 (some .boolean) :: TB) ({ frames := 0, cells := 0, slots := 0, locals := 0 }) (va_Pc [.int p_0] (fun _ => True)) (vp_Si (fun r => r = f_Tp_isLetter p_0)) 0 0 (fun _ => False) := by
  refine Met.ofW (cc := b_Tp_isLetter) (maxL := 1) (ret := (some .boolean)) (by decide) rfl ?_
  intro p e s m args below meth c s₁ B hml hv
  obtain ⟨rfl, -⟩ := hv
  have hx := B.exec
  have hb := B.bytes
  have hr := B.returns
  have hts := atoms_spec (ws := (.code y_Tp_isLetter b_Tp_isLetter 1 (some .boolean) :: TB)) B.pre
  have htb := fun w (h : w ∈ TB) => hts w (List.mem_cons_of_mem _ h)
  have hown : s.vm.findClass R_Tp = some m.cls := findClass_of_methodNamed B.named
  have hlocks := B.notSynchronized
  have hl := lv_entry ([.int p_0]) (n := 1) (Nat.le_of_ble_eq_true rfl)
  rw [lg_entry_eq]
  generalize (lg_sl ([.int p_0]) ++ List.replicate (1 - (lg_sl ([.int p_0])).length) Slot.unset).toArray = ls at hl ⊢
  have hl : lv_has ls 1 [(0, .int p_0)] := hl
  refine lv_iload_n hx hb d_Tp_isLetter_0 rfl (lv_at hl 0 rfl) ?_
  refine lv_bipush (v := 97) hx hb d_Tp_isLetter_1 (by decide +kernel) ?_
  refine lv_icmp_lt (tgt := 16) hx hb d_Tp_isLetter_3 (by decide) (fun c_1 => ?_) (fun c_1 => ?_)
  · refine lv_iconst (v := 0) hx hb d_Tp_isLetter_16 (by decide +kernel) ?_
    exact W.zret (v := 0) hx hb hr (by decide +kernel) (fun t ht hW => ⟨0, rfl, (by unfold f_Tp_isLetter; rw [if_pos c_1]), ht⟩) t_nil d_Tp_isLetter_17
  · refine lv_iload_n hx hb d_Tp_isLetter_6 rfl (lv_at hl 0 rfl) ?_
    refine lv_bipush (v := 122) hx hb d_Tp_isLetter_7 (by decide +kernel) ?_
    refine lv_icmp_gt (tgt := 16) hx hb d_Tp_isLetter_9 (by decide) (fun c_2 => ?_) (fun c_2 => ?_)
    · refine lv_iconst (v := 0) hx hb d_Tp_isLetter_16 (by decide +kernel) ?_
      exact W.zret (v := 0) hx hb hr (by decide +kernel) (fun t ht hW => ⟨0, rfl, (by unfold f_Tp_isLetter; rw [if_neg c_1, if_pos c_2]), ht⟩) t_nil d_Tp_isLetter_17
    · refine lv_iconst (v := 1) hx hb d_Tp_isLetter_12 (by decide +kernel) ?_
      refine lv_goto (tgt := 17) hx hb d_Tp_isLetter_13 (by decide) ?_
      exact W.zret (v := 1) hx hb hr (by decide +kernel) (fun t ht hW => ⟨1, rfl, (by unfold f_Tp_isLetter; rw [if_neg c_1, if_neg c_2]), ht⟩) t_nil d_Tp_isLetter_17
def f_Tp_isDigit  (p_0 : Int32) : Int32 := if p_0 < 48 then (0) else (if 57 < p_0 then (0) else (1))
set_option maxHeartbeats 4000000 in
set_option maxRecDepth 100000 in
theorem c_Tp_isDigit (l : Launch)  (p_0 : Int32)  : Met l y_Tp_isDigit (.code y_Tp_isDigit b_Tp_isDigit 1 (some .boolean) :: TB) ({ frames := 0, cells := 0, slots := 0, locals := 0 }) (va_Pc [.int p_0] (fun _ => True)) (vp_Si (fun r => r = f_Tp_isDigit p_0)) 0 0 (fun _ => False) := by
  refine Met.ofW (cc := b_Tp_isDigit) (maxL := 1) (ret := (some .boolean)) (by decide) rfl ?_
  intro p e s m args below meth c s₁ B hml hv
  obtain ⟨rfl, -⟩ := hv
  have hx := B.exec
  have hb := B.bytes
  have hr := B.returns
  have hts := atoms_spec (ws := (.code y_Tp_isDigit b_Tp_isDigit 1 (some .boolean) :: TB)) B.pre
  have htb := fun w (h : w ∈ TB) => hts w (List.mem_cons_of_mem _ h)
  have hown : s.vm.findClass R_Tp = some m.cls := findClass_of_methodNamed B.named
  have hlocks := B.notSynchronized
  have hl := lv_entry ([.int p_0]) (n := 1) (Nat.le_of_ble_eq_true rfl)
  rw [lg_entry_eq]
  generalize (lg_sl ([.int p_0]) ++ List.replicate (1 - (lg_sl ([.int p_0])).length) Slot.unset).toArray = ls at hl ⊢
  have hl : lv_has ls 1 [(0, .int p_0)] := hl
  refine lv_iload_n hx hb d_Tp_isDigit_0 rfl (lv_at hl 0 rfl) ?_
  refine lv_bipush (v := 48) hx hb d_Tp_isDigit_1 (by decide +kernel) ?_
  refine lv_icmp_lt (tgt := 16) hx hb d_Tp_isDigit_3 (by decide) (fun c_1 => ?_) (fun c_1 => ?_)
  · refine lv_iconst (v := 0) hx hb d_Tp_isDigit_16 (by decide +kernel) ?_
    exact W.zret (v := 0) hx hb hr (by decide +kernel) (fun t ht hW => ⟨0, rfl, (by unfold f_Tp_isDigit; rw [if_pos c_1]), ht⟩) t_nil d_Tp_isDigit_17
  · refine lv_iload_n hx hb d_Tp_isDigit_6 rfl (lv_at hl 0 rfl) ?_
    refine lv_bipush (v := 57) hx hb d_Tp_isDigit_7 (by decide +kernel) ?_
    refine lv_icmp_gt (tgt := 16) hx hb d_Tp_isDigit_9 (by decide) (fun c_2 => ?_) (fun c_2 => ?_)
    · refine lv_iconst (v := 0) hx hb d_Tp_isDigit_16 (by decide +kernel) ?_
      exact W.zret (v := 0) hx hb hr (by decide +kernel) (fun t ht hW => ⟨0, rfl, (by unfold f_Tp_isDigit; rw [if_neg c_1, if_pos c_2]), ht⟩) t_nil d_Tp_isDigit_17
    · refine lv_iconst (v := 1) hx hb d_Tp_isDigit_12 (by decide +kernel) ?_
      refine lv_goto (tgt := 17) hx hb d_Tp_isDigit_13 (by decide) ?_
      exact W.zret (v := 1) hx hb hr (by decide +kernel) (fun t ht hW => ⟨1, rfl, (by unfold f_Tp_isDigit; rw [if_neg c_1, if_neg c_2]), ht⟩) t_nil d_Tp_isDigit_17
def WL_Tp_passDigits_w_0_1 : List (Nat × Nat) := [(10, 4), (10, 5)]
def W_Tp_passDigits_w : List (Nat × Nat) := [(10, 4), (10, 5)]
def wpB_Tp_passDigits_w_0_1 (L : List Nat) (f : TF) (q0 : Nat) (Q : List Nat → TF → Prop) (rec_1 : List Nat → TF → Prop) (L_1 : List Nat) (f_1 : TF) : Prop := Ok L_1 f_1 → Ext WL_Tp_passDigits_w_0_1 L f L_1 f_1 → ∀ x_3 : Int32, ti f_1 q0 1 = x_3 → ((x_3 ≤ (ti f_1 q0 4) → Q L_1 f_1) ∧ (¬ (x_3 ≤ (ti f_1 q0 4)) → ∀ q_5 : Nat, tr f_1 q0 0 = some q_5 → ∀ x_6 : Int32, ti f_1 q_5 ((ti f_1 q0 4) : Int32).toNatClampNeg = x_6 → ((x_6 < 48 → Q L_1 f_1) ∧ (¬ (x_6 < 48) → ((57 < x_6 → Q L_1 f_1) ∧ (¬ (57 < x_6) → ∀ x_10 : Int32, ti f_1 q0 5 = x_10 → ∀ f_2 : TF, f_2 = sI f_1 q0 5 ((x_10 * 10) + (x_6 - 48)) → Ok L_1 f_2 → ∀ f_3 : TF, f_3 = sI f_2 q0 4 ((ti f_1 q0 4) + 1) → Ok L_1 f_3 → rec_1 L_1 f_3))))))
def wpL_Tp_passDigits_w_0_1 (L : List Nat) (f : TF) (q0 : Nat) (Q : List Nat → TF → Prop) : Nat → List Nat → TF → Prop
  | 0 => fun L_1 f_1 => wpB_Tp_passDigits_w_0_1 L f q0 Q (fun _ _ => True) L_1 f_1
  | n + 1 => fun L_1 f_1 => wpB_Tp_passDigits_w_0_1 L f q0 Q (wpL_Tp_passDigits_w_0_1 L f q0 Q n) L_1 f_1
def wpR_Tp_passDigits_w_0_1 (L : List Nat) (f : TF) (q0 : Nat) (Q : List Nat → TF → Prop) : Nat → List Nat → TF → Prop
  | 0 => fun _ _ => True
  | n + 1 => wpL_Tp_passDigits_w_0_1 L f q0 Q n
theorem wpL_Tp_passDigits_w_0_1_eq {L : List Nat} {f : TF} {q0 : Nat} {Q : List Nat → TF → Prop} {n : Nat} : wpL_Tp_passDigits_w_0_1 L f q0 Q n = wpB_Tp_passDigits_w_0_1 L f q0 Q (wpR_Tp_passDigits_w_0_1 L f q0 Q n) := by cases n <;> rfl
theorem wpR_Tp_passDigits_w_0_1_pos {L : List Nat} {f : TF} {q0 : Nat} {Q : List Nat → TF → Prop} {n : Nat} (h : 0 < n) : wpR_Tp_passDigits_w_0_1 L f q0 Q n = wpL_Tp_passDigits_w_0_1 L f q0 Q (n - 1) := by
  cases n with
  | zero => omega
  | succ n => rfl
def wp_Tp_passDigits_w (L : List Nat) (f : TF) (q0 : Nat) (Q : List Nat → TF → Prop) : Prop := wpL_Tp_passDigits_w_0_1 L f q0 Q (((400 : Int32).toInt - ((ti f q0 4) : Int32).toInt).toNat) L f
set_option maxHeartbeats 4000000 in
set_option maxRecDepth 100000 in
theorem c_Tp_passDigits_w (l : Launch) (dC : Nat → ClassId) (dI : Nat → Nat → Nat) (ct : Nat → ClassId) (L : List Nat) (f : TF) (hO_0 : Ok L f) (q0 : Nat) (m0 : q0 ∈ L ∧ tk f q0 = 10) (sz : Nat)    (Q : List Nat → TF → Prop) (hQ : wp_Tp_passDigits_w L f q0 Q) : Met l y_Tp_passDigits (.code y_Tp_passDigits b_Tp_passDigits 1 none :: TB) ({ frames := 1, cells := 0, slots := 0, locals := 20 }) (va_Pc [.ref q0] (PC dC dI (TW ct L f) (TT ct) sz)) (va_Qv (fun (u : TSt) => Ok u.1 u.2 ∧ Ext W_Tp_passDigits_w L f u.1 u.2 ∧ (True) ∧ Q u.1 u.2) (fun (u : TSt) t => va_P (dC, dI) vwCl (TW ct u.1 u.2) t.heap ∧ va_K (dC, dI) vwCl (TT ct) t ∧ va_D (va_A (TW ct L f) sz) (TW ct u.1 u.2)) (va_A (TW ct L f) sz)) 0 0 (va_A (TW ct L f) sz) := by
  refine Met.ofW (cc := b_Tp_passDigits) (maxL := 1) (ret := none) (by decide) rfl ?_
  intro p e s m args below meth c s₁ B hml hv
  obtain ⟨rfl, hsz, hP, hK, hD0, hN⟩ := hv
  have hx := B.exec
  have hb := B.bytes
  have hr := B.returns
  have hts := atoms_spec (ws := (.code y_Tp_passDigits b_Tp_passDigits 1 none :: TB)) B.pre
  have htb := fun w (h : w ∈ TB) => hts w (List.mem_cons_of_mem _ h)
  have hown : s.vm.findClass R_Tp = some m.cls := findClass_of_methodNamed B.named
  have hlocks := B.notSynchronized
  have hl := lv_entry ([.ref q0]) (n := 1) (Nat.le_of_ble_eq_true rfl)
  rw [lg_entry_eq]
  generalize (lg_sl ([.ref q0]) ++ List.replicate (1 - (lg_sl ([.ref q0])).length) Slot.unset).toArray = ls at hl ⊢
  have hl : lv_has ls 1 [(0, .ref q0)] := hl
  subst hsz
  have hD := hD0.self (sz := s.heap.size)
  obtain ⟨A, hAe⟩ : ∃ A, va_A (TW ct L f) s.heap.size = A := ⟨_, rfl⟩
  rw [hAe] at hD
  have hA : ∀ q : Nat, s.heap.size ≤ q → A q := fun q h => by rw [← hAe]; exact Or.inr h
  have hS : va_S A s.heap s.heap [] := va_S.rf
  have hA_0 : Ext [] L f L f := Ext.rf
  suffices hGo : ∀ (H : Heap) (locs : List Loc), va_P (dC, dI) vwCl (TW ct L f) H → va_S A s.heap H locs → W p l e (headSpec (.code y_Tp_passDigits b_Tp_passDigits 1 none :: TB) ({ frames := 1, cells := 0, slots := 0, locals := 20 })).room s m [.ref q0].toArray below meth c H locs 0 0 (MQ below (va_Qv (fun (u : TSt) => Ok u.1 u.2 ∧ Ext W_Tp_passDigits_w L f u.1 u.2 ∧ (True) ∧ Q u.1 u.2) (fun (u : TSt) t => va_P (dC, dI) vwCl (TW ct u.1 u.2) t.heap ∧ va_K (dC, dI) vwCl (TT ct) t ∧ va_D (va_A (TW ct L f) s.heap.size) (TW ct u.1 u.2)) (va_A (TW ct L f) s.heap.size)) [.ref q0].toArray s 0 0 (va_A (TW ct L f) s.heap.size)) (F0 m 0 ls []) from hGo _ _ hP hS
  clear hP hS
  intro H locs hP hS
  unfold wp_Tp_passDigits_w at hQ
  have cut_1 : ∀ (n_1 : Nat) (L_1 : List Nat) (f_1 : TF) (H : Heap) (locs : List Loc) (ls : Array Slot), va_P (dC, dI) vwCl (TW ct L_1 f_1) H → va_D A (TW ct L_1 f_1) → va_S A s.heap H locs → Ok L_1 f_1 → Ext WL_Tp_passDigits_w_0_1 L f L_1 f_1 → (400 : Int32).toInt - ((ti f_1 q0 4) : Int32).toInt ≤ (n_1 : Int) → wpL_Tp_passDigits_w_0_1 L f q0 Q n_1 L_1 f_1 → lv_has ls 1 [(0, .ref q0)] → W p l e (headSpec (.code y_Tp_passDigits b_Tp_passDigits 1 none :: TB) ({ frames := 1, cells := 0, slots := 0, locals := 20 })).room s m [.ref q0].toArray below meth c H locs 0 0 (MQ below (va_Qv (fun (u : TSt) => Ok u.1 u.2 ∧ Ext W_Tp_passDigits_w L f u.1 u.2 ∧ (True) ∧ Q u.1 u.2) (fun (u : TSt) t => va_P (dC, dI) vwCl (TW ct u.1 u.2) t.heap ∧ va_K (dC, dI) vwCl (TT ct) t ∧ va_D (va_A (TW ct L f) s.heap.size) (TW ct u.1 u.2)) (va_A (TW ct L f) s.heap.size)) [.ref q0].toArray s 0 0 (va_A (TW ct L f) s.heap.size)) (F0 m 0 ls []) := by
    intro n_1
    induction n_1 using Nat.strongRecOn with
    | _ n_1 ih_1 =>
      intro L_1 f_1 H locs ls hP hD hS hO_1 hE_1 hm_1 hQ hl
      have hA_1 := hA_0.trans hE_1
      have bf_2 := hO_1.i (hA_1.m m0) (show slotD 10 4 = some (.inl (0, 400)) from rfl)
      rw [wpL_Tp_passDigits_w_0_1_eq] at hQ
      obtain ⟨rec_1, hrec_1⟩ : ∃ g, wpR_Tp_passDigits_w_0_1 L f q0 Q n_1 = g := ⟨_, rfl⟩
      rw [hrec_1] at hQ
      unfold wpB_Tp_passDigits_w_0_1 at hQ
      have hQ := hQ hO_1 hE_1
      refine lv_aload_n hx hb d_Tp_passDigits_0 rfl (lv_at hl 0 rfl) ?_
      refine tw_getI (x := (ti f_1 q0 4)) (D := (dC, dI)) (C := R_Tp) (T := F_Tp) (N := 6) (ci := 4) (kd := 10) (ct := ct) hx hb htb i_Tp hown hK hP (hA_1.m m0) rfl rfl 4 rfl (by decide) (htb (.fieldLink R_Tp 24 "WaterMen$Tape" "behind" "I") tw_254) (fun _ h9 => h9) rfl d_Tp_passDigits_1 ?_
      refine lv_aload_n hx hb d_Tp_passDigits_4 rfl (lv_at hl 0 rfl) ?_
      refine tw_geti (D := (dC, dI)) (C := R_Tp) (T := F_Tp) (N := 6) (ci := 4) (kd := 10) (ct := ct) hx hb htb i_Tp hown hK hP hO_1 (hA_1.m m0) rfl rfl 1 (by decide) (htb (.fieldLink R_Tp 15 "WaterMen$Tape" "length" "I") tw_175) (fun _ h9 => h9) rfl d_Tp_passDigits_5 (fun x_3 e_3 b_3 => ?_)
      have hQ := hQ x_3 e_3
      refine lv_icmp_ge (tgt := 63) hx hb d_Tp_passDigits_8 (by decide) (fun c_4 => ?_) (fun c_4 => ?_)
      · have hQ := hQ.1 c_4
        refine W.widen (k := 0) (n := 0) (Nat.le_of_ble_eq_true rfl) (Nat.le_of_ble_eq_true rfl) ?_
        exact W.vret hx hb hr (fun t ht hW => ⟨⟨(L_1, f_1), rfl, ⟨hO_1, hA_1.mono (by decide +kernel), trivial, hQ⟩, by rw [ht]; exact hP, va_K.moved hW.alike hK, by rw [hAe]; exact hD⟩, by rw [hAe]; exact hS.F ht⟩) (by rw [hAe]; exact hS.2.2) d_Tp_passDigits_63
      · have hQ := hQ.2 c_4
        refine lv_aload_n hx hb d_Tp_passDigits_11 rfl (lv_at hl 0 rfl) ?_
        refine tw_getr (D := (dC, dI)) (C := R_Tp) (T := F_Tp) (N := 6) (ci := 4) (kd := 10) (ct := ct) hx hb htb i_Tp hown hK hP hO_1 (hA_1.m m0) rfl rfl 0 (by decide) (htb (.fieldLink R_Tp 9 "WaterMen$Tape" "bytes" "[B") tw_181) (fun _ h9 => h9) rfl d_Tp_passDigits_12 (fun q_5 e_5 m_5 => ?_)
        have hQ := hQ q_5 e_5
        refine lv_aload_n hx hb d_Tp_passDigits_15 rfl (lv_at hl 0 rfl) ?_
        refine tw_getI (x := (ti f_1 q0 4)) (D := (dC, dI)) (C := R_Tp) (T := F_Tp) (N := 6) (ci := 4) (kd := 10) (ct := ct) hx hb htb i_Tp hown hK hP (hA_1.m m0) rfl rfl 4 rfl (by decide) (htb (.fieldLink R_Tp 24 "WaterMen$Tape" "behind" "I") tw_254) (fun _ h9 => h9) rfl d_Tp_passDigits_16 ?_
        refine tw_aldB (ct := ct) hx hb hK hP hO_1 m_5 rfl ((fun (a_0 : Int32) (a_1 : Int32) (k_0 : ¬ (a_0 < 0)) (k_1 : ¬ (a_1 ≤ a_0)) (k_2 : ¬ (400 < a_1)) => (show vp_in (a_0) 400 from by have z0 : (0 : Int32).toInt = 0 := (by decide +kernel); have z1 : (400 : Int32).toInt = 400 := (by decide +kernel); have r0 := fb_rng (a_0); have r1 := fb_rng (a_1); have e0 := k_0; rw [Int32.lt_iff_toInt_lt, z0] at e0; have e1 := k_1; rw [Int32.le_iff_toInt_le] at e1; have e2 := k_2; rw [Int32.lt_iff_toInt_lt, z1] at e2; rw [vp_in_iff]; omega)) (ti f_1 q0 4) x_3 bf_2.1 c_4 b_3.2) d_Tp_passDigits_19 (fun x_6 e_6 b_6 => ?_)
        have hQ := hQ x_6 e_6
        refine vp_callSi (va_Run.run (va_runS (As := [.int x_6]) (rest := []) ⟨hx, hb, hml, hown, htb⟩ (c_Tp_isDigit l x_6) (cwS 1 htb (gd_S tw_262 tw_263 tw_177 tw_261) rfl rfl rfl (by decide +kernel) ⟨Nat.le_of_ble_eq_true rfl, Nat.le_of_ble_eq_true rfl⟩) ⟨fun _ _ _ _ h => h, fun U _ _ => ⟨rfl, trivial⟩⟩ rfl rfl hl.1 rfl (lv_room (Nat.le_of_ble_eq_true rfl)) d_Tp_passDigits_20 ⟨Nat.le_of_ble_eq_true rfl, Nat.le_of_ble_eq_true rfl⟩)) (fun r er => ?_)
        subst er
        by_cases c_8 : x_6 < 48
        · have hQ := hQ.1 c_8
          refine hb_ti 0 (by unfold f_Tp_isDigit; rw [if_pos c_8]; first | done | rfl) ?_
          refine lv_if_eq (tgt := 63) hx hb d_Tp_passDigits_23 (by decide) (fun _ => ?_) (fun h => absurd (by decide +kernel) h)
          refine W.widen (k := 0) (n := 0) (Nat.le_of_ble_eq_true rfl) (Nat.le_of_ble_eq_true rfl) ?_
          exact W.vret hx hb hr (fun t ht hW => ⟨⟨(L_1, f_1), rfl, ⟨hO_1, hA_1.mono (by decide +kernel), trivial, hQ⟩, by rw [ht]; exact hP, va_K.moved hW.alike hK, by rw [hAe]; exact hD⟩, by rw [hAe]; exact hS.F ht⟩) (by rw [hAe]; exact hS.2.2) d_Tp_passDigits_63
        · have hQ := hQ.2 c_8
          by_cases c_9 : 57 < x_6
          · have hQ := hQ.1 c_9
            refine hb_ti 0 (by unfold f_Tp_isDigit; rw [if_neg c_8, if_pos c_9]; first | done | rfl) ?_
            refine lv_if_eq (tgt := 63) hx hb d_Tp_passDigits_23 (by decide) (fun _ => ?_) (fun h => absurd (by decide +kernel) h)
            refine W.widen (k := 0) (n := 0) (Nat.le_of_ble_eq_true rfl) (Nat.le_of_ble_eq_true rfl) ?_
            exact W.vret hx hb hr (fun t ht hW => ⟨⟨(L_1, f_1), rfl, ⟨hO_1, hA_1.mono (by decide +kernel), trivial, hQ⟩, by rw [ht]; exact hP, va_K.moved hW.alike hK, by rw [hAe]; exact hD⟩, by rw [hAe]; exact hS.F ht⟩) (by rw [hAe]; exact hS.2.2) d_Tp_passDigits_63
          · have hQ := hQ.2 c_9
            refine hb_ti 1 (by unfold f_Tp_isDigit; rw [if_neg c_8, if_neg c_9]; first | done | rfl) ?_
            refine lv_if_eq (tgt := 63) hx hb d_Tp_passDigits_23 (by decide) (fun h => absurd h (by decide +kernel)) (fun _ => ?_)
            refine lv_aload_n hx hb d_Tp_passDigits_26 rfl (lv_at hl 0 rfl) ?_
            refine lv_aload_n hx hb d_Tp_passDigits_27 rfl (lv_at hl 0 rfl) ?_
            refine tw_geti (D := (dC, dI)) (C := R_Tp) (T := F_Tp) (N := 6) (ci := 4) (kd := 10) (ct := ct) hx hb htb i_Tp hown hK hP hO_1 (hA_1.m m0) rfl rfl 5 (by decide) (htb (.fieldLink R_Tp 48 "WaterMen$Tape" "value" "I") tw_256) (fun _ h9 => h9) rfl d_Tp_passDigits_28 (fun x_10 e_10 b_10 => ?_)
            have hQ := hQ x_10 e_10
            refine lv_bipush (v := 10) hx hb d_Tp_passDigits_31 (by decide +kernel) ?_
            refine lv_imul hx hb d_Tp_passDigits_33 ?_
            refine lv_aload_n hx hb d_Tp_passDigits_34 rfl (lv_at hl 0 rfl) ?_
            refine tw_getR (D := (dC, dI)) (C := R_Tp) (T := F_Tp) (N := 6) (ci := 4) (kd := 10) (ct := ct) hx hb htb i_Tp hown hK hP (hA_1.m m0) rfl rfl 0 e_5 (by decide) (htb (.fieldLink R_Tp 9 "WaterMen$Tape" "bytes" "[B") tw_181) (fun _ h9 => h9) rfl d_Tp_passDigits_35 ?_
            refine hb_tv (.ref q_5) rfl ?_
            refine lv_aload_n hx hb d_Tp_passDigits_38 rfl (lv_at hl 0 rfl) ?_
            refine tw_getI (x := (ti f_1 q0 4)) (D := (dC, dI)) (C := R_Tp) (T := F_Tp) (N := 6) (ci := 4) (kd := 10) (ct := ct) hx hb htb i_Tp hown hK hP (hA_1.m m0) rfl rfl 4 rfl (by decide) (htb (.fieldLink R_Tp 24 "WaterMen$Tape" "behind" "I") tw_254) (fun _ h9 => h9) rfl d_Tp_passDigits_39 ?_
            refine tw_aldxB (ct := ct) (x := x_6) hx hb hK hP m_5 rfl ((fun (a_0 : Int32) (a_1 : Int32) (k_0 : ¬ (a_0 < 0)) (k_1 : ¬ (a_1 ≤ a_0)) (k_2 : ¬ (400 < a_1)) => (show vp_in (a_0) 400 from by have z0 : (0 : Int32).toInt = 0 := (by decide +kernel); have z1 : (400 : Int32).toInt = 400 := (by decide +kernel); have r0 := fb_rng (a_0); have r1 := fb_rng (a_1); have e0 := k_0; rw [Int32.lt_iff_toInt_lt, z0] at e0; have e1 := k_1; rw [Int32.le_iff_toInt_le] at e1; have e2 := k_2; rw [Int32.lt_iff_toInt_lt, z1] at e2; rw [vp_in_iff]; omega)) (ti f_1 q0 4) x_3 bf_2.1 c_4 b_3.2) e_6 d_Tp_passDigits_42 ?_
            refine lv_bipush (v := 48) hx hb d_Tp_passDigits_43 (by decide +kernel) ?_
            refine lv_isub hx hb d_Tp_passDigits_45 ?_
            refine lv_iadd hx hb d_Tp_passDigits_46 ?_
            refine tw_puti (v := ((x_10 * 10) + (x_6 - 48))) (D := (dC, dI)) (C := R_Tp) (T := F_Tp) (N := 6) (ci := 4) (kd := 10) (ct := ct) (ty := .int) hx hb htb i_Tp t_Tp t_Tp_ok n_Tp hown hK hP hD hS hO_1 (hA_1.m m0) rfl rfl 5 (by decide) (htb (.fieldLink R_Tp 48 "WaterMen$Tape" "value" "I") tw_256) (fun _ h9 => h9) rfl (by decide +kernel) rfl rfl rfl (i32_full _) d_Tp_passDigits_47 (fun f_2 H locs hP hD hS hO_2 hE_2 w_12 hF_2 => ?_)
            have hA_2 := hA_1.trans hE_2
            have hQ := hQ f_2 hF_2
            have hQ := hQ hO_2
            refine lv_aload_n hx hb d_Tp_passDigits_50 rfl (lv_at hl 0 rfl) ?_
            refine lv_dup hx hb d_Tp_passDigits_51 rfl ?_
            refine tw_getI (x := (ti f_1 q0 4)) (D := (dC, dI)) (C := R_Tp) (T := F_Tp) (N := 6) (ci := 4) (kd := 10) (ct := ct) hx hb htb i_Tp hown hK hP (hA_2.m m0) rfl rfl 4 ((hE_2.ei (hA_1.m m0) rfl).trans rfl) (by decide) (htb (.fieldLink R_Tp 24 "WaterMen$Tape" "behind" "I") tw_254) (fun _ h9 => h9) rfl d_Tp_passDigits_52 ?_
            refine lv_iconst (v := 1) hx hb d_Tp_passDigits_55 (by decide +kernel) ?_
            refine lv_iadd hx hb d_Tp_passDigits_56 ?_
            refine tw_puti (v := ((ti f_1 q0 4) + 1)) (D := (dC, dI)) (C := R_Tp) (T := F_Tp) (N := 6) (ci := 4) (kd := 10) (ct := ct) (ty := .int) hx hb htb i_Tp t_Tp t_Tp_ok n_Tp hown hK hP hD hS hO_2 (hA_2.m m0) rfl rfl 4 (by decide) (htb (.fieldLink R_Tp 24 "WaterMen$Tape" "behind" "I") tw_254) (fun _ h9 => h9) rfl (by decide +kernel) rfl rfl rfl ⟨(show ¬ (((ti f_1 q0 4) + 1) < 0) from ((fun (a_0 : Int32) (a_1 : Int32) (k_0 : ¬ (a_0 < 0)) (k_1 : ¬ (a_1 ≤ a_0)) => (show ¬ ((a_0 + 1) < 0) from by have z0 : (0 : Int32).toInt = 0 := (by decide +kernel); have z1 : (1 : Int32).toInt = 1 := (by decide +kernel); have r0 := fb_rng (a_0); have r1 := fb_rng (a_1); have e0 := k_0; rw [Int32.lt_iff_toInt_lt, z0] at e0; have e1 := k_1; rw [Int32.le_iff_toInt_le] at e1; obtain ⟨n_0, hn_0, s0⟩ := nd_add (x := a_0) (y := (1 : Int32)) (by (try rw [z1]); omega) (by (try rw [z1]); omega); rw [z1] at s0; rw [hn_0, Int32.lt_iff_toInt_lt, z0]; omega)) (ti f_1 q0 4) x_3 bf_2.1 c_4)), (show ¬ (400 < ((ti f_1 q0 4) + 1)) from ((fun (a_0 : Int32) (a_1 : Int32) (k_0 : ¬ (a_1 ≤ a_0)) (k_1 : ¬ (400 < a_1)) => (show ¬ (400 < (a_0 + 1)) from by have z0 : (1 : Int32).toInt = 1 := (by decide +kernel); have z1 : (400 : Int32).toInt = 400 := (by decide +kernel); have r0 := fb_rng (a_0); have r1 := fb_rng (a_1); have e0 := k_0; rw [Int32.le_iff_toInt_le] at e0; have e1 := k_1; rw [Int32.lt_iff_toInt_lt, z1] at e1; obtain ⟨n_0, hn_0, s0⟩ := nd_add (x := a_0) (y := (1 : Int32)) (by (try rw [z0]); omega) (by (try rw [z0]); omega); rw [z0] at s0; rw [hn_0, Int32.lt_iff_toInt_lt, z1]; omega)) (ti f_1 q0 4) x_3 c_4 b_3.2))⟩ d_Tp_passDigits_57 (fun f_3 H locs hP hD hS hO_3 hE_3 w_13 hF_3 => ?_)
            have hA_3 := hA_2.trans hE_3
            have hQ := hQ f_3 hF_3
            have hQ := hQ hO_3
            refine lv_goto (tgt := 0) hx hb d_Tp_passDigits_60 (by decide) ?_
            exact ih_1 (n_1 - 1) (ms_1 ((fun (a_0 : Int32) (a_1 : Int32) (k_0 : ¬ (a_1 ≤ a_0)) (k_1 : ¬ (400 < a_1)) => (show 1 ≤ (400 : Int32).toInt - a_0.toInt ∧ (400 : Int32).toInt - (a_0 + (1 : Int32)).toInt + 1 ≤ (400 : Int32).toInt - a_0.toInt from by have z0 : (1 : Int32).toInt = 1 := (by decide +kernel); have z1 : (400 : Int32).toInt = 400 := (by decide +kernel); have r0 := fb_rng (a_0); have r1 := fb_rng (a_1); have e0 := k_0; rw [Int32.le_iff_toInt_le] at e0; have e1 := k_1; rw [Int32.lt_iff_toInt_lt, z1] at e1; obtain ⟨n_0, hn_0, s0⟩ := nd_add (x := a_0) (y := (1 : Int32)) (by (try rw [z0]); omega) (by (try rw [z0]); omega); rw [z0] at s0; rw [hn_0]; (try rw [z1]); omega)) (ti f_1 q0 4) x_3 c_4 b_3.2) hm_1) _ _ _ _ _ hP hD hS hO_3 (((hE_1.trans hE_2).trans hE_3).mono (by decide +kernel)) (by rw [show ti f_3 q0 4 = ((ti f_1 q0 4) + 1) from w_13]; exact ms_2 ((fun (a_0 : Int32) (a_1 : Int32) (k_0 : ¬ (a_1 ≤ a_0)) (k_1 : ¬ (400 < a_1)) => (show 1 ≤ (400 : Int32).toInt - a_0.toInt ∧ (400 : Int32).toInt - (a_0 + (1 : Int32)).toInt + 1 ≤ (400 : Int32).toInt - a_0.toInt from by have z0 : (1 : Int32).toInt = 1 := (by decide +kernel); have z1 : (400 : Int32).toInt = 400 := (by decide +kernel); have r0 := fb_rng (a_0); have r1 := fb_rng (a_1); have e0 := k_0; rw [Int32.le_iff_toInt_le] at e0; have e1 := k_1; rw [Int32.lt_iff_toInt_lt, z1] at e1; obtain ⟨n_0, hn_0, s0⟩ := nd_add (x := a_0) (y := (1 : Int32)) (by (try rw [z0]); omega) (by (try rw [z0]); omega); rw [z0] at s0; rw [hn_0]; (try rw [z1]); omega)) (ti f_1 q0 4) x_3 c_4 b_3.2) hm_1) (by rw [← hrec_1, wpR_Tp_passDigits_w_0_1_pos (ms_3 ((fun (a_0 : Int32) (a_1 : Int32) (k_0 : ¬ (a_1 ≤ a_0)) (k_1 : ¬ (400 < a_1)) => (show 1 ≤ (400 : Int32).toInt - a_0.toInt ∧ (400 : Int32).toInt - (a_0 + (1 : Int32)).toInt + 1 ≤ (400 : Int32).toInt - a_0.toInt from by have z0 : (1 : Int32).toInt = 1 := (by decide +kernel); have z1 : (400 : Int32).toInt = 400 := (by decide +kernel); have r0 := fb_rng (a_0); have r1 := fb_rng (a_1); have e0 := k_0; rw [Int32.le_iff_toInt_le] at e0; have e1 := k_1; rw [Int32.lt_iff_toInt_lt, z1] at e1; obtain ⟨n_0, hn_0, s0⟩ := nd_add (x := a_0) (y := (1 : Int32)) (by (try rw [z0]); omega) (by (try rw [z0]); omega); rw [z0] at s0; rw [hn_0]; (try rw [z1]); omega)) (ti f_1 q0 4) x_3 c_4 b_3.2) hm_1)] at hQ; exact hQ) (lv_sub hl [0] rfl)
  exact cut_1 ((400 : Int32).toInt - ((ti f q0 4) : Int32).toInt).toNat _ _ _ _ _ hP hD hS hO_0 Ext.rf (by exact ms_e _ _) hQ (lv_sub hl [0] rfl)
