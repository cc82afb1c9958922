def WL_Tp_passLetters_w_0_1 : List (Nat × Nat) := [(10, 4)]
def W_Tp_passLetters_w : List (Nat × Nat) := [(10, 4)]
def wpB_Tp_passLetters_w_0_1 (L : List Nat) (f : TF) (q0 : Nat) (Q : List Nat → TF → Prop) (rec_1 : List Nat → TF → Prop) (L_1 : List Nat) (f_1 : TF) : Prop := Ok L_1 f_1 → Ext WL_Tp_passLetters_w_0_1 L f L_1 f_1 → ∀ x_3 : Int32, ti f_1 q0 1 = x_3 → ((x_3 ≤ (ti f_1 q0 4) → Q L_1 f_1) ∧ (¬ (x_3 ≤ (ti f_1 q0 4)) → ∀ q_5 : Nat, tr f_1 q0 0 = some q_5 → ∀ x_6 : Int32, ti f_1 q_5 ((ti f_1 q0 4) : Int32).toNatClampNeg = x_6 → ((x_6 < 97 → Q L_1 f_1) ∧ (¬ (x_6 < 97) → ((122 < x_6 → Q L_1 f_1) ∧ (¬ (122 < x_6) → ∀ f_2 : TF, f_2 = sI f_1 q0 4 ((ti f_1 q0 4) + 1) → Ok L_1 f_2 → rec_1 L_1 f_2))))))
def wpL_Tp_passLetters_w_0_1 (L : List Nat) (f : TF) (q0 : Nat) (Q : List Nat → TF → Prop) : Nat → List Nat → TF → Prop
  | 0 => fun L_1 f_1 => wpB_Tp_passLetters_w_0_1 L f q0 Q (fun _ _ => True) L_1 f_1
  | n + 1 => fun L_1 f_1 => wpB_Tp_passLetters_w_0_1 L f q0 Q (wpL_Tp_passLetters_w_0_1 L f q0 Q n) L_1 f_1
def wpR_Tp_passLetters_w_0_1 (L : List Nat) (f : TF) (q0 : Nat) (Q : List Nat → TF → Prop) : Nat → List Nat → TF → Prop
  | 0 => fun _ _ => True
  | n + 1 => wpL_Tp_passLetters_w_0_1 L f q0 Q n
theorem wpL_Tp_passLetters_w_0_1_eq {L : List Nat} {f : TF} {q0 : Nat} {Q : List Nat → TF → Prop} {n : Nat} : wpL_Tp_passLetters_w_0_1 L f q0 Q n = wpB_Tp_passLetters_w_0_1 L f q0 Q (wpR_Tp_passLetters_w_0_1 L f q0 Q n) := by cases n <;> rfl
theorem wpR_Tp_passLetters_w_0_1_pos {L : List Nat} {f : TF} {q0 : Nat} {Q : List Nat → TF → Prop} {n : Nat} (h : 0 < n) : wpR_Tp_passLetters_w_0_1 L f q0 Q n = wpL_Tp_passLetters_w_0_1 L f q0 Q (n - 1) := by
  cases n with
  | zero => omega
  | succ n => rfl
def wp_Tp_passLetters_w (L : List Nat) (f : TF) (q0 : Nat) (Q : List Nat → TF → Prop) : Prop := wpL_Tp_passLetters_w_0_1 L f q0 Q (((400 : Int32).toInt - ((ti f q0 4) : Int32).toInt).toNat) L f
set_option maxHeartbeats 4000000 in
set_option maxRecDepth 100000 in
theorem c_Tp_passLetters_w (l : Launch) (dC : Nat → ClassId) (dI : Nat → Nat → Nat) (ct : Nat → ClassId) (L : List Nat) (f : TF) (hO_0 : Ok L f) (q0 : Nat) (m0 : q0 ∈ L ∧ tk f q0 = 10) (sz : Nat)    (Q : List Nat → TF → Prop) (hQ : wp_Tp_passLetters_w L f q0 Q) : Met l y_Tp_passLetters (.code y_Tp_passLetters b_Tp_passLetters 1 none :: TB) ({ frames := 1, cells := 0, slots := 0, locals := 20 }) (va_Pc [.ref q0] (PC dC dI (TW ct L f) (TT ct) sz)) (va_Qv (fun (u : TSt) => Ok u.1 u.2 ∧ Ext W_Tp_passLetters_w L f u.1 u.2 ∧ (True) ∧ Q u.1 u.2) (fun (u : TSt) t => va_P (dC, dI) vwCl (TW ct u.1 u.2) t.heap ∧ va_K (dC, dI) vwCl (TT ct) t ∧ va_D (va_A (TW ct L f) sz) (TW ct u.1 u.2)) (va_A (TW ct L f) sz)) 0 0 (va_A (TW ct L f) sz) := by
  refine Met.ofW (cc := b_Tp_passLetters) (maxL := 1) (ret := none) (by decide) rfl ?_
  intro p e s m args below meth c s₁ B hml hv
  obtain ⟨rfl, hsz, hP, hK, hD0, hN⟩ := hv
  have hx := B.exec
  have hb := B.bytes
  have hr := B.returns
  have hts := atoms_spec (ws := (.code y_Tp_passLetters b_Tp_passLetters 1 none :: TB)) B.pre
  have htb := fun w (h : w ∈ TB) => hts w (List.mem_cons_of_mem _ h)
  have hown : s.vm.findClass R_Tp = some m.cls := findClass_of_methodNamed B.named
  have hlocks := B.notSynchronized
  have hl := lv_entry ([.ref q0]) (n := 1) (Nat.le_of_ble_eq_true rfl)
  rw [lg_entry_eq]
  generalize (lg_sl ([.ref q0]) ++ List.replicate (1 - (lg_sl ([.ref q0])).length) Slot.unset).toArray = ls at hl ⊢
  have hl : lv_has ls 1 [(0, .ref q0)] := hl
  subst hsz
  have hD := hD0.self (sz := s.heap.size)
  obtain ⟨A, hAe⟩ : ∃ A, va_A (TW ct L f) s.heap.size = A := ⟨_, rfl⟩
  rw [hAe] at hD
  have hA : ∀ q : Nat, s.heap.size ≤ q → A q := fun q h => by rw [← hAe]; exact Or.inr h
  have hS : va_S A s.heap s.heap [] := va_S.rf
  have hA_0 : Ext [] L f L f := Ext.rf
  suffices hGo : ∀ (H : Heap) (locs : List Loc), va_P (dC, dI) vwCl (TW ct L f) H → va_S A s.heap H locs → W p l e (headSpec (.code y_Tp_passLetters b_Tp_passLetters 1 none :: TB) ({ frames := 1, cells := 0, slots := 0, locals := 20 })).room s m [.ref q0].toArray below meth c H locs 0 0 (MQ below (va_Qv (fun (u : TSt) => Ok u.1 u.2 ∧ Ext W_Tp_passLetters_w L f u.1 u.2 ∧ (True) ∧ Q u.1 u.2) (fun (u : TSt) t => va_P (dC, dI) vwCl (TW ct u.1 u.2) t.heap ∧ va_K (dC, dI) vwCl (TT ct) t ∧ va_D (va_A (TW ct L f) s.heap.size) (TW ct u.1 u.2)) (va_A (TW ct L f) s.heap.size)) [.ref q0].toArray s 0 0 (va_A (TW ct L f) s.heap.size)) (F0 m 0 ls []) from hGo _ _ hP hS
  clear hP hS
  intro H locs hP hS
  unfold wp_Tp_passLetters_w at hQ
  have cut_1 : ∀ (n_1 : Nat) (L_1 : List Nat) (f_1 : TF) (H : Heap) (locs : List Loc) (ls : Array Slot), va_P (dC, dI) vwCl (TW ct L_1 f_1) H → va_D A (TW ct L_1 f_1) → va_S A s.heap H locs → Ok L_1 f_1 → Ext WL_Tp_passLetters_w_0_1 L f L_1 f_1 → (400 : Int32).toInt - ((ti f_1 q0 4) : Int32).toInt ≤ (n_1 : Int) → wpL_Tp_passLetters_w_0_1 L f q0 Q n_1 L_1 f_1 → lv_has ls 1 [(0, .ref q0)] → W p l e (headSpec (.code y_Tp_passLetters b_Tp_passLetters 1 none :: TB) ({ frames := 1, cells := 0, slots := 0, locals := 20 })).room s m [.ref q0].toArray below meth c H locs 0 0 (MQ below (va_Qv (fun (u : TSt) => Ok u.1 u.2 ∧ Ext W_Tp_passLetters_w L f u.1 u.2 ∧ (True) ∧ Q u.1 u.2) (fun (u : TSt) t => va_P (dC, dI) vwCl (TW ct u.1 u.2) t.heap ∧ va_K (dC, dI) vwCl (TT ct) t ∧ va_D (va_A (TW ct L f) s.heap.size) (TW ct u.1 u.2)) (va_A (TW ct L f) s.heap.size)) [.ref q0].toArray s 0 0 (va_A (TW ct L f) s.heap.size)) (F0 m 0 ls []) := by
    intro n_1
    induction n_1 using Nat.strongRecOn with
    | _ n_1 ih_1 =>
      intro L_1 f_1 H locs ls hP hD hS hO_1 hE_1 hm_1 hQ hl
      have hA_1 := hA_0.trans hE_1
      have bf_2 := hO_1.i (hA_1.m m0) (show slotD 10 4 = some (.inl (0, 400)) from rfl)
      rw [wpL_Tp_passLetters_w_0_1_eq] at hQ
      obtain ⟨rec_1, hrec_1⟩ : ∃ g, wpR_Tp_passLetters_w_0_1 L f q0 Q n_1 = g := ⟨_, rfl⟩
      rw [hrec_1] at hQ
      unfold wpB_Tp_passLetters_w_0_1 at hQ
      have hQ := hQ hO_1 hE_1
      refine lv_aload_n hx hb d_Tp_passLetters_0 rfl (lv_at hl 0 rfl) ?_
      refine tw_getI (x := (ti f_1 q0 4)) (D := (dC, dI)) (C := R_Tp) (T := F_Tp) (N := 6) (ci := 4) (kd := 10) (ct := ct) hx hb htb i_Tp hown hK hP (hA_1.m m0) rfl rfl 4 rfl (by decide) (htb (.fieldLink R_Tp 24 "WaterMen$Tape" "behind" "I") tw_254) (fun _ h9 => h9) rfl d_Tp_passLetters_1 ?_
      refine lv_aload_n hx hb d_Tp_passLetters_4 rfl (lv_at hl 0 rfl) ?_
      refine tw_geti (D := (dC, dI)) (C := R_Tp) (T := F_Tp) (N := 6) (ci := 4) (kd := 10) (ct := ct) hx hb htb i_Tp hown hK hP hO_1 (hA_1.m m0) rfl rfl 1 (by decide) (htb (.fieldLink R_Tp 15 "WaterMen$Tape" "length" "I") tw_175) (fun _ h9 => h9) rfl d_Tp_passLetters_5 (fun x_3 e_3 b_3 => ?_)
      have hQ := hQ x_3 e_3
      refine lv_icmp_ge (tgt := 39) hx hb d_Tp_passLetters_8 (by decide) (fun c_4 => ?_) (fun c_4 => ?_)
      · have hQ := hQ.1 c_4
        refine W.widen (k := 0) (n := 0) (Nat.le_of_ble_eq_true rfl) (Nat.le_of_ble_eq_true rfl) ?_
        exact W.vret hx hb hr (fun t ht hW => ⟨⟨(L_1, f_1), rfl, ⟨hO_1, hA_1.mono (by decide +kernel), trivial, hQ⟩, by rw [ht]; exact hP, va_K.moved hW.alike hK, by rw [hAe]; exact hD⟩, by rw [hAe]; exact hS.F ht⟩) (by rw [hAe]; exact hS.2.2) d_Tp_passLetters_39
      · have hQ := hQ.2 c_4
        refine lv_aload_n hx hb d_Tp_passLetters_11 rfl (lv_at hl 0 rfl) ?_
        refine tw_getr (D := (dC, dI)) (C := R_Tp) (T := F_Tp) (N := 6) (ci := 4) (kd := 10) (ct := ct) hx hb htb i_Tp hown hK hP hO_1 (hA_1.m m0) rfl rfl 0 (by decide) (htb (.fieldLink R_Tp 9 "WaterMen$Tape" "bytes" "[B") tw_181) (fun _ h9 => h9) rfl d_Tp_passLetters_12 (fun q_5 e_5 m_5 => ?_)
        have hQ := hQ q_5 e_5
        refine lv_aload_n hx hb d_Tp_passLetters_15 rfl (lv_at hl 0 rfl) ?_
        refine tw_getI (x := (ti f_1 q0 4)) (D := (dC, dI)) (C := R_Tp) (T := F_Tp) (N := 6) (ci := 4) (kd := 10) (ct := ct) hx hb htb i_Tp hown hK hP (hA_1.m m0) rfl rfl 4 rfl (by decide) (htb (.fieldLink R_Tp 24 "WaterMen$Tape" "behind" "I") tw_254) (fun _ h9 => h9) rfl d_Tp_passLetters_16 ?_
        refine tw_aldB (ct := ct) hx hb hK hP hO_1 m_5 rfl ((fun (a_0 : Int32) (a_1 : Int32) (k_0 : ¬ (a_0 < 0)) (k_1 : ¬ (a_1 ≤ a_0)) (k_2 : ¬ (400 < a_1)) => (show vp_in (a_0) 400 from by have z0 : (0 : Int32).toInt = 0 := (by decide +kernel); have z1 : (400 : Int32).toInt = 400 := (by decide +kernel); have r0 := fb_rng (a_0); have r1 := fb_rng (a_1); have e0 := k_0; rw [Int32.lt_iff_toInt_lt, z0] at e0; have e1 := k_1; rw [Int32.le_iff_toInt_le] at e1; have e2 := k_2; rw [Int32.lt_iff_toInt_lt, z1] at e2; rw [vp_in_iff]; omega)) (ti f_1 q0 4) x_3 bf_2.1 c_4 b_3.2) d_Tp_passLetters_19 (fun x_6 e_6 b_6 => ?_)
        have hQ := hQ x_6 e_6
        refine vp_callSi (va_Run.run (va_runS (As := [.int x_6]) (rest := []) ⟨hx, hb, hml, hown, htb⟩ (c_Tp_isLetter l x_6) (cwS 1 htb (gd_S tw_259 tw_260 tw_177 tw_258) rfl rfl rfl (by decide +kernel) ⟨Nat.le_of_ble_eq_true rfl, Nat.le_of_ble_eq_true rfl⟩) ⟨fun _ _ _ _ h => h, fun U _ _ => ⟨rfl, trivial⟩⟩ rfl rfl hl.1 rfl (lv_room (Nat.le_of_ble_eq_true rfl)) d_Tp_passLetters_20 ⟨Nat.le_of_ble_eq_true rfl, Nat.le_of_ble_eq_true rfl⟩)) (fun r er => ?_)
        subst er
        by_cases c_8 : x_6 < 97
        · have hQ := hQ.1 c_8
          refine hb_ti 0 (by unfold f_Tp_isLetter; rw [if_pos c_8]; first | done | rfl) ?_
          refine lv_if_eq (tgt := 39) hx hb d_Tp_passLetters_23 (by decide) (fun _ => ?_) (fun h => absurd (by decide +kernel) h)
          refine W.widen (k := 0) (n := 0) (Nat.le_of_ble_eq_true rfl) (Nat.le_of_ble_eq_true rfl) ?_
          exact W.vret hx hb hr (fun t ht hW => ⟨⟨(L_1, f_1), rfl, ⟨hO_1, hA_1.mono (by decide +kernel), trivial, hQ⟩, by rw [ht]; exact hP, va_K.moved hW.alike hK, by rw [hAe]; exact hD⟩, by rw [hAe]; exact hS.F ht⟩) (by rw [hAe]; exact hS.2.2) d_Tp_passLetters_39
        · have hQ := hQ.2 c_8
          by_cases c_9 : 122 < x_6
          · have hQ := hQ.1 c_9
            refine hb_ti 0 (by unfold f_Tp_isLetter; rw [if_neg c_8, if_pos c_9]; first | done | rfl) ?_
            refine lv_if_eq (tgt := 39) hx hb d_Tp_passLetters_23 (by decide) (fun _ => ?_) (fun h => absurd (by decide +kernel) h)
            refine W.widen (k := 0) (n := 0) (Nat.le_of_ble_eq_true rfl) (Nat.le_of_ble_eq_true rfl) ?_
            exact W.vret hx hb hr (fun t ht hW => ⟨⟨(L_1, f_1), rfl, ⟨hO_1, hA_1.mono (by decide +kernel), trivial, hQ⟩, by rw [ht]; exact hP, va_K.moved hW.alike hK, by rw [hAe]; exact hD⟩, by rw [hAe]; exact hS.F ht⟩) (by rw [hAe]; exact hS.2.2) d_Tp_passLetters_39
          · have hQ := hQ.2 c_9
            refine hb_ti 1 (by unfold f_Tp_isLetter; rw [if_neg c_8, if_neg c_9]; first | done | rfl) ?_
            refine lv_if_eq (tgt := 39) hx hb d_Tp_passLetters_23 (by decide) (fun h => absurd h (by decide +kernel)) (fun _ => ?_)
            refine lv_aload_n hx hb d_Tp_passLetters_26 rfl (lv_at hl 0 rfl) ?_
            refine lv_dup hx hb d_Tp_passLetters_27 rfl ?_
            refine tw_getI (x := (ti f_1 q0 4)) (D := (dC, dI)) (C := R_Tp) (T := F_Tp) (N := 6) (ci := 4) (kd := 10) (ct := ct) hx hb htb i_Tp hown hK hP (hA_1.m m0) rfl rfl 4 rfl (by decide) (htb (.fieldLink R_Tp 24 "WaterMen$Tape" "behind" "I") tw_254) (fun _ h9 => h9) rfl d_Tp_passLetters_28 ?_
            refine lv_iconst (v := 1) hx hb d_Tp_passLetters_31 (by decide +kernel) ?_
            refine lv_iadd hx hb d_Tp_passLetters_32 ?_
            refine tw_puti (v := ((ti f_1 q0 4) + 1)) (D := (dC, dI)) (C := R_Tp) (T := F_Tp) (N := 6) (ci := 4) (kd := 10) (ct := ct) (ty := .int) hx hb htb i_Tp t_Tp t_Tp_ok n_Tp hown hK hP hD hS hO_1 (hA_1.m m0) rfl rfl 4 (by decide) (htb (.fieldLink R_Tp 24 "WaterMen$Tape" "behind" "I") tw_254) (fun _ h9 => h9) rfl (by decide +kernel) rfl rfl rfl ⟨(show ¬ (((ti f_1 q0 4) + 1) < 0) from ((fun (a_0 : Int32) (a_1 : Int32) (k_0 : ¬ (a_0 < 0)) (k_1 : ¬ (a_1 ≤ a_0)) => (show ¬ ((a_0 + 1) < 0) from by have z0 : (0 : Int32).toInt = 0 := (by decide +kernel); have z1 : (1 : Int32).toInt = 1 := (by decide +kernel); have r0 := fb_rng (a_0); have r1 := fb_rng (a_1); have e0 := k_0; rw [Int32.lt_iff_toInt_lt, z0] at e0; have e1 := k_1; rw [Int32.le_iff_toInt_le] at e1; obtain ⟨n_0, hn_0, s0⟩ := nd_add (x := a_0) (y := (1 : Int32)) (by (try rw [z1]); omega) (by (try rw [z1]); omega); rw [z1] at s0; rw [hn_0, Int32.lt_iff_toInt_lt, z0]; omega)) (ti f_1 q0 4) x_3 bf_2.1 c_4)), (show ¬ (400 < ((ti f_1 q0 4) + 1)) from ((fun (a_0 : Int32) (a_1 : Int32) (k_0 : ¬ (a_1 ≤ a_0)) (k_1 : ¬ (400 < a_1)) => (show ¬ (400 < (a_0 + 1)) from by have z0 : (1 : Int32).toInt = 1 := (by decide +kernel); have z1 : (400 : Int32).toInt = 400 := (by decide +kernel); have r0 := fb_rng (a_0); have r1 := fb_rng (a_1); have e0 := k_0; rw [Int32.le_iff_toInt_le] at e0; have e1 := k_1; rw [Int32.lt_iff_toInt_lt, z1] at e1; obtain ⟨n_0, hn_0, s0⟩ := nd_add (x := a_0) (y := (1 : Int32)) (by (try rw [z0]); omega) (by (try rw [z0]); omega); rw [z0] at s0; rw [hn_0, Int32.lt_iff_toInt_lt, z1]; omega)) (ti f_1 q0 4) x_3 c_4 b_3.2))⟩ d_Tp_passLetters_33 (fun f_2 H locs hP hD hS hO_2 hE_2 w_10 hF_2 => ?_)
            have hA_2 := hA_1.trans hE_2
            have hQ := hQ f_2 hF_2
            have hQ := hQ hO_2
            refine lv_goto (tgt := 0) hx hb d_Tp_passLetters_36 (by decide) ?_
            exact ih_1 (n_1 - 1) (ms_1 ((fun (a_0 : Int32) (a_1 : Int32) (k_0 : ¬ (a_1 ≤ a_0)) (k_1 : ¬ (400 < a_1)) => (show 1 ≤ (400 : Int32).toInt - a_0.toInt ∧ (400 : Int32).toInt - (a_0 + (1 : Int32)).toInt + 1 ≤ (400 : Int32).toInt - a_0.toInt from by have z0 : (1 : Int32).toInt = 1 := (by decide +kernel); have z1 : (400 : Int32).toInt = 400 := (by decide +kernel); have r0 := fb_rng (a_0); have r1 := fb_rng (a_1); have e0 := k_0; rw [Int32.le_iff_toInt_le] at e0; have e1 := k_1; rw [Int32.lt_iff_toInt_lt, z1] at e1; obtain ⟨n_0, hn_0, s0⟩ := nd_add (x := a_0) (y := (1 : Int32)) (by (try rw [z0]); omega) (by (try rw [z0]); omega); rw [z0] at s0; rw [hn_0]; (try rw [z1]); omega)) (ti f_1 q0 4) x_3 c_4 b_3.2) hm_1) _ _ _ _ _ hP hD hS hO_2 ((hE_1.trans hE_2).mono (by decide +kernel)) (by rw [show ti f_2 q0 4 = ((ti f_1 q0 4) + 1) from w_10]; exact ms_2 ((fun (a_0 : Int32) (a_1 : Int32) (k_0 : ¬ (a_1 ≤ a_0)) (k_1 : ¬ (400 < a_1)) => (show 1 ≤ (400 : Int32).toInt - a_0.toInt ∧ (400 : Int32).toInt - (a_0 + (1 : Int32)).toInt + 1 ≤ (400 : Int32).toInt - a_0.toInt from by have z0 : (1 : Int32).toInt = 1 := (by decide +kernel); have z1 : (400 : Int32).toInt = 400 := (by decide +kernel); have r0 := fb_rng (a_0); have r1 := fb_rng (a_1); have e0 := k_0; rw [Int32.le_iff_toInt_le] at e0; have e1 := k_1; rw [Int32.lt_iff_toInt_lt, z1] at e1; obtain ⟨n_0, hn_0, s0⟩ := nd_add (x := a_0) (y := (1 : Int32)) (by (try rw [z0]); omega) (by (try rw [z0]); omega); rw [z0] at s0; rw [hn_0]; (try rw [z1]); omega)) (ti f_1 q0 4) x_3 c_4 b_3.2) hm_1) (by rw [← hrec_1, wpR_Tp_passLetters_w_0_1_pos (ms_3 ((fun (a_0 : Int32) (a_1 : Int32) (k_0 : ¬ (a_1 ≤ a_0)) (k_1 : ¬ (400 < a_1)) => (show 1 ≤ (400 : Int32).toInt - a_0.toInt ∧ (400 : Int32).toInt - (a_0 + (1 : Int32)).toInt + 1 ≤ (400 : Int32).toInt - a_0.toInt from by have z0 : (1 : Int32).toInt = 1 := (by decide +kernel); have z1 : (400 : Int32).toInt = 400 := (by decide +kernel); have r0 := fb_rng (a_0); have r1 := fb_rng (a_1); have e0 := k_0; rw [Int32.le_iff_toInt_le] at e0; have e1 := k_1; rw [Int32.lt_iff_toInt_lt, z1] at e1; obtain ⟨n_0, hn_0, s0⟩ := nd_add (x := a_0) (y := (1 : Int32)) (by (try rw [z0]); omega) (by (try rw [z0]); omega); rw [z0] at s0; rw [hn_0]; (try rw [z1]); omega)) (ti f_1 q0 4) x_3 c_4 b_3.2) hm_1)] at hQ; exact hQ) (lv_sub hl [0] rfl)
  exact cut_1 ((400 : Int32).toInt - ((ti f q0 4) : Int32).toInt).toNat _ _ _ _ _ hP hD hS hO_0 Ext.rf (by exact ms_e _ _) hQ (lv_sub hl [0] rfl)
def WL_Tp_step_w_8_3 : List (Nat × Nat) := [(10, 3)]
def W_Tp_step_w : List (Nat × Nat) := [(10, 2), (10, 3), (10, 4), (10, 5)]
def wpB_Tp_step_w_8_3 (L : List Nat) (f : TF) (q0 : Nat) (x_1 : Int32) (f_1 : TF) (Q : List Nat → TF → Prop) (rec_3 : List Nat → TF → Prop) (L_2 : List Nat) (f_2 : TF) : Prop := Ok L_2 f_2 → Ext WL_Tp_step_w_8_3 L f_1 L_2 f_2 → ∀ x_5 : Int32, ti f_2 q0 1 = x_5 → ((x_5 ≤ (ti f_2 q0 3) → ∀ f_3 : TF, f_3 = sI f_2 q0 4 (ti f_2 q0 3) → Ok L_2 f_3 → ∀ f_4 : TF, f_4 = sI f_3 q0 5 0 → Ok L_2 f_4 → ∀ f_5 : TF, f_5 = sI f_4 q0 2 0 → Ok L_2 f_5 → Q L_2 f_5) ∧ (¬ (x_5 ≤ (ti f_2 q0 3)) → ∀ q_10 : Nat, tr f_2 q0 0 = some q_10 → ∀ x_11 : Int32, ti f_2 q_10 ((ti f_2 q0 3) : Int32).toNatClampNeg = x_11 → ((x_11 = 32 → ∀ f_3 : TF, f_3 = sI f_2 q0 3 ((ti f_2 q0 3) + 1) → Ok L_2 f_3 → rec_3 L_2 f_3) ∧ (¬ (x_11 = 32) → ∀ f_3 : TF, f_3 = sI f_2 q0 4 (ti f_2 q0 3) → Ok L_2 f_3 → ∀ f_4 : TF, f_4 = sI f_3 q0 5 0 → Ok L_2 f_4 → ((x_11 < 97 → ((x_11 < 48 → ∀ f_5 : TF, f_5 = sI f_4 q0 2 4 → Ok L_2 f_5 → ∀ f_6 : TF, f_6 = sI f_5 q0 4 ((ti f_2 q0 3) + 1) → Ok L_2 f_6 → Q L_2 f_6) ∧ (¬ (x_11 < 48) → ((57 < x_11 → ((x_11 = 59 → ∀ f_5 : TF, f_5 = sI f_4 q0 2 3 → Ok L_2 f_5 → ∀ f_6 : TF, f_6 = sI f_5 q0 4 ((ti f_2 q0 3) + 1) → Ok L_2 f_6 → Q L_2 f_6) ∧ (¬ (x_11 = 59) → ∀ f_5 : TF, f_5 = sI f_4 q0 2 4 → Ok L_2 f_5 → ∀ f_6 : TF, f_6 = sI f_5 q0 4 ((ti f_2 q0 3) + 1) → Ok L_2 f_6 → Q L_2 f_6))) ∧ (¬ (57 < x_11) → wp_Tp_passDigits_w L_2 f_4 q0 (fun (L_5 : List Nat) (f_5 : TF) => Ok L_5 f_5 → Ext W_Tp_passDigits_w L_2 f_4 L_5 f_5 → ∀ x_32 : Int32, ti f_5 q0 4 = x_32 → (((x_32 - (ti f_2 q0 3)) ≤ 5 → ∀ f_6 : TF, f_6 = sI f_5 q0 2 2 → Ok L_5 f_6 → Q L_5 f_6) ∧ (¬ ((x_32 - (ti f_2 q0 3)) ≤ 5) → ∀ f_6 : TF, f_6 = sI f_5 q0 2 4 → Ok L_5 f_6 → Q L_5 f_6)))))))) ∧ (¬ (x_11 < 97) → ((122 < x_11 → ∀ f_5 : TF, f_5 = sI f_4 q0 2 4 → Ok L_2 f_5 → ∀ f_6 : TF, f_6 = sI f_5 q0 4 ((ti f_2 q0 3) + 1) → Ok L_2 f_6 → Q L_2 f_6) ∧ (¬ (122 < x_11) → ∀ f_5 : TF, f_5 = sI f_4 q0 2 1 → Ok L_2 f_5 → wp_Tp_passLetters_w L_2 f_5 q0 (fun (L_6 : List Nat) (f_6 : TF) => Ok L_6 f_6 → Ext W_Tp_passLetters_w L_2 f_5 L_6 f_6 → Q L_6 f_6)))))))))
def wpL_Tp_step_w_8_3 (L : List Nat) (f : TF) (q0 : Nat) (x_1 : Int32) (f_1 : TF) (Q : List Nat → TF → Prop) : Nat → List Nat → TF → Prop
  | 0 => fun L_2 f_2 => wpB_Tp_step_w_8_3 L f q0 x_1 f_1 Q (fun _ _ => True) L_2 f_2
  | n + 1 => fun L_2 f_2 => wpB_Tp_step_w_8_3 L f q0 x_1 f_1 Q (wpL_Tp_step_w_8_3 L f q0 x_1 f_1 Q n) L_2 f_2
def wpR_Tp_step_w_8_3 (L : List Nat) (f : TF) (q0 : Nat) (x_1 : Int32) (f_1 : TF) (Q : List Nat → TF → Prop) : Nat → List Nat → TF → Prop
  | 0 => fun _ _ => True
  | n + 1 => wpL_Tp_step_w_8_3 L f q0 x_1 f_1 Q n
theorem wpL_Tp_step_w_8_3_eq {L : List Nat} {f : TF} {q0 : Nat} {x_1 : Int32} {f_1 : TF} {Q : List Nat → TF → Prop} {n : Nat} : wpL_Tp_step_w_8_3 L f q0 x_1 f_1 Q n = wpB_Tp_step_w_8_3 L f q0 x_1 f_1 Q (wpR_Tp_step_w_8_3 L f q0 x_1 f_1 Q n) := by cases n <;> rfl
theorem wpR_Tp_step_w_8_3_pos {L : List Nat} {f : TF} {q0 : Nat} {x_1 : Int32} {f_1 : TF} {Q : List Nat → TF → Prop} {n : Nat} (h : 0 < n) : wpR_Tp_step_w_8_3 L f q0 x_1 f_1 Q n = wpL_Tp_step_w_8_3 L f q0 x_1 f_1 Q (n - 1) := by
  cases n with
  | zero => omega
  | succ n => rfl
def wp_Tp_step_w (L : List Nat) (f : TF) (q0 : Nat) (Q : List Nat → TF → Prop) : Prop := ∀ x_1 : Int32, ti f q0 4 = x_1 → ∀ f_1 : TF, f_1 = sI f q0 3 x_1 → Ok L f_1 → wpL_Tp_step_w_8_3 L f q0 x_1 f_1 Q (((400 : Int32).toInt - (x_1 : Int32).toInt).toNat) L f_1
set_option maxHeartbeats 4000000 in
set_option maxRecDepth 100000 in
theorem c_Tp_step_w (l : Launch) (dC : Nat → ClassId) (dI : Nat → Nat → Nat) (ct : Nat → ClassId) (L : List Nat) (f : TF) (hO_0 : Ok L f) (q0 : Nat) (m0 : q0 ∈ L ∧ tk f q0 = 10) (sz : Nat)    (Q : List Nat → TF → Prop) (hQ : wp_Tp_step_w L f q0 Q) : Met l y_Tp_step (.code y_Tp_step b_Tp_step 1 none :: TB) ({ frames := 2, cells := 0, slots := 0, locals := 40 }) (va_Pc [.ref q0] (PC dC dI (TW ct L f) (TT ct) sz)) (va_Qv (fun (u : TSt) => Ok u.1 u.2 ∧ Ext W_Tp_step_w L f u.1 u.2 ∧ (True) ∧ Q u.1 u.2) (fun (u : TSt) t => va_P (dC, dI) vwCl (TW ct u.1 u.2) t.heap ∧ va_K (dC, dI) vwCl (TT ct) t ∧ va_D (va_A (TW ct L f) sz) (TW ct u.1 u.2)) (va_A (TW ct L f) sz)) 0 0 (va_A (TW ct L f) sz) := by
  refine Met.ofW (cc := b_Tp_step) (maxL := 1) (ret := none) (by decide) rfl ?_
  intro p e s m args below meth c s₁ B hml hv
  obtain ⟨rfl, hsz, hP, hK, hD0, hN⟩ := hv
  have hx := B.exec
  have hb := B.bytes
  have hr := B.returns
  have hts := atoms_spec (ws := (.code y_Tp_step b_Tp_step 1 none :: TB)) B.pre
  have htb := fun w (h : w ∈ TB) => hts w (List.mem_cons_of_mem _ h)
  have hown : s.vm.findClass R_Tp = some m.cls := findClass_of_methodNamed B.named
  have hlocks := B.notSynchronized
  have hl := lv_entry ([.ref q0]) (n := 1) (Nat.le_of_ble_eq_true rfl)
  rw [lg_entry_eq]
  generalize (lg_sl ([.ref q0]) ++ List.replicate (1 - (lg_sl ([.ref q0])).length) Slot.unset).toArray = ls at hl ⊢
  have hl : lv_has ls 1 [(0, .ref q0)] := hl
  subst hsz
  have hD := hD0.self (sz := s.heap.size)
  obtain ⟨A, hAe⟩ : ∃ A, va_A (TW ct L f) s.heap.size = A := ⟨_, rfl⟩
  rw [hAe] at hD
  have hA : ∀ q : Nat, s.heap.size ≤ q → A q := fun q h => by rw [← hAe]; exact Or.inr h
  have hS : va_S A s.heap s.heap [] := va_S.rf
  have hA_0 : Ext [] L f L f := Ext.rf
  suffices hGo : ∀ (H : Heap) (locs : List Loc), va_P (dC, dI) vwCl (TW ct L f) H → va_S A s.heap H locs → W p l e (headSpec (.code y_Tp_step b_Tp_step 1 none :: TB) ({ frames := 2, cells := 0, slots := 0, locals := 40 })).room s m [.ref q0].toArray below meth c H locs 0 0 (MQ below (va_Qv (fun (u : TSt) => Ok u.1 u.2 ∧ Ext W_Tp_step_w L f u.1 u.2 ∧ (True) ∧ Q u.1 u.2) (fun (u : TSt) t => va_P (dC, dI) vwCl (TW ct u.1 u.2) t.heap ∧ va_K (dC, dI) vwCl (TT ct) t ∧ va_D (va_A (TW ct L f) s.heap.size) (TW ct u.1 u.2)) (va_A (TW ct L f) s.heap.size)) [.ref q0].toArray s 0 0 (va_A (TW ct L f) s.heap.size)) (F0 m 0 ls []) from hGo _ _ hP hS
  clear hP hS
  intro H locs hP hS
  unfold wp_Tp_step_w at hQ
  refine lv_aload_n hx hb d_Tp_step_0 rfl (lv_at hl 0 rfl) ?_
  refine lv_aload_n hx hb d_Tp_step_1 rfl (lv_at hl 0 rfl) ?_
  refine tw_geti (D := (dC, dI)) (C := R_Tp) (T := F_Tp) (N := 6) (ci := 4) (kd := 10) (ct := ct) hx hb htb i_Tp hown hK hP hO_0 m0 rfl rfl 4 (by decide) (htb (.fieldLink R_Tp 24 "WaterMen$Tape" "behind" "I") tw_254) (fun _ h9 => h9) rfl d_Tp_step_2 (fun x_1 e_1 b_1 => ?_)
  have hQ := hQ x_1 e_1
  refine tw_puti (v := x_1) (D := (dC, dI)) (C := R_Tp) (T := F_Tp) (N := 6) (ci := 4) (kd := 10) (ct := ct) (ty := .int) hx hb htb i_Tp t_Tp t_Tp_ok n_Tp hown hK hP hD hS hO_0 m0 rfl rfl 3 (by decide) (htb (.fieldLink R_Tp 34 "WaterMen$Tape" "start" "I") tw_255) (fun _ h9 => h9) rfl (by decide +kernel) rfl rfl rfl ⟨b_1.1, b_1.2⟩ d_Tp_step_5 (fun f_1 H locs hP hD hS hO_1 hE_1 w_2 hF_1 => ?_)
  have hA_1 := hA_0.trans hE_1
  have hQ := hQ f_1 hF_1
  have hQ := hQ hO_1
  have cut_3 : ∀ (n_3 : Nat) (L_2 : List Nat) (f_2 : TF) (H : Heap) (locs : List Loc) (ls : Array Slot), va_P (dC, dI) vwCl (TW ct L_2 f_2) H → va_D A (TW ct L_2 f_2) → va_S A s.heap H locs → Ok L_2 f_2 → Ext WL_Tp_step_w_8_3 L f_1 L_2 f_2 → (400 : Int32).toInt - ((ti f_2 q0 3) : Int32).toInt ≤ (n_3 : Int) → wpL_Tp_step_w_8_3 L f q0 x_1 f_1 Q n_3 L_2 f_2 → lv_has ls 1 [(0, .ref q0)] → W p l e (headSpec (.code y_Tp_step b_Tp_step 1 none :: TB) ({ frames := 2, cells := 0, slots := 0, locals := 40 })).room s m [.ref q0].toArray below meth c H locs 0 0 (MQ below (va_Qv (fun (u : TSt) => Ok u.1 u.2 ∧ Ext W_Tp_step_w L f u.1 u.2 ∧ (True) ∧ Q u.1 u.2) (fun (u : TSt) t => va_P (dC, dI) vwCl (TW ct u.1 u.2) t.heap ∧ va_K (dC, dI) vwCl (TT ct) t ∧ va_D (va_A (TW ct L f) s.heap.size) (TW ct u.1 u.2)) (va_A (TW ct L f) s.heap.size)) [.ref q0].toArray s 0 0 (va_A (TW ct L f) s.heap.size)) (F0 m 8 ls []) := by
    intro n_3
    induction n_3 using Nat.strongRecOn with
    | _ n_3 ih_3 =>
      intro L_2 f_2 H locs ls hP hD hS hO_2 hE_2 hm_3 hQ hl
      have hA_2 := hA_1.trans hE_2
      have bf_4 := hO_2.i (hA_2.m m0) (show slotD 10 3 = some (.inl (0, 400)) from rfl)
      rw [wpL_Tp_step_w_8_3_eq] at hQ
      obtain ⟨rec_3, hrec_3⟩ : ∃ g, wpR_Tp_step_w_8_3 L f q0 x_1 f_1 Q n_3 = g := ⟨_, rfl⟩
      rw [hrec_3] at hQ
      unfold wpB_Tp_step_w_8_3 at hQ
      have hQ := hQ hO_2 hE_2
      refine lv_aload_n hx hb d_Tp_step_8 rfl (lv_at hl 0 rfl) ?_
      refine tw_getI (x := (ti f_2 q0 3)) (D := (dC, dI)) (C := R_Tp) (T := F_Tp) (N := 6) (ci := 4) (kd := 10) (ct := ct) hx hb htb i_Tp hown hK hP (hA_2.m m0) rfl rfl 3 rfl (by decide) (htb (.fieldLink R_Tp 34 "WaterMen$Tape" "start" "I") tw_255) (fun _ h9 => h9) rfl d_Tp_step_9 ?_
      refine lv_aload_n hx hb d_Tp_step_12 rfl (lv_at hl 0 rfl) ?_
      refine tw_geti (D := (dC, dI)) (C := R_Tp) (T := F_Tp) (N := 6) (ci := 4) (kd := 10) (ct := ct) hx hb htb i_Tp hown hK hP hO_2 (hA_2.m m0) rfl rfl 1 (by decide) (htb (.fieldLink R_Tp 15 "WaterMen$Tape" "length" "I") tw_175) (fun _ h9 => h9) rfl d_Tp_step_13 (fun x_5 e_5 b_5 => ?_)
      have hQ := hQ x_5 e_5
      refine lv_icmp_ge (tgt := 46) hx hb d_Tp_step_16 (by decide) (fun c_6 => ?_) (fun c_6 => ?_)
      · have hQ := hQ.1 c_6
        refine lv_aload_n hx hb d_Tp_step_46 rfl (lv_at hl 0 rfl) ?_
        refine lv_aload_n hx hb d_Tp_step_47 rfl (lv_at hl 0 rfl) ?_
        refine tw_getI (x := (ti f_2 q0 3)) (D := (dC, dI)) (C := R_Tp) (T := F_Tp) (N := 6) (ci := 4) (kd := 10) (ct := ct) hx hb htb i_Tp hown hK hP (hA_2.m m0) rfl rfl 3 rfl (by decide) (htb (.fieldLink R_Tp 34 "WaterMen$Tape" "start" "I") tw_255) (fun _ h9 => h9) rfl d_Tp_step_48 ?_
        refine tw_puti (v := (ti f_2 q0 3)) (D := (dC, dI)) (C := R_Tp) (T := F_Tp) (N := 6) (ci := 4) (kd := 10) (ct := ct) (ty := .int) hx hb htb i_Tp t_Tp t_Tp_ok n_Tp hown hK hP hD hS hO_2 (hA_2.m m0) rfl rfl 4 (by decide) (htb (.fieldLink R_Tp 24 "WaterMen$Tape" "behind" "I") tw_254) (fun _ h9 => h9) rfl (by decide +kernel) rfl rfl rfl ⟨bf_4.1, bf_4.2⟩ d_Tp_step_51 (fun f_3 H locs hP hD hS hO_3 hE_3 w_7 hF_3 => ?_)
        have hA_3 := hA_2.trans hE_3
        have hQ := hQ f_3 hF_3
        have hQ := hQ hO_3
        refine lv_aload_n hx hb d_Tp_step_54 rfl (lv_at hl 0 rfl) ?_
        refine lv_iconst (v := 0) hx hb d_Tp_step_55 (by decide +kernel) ?_
        refine tw_puti (v := 0) (D := (dC, dI)) (C := R_Tp) (T := F_Tp) (N := 6) (ci := 4) (kd := 10) (ct := ct) (ty := .int) hx hb htb i_Tp t_Tp t_Tp_ok n_Tp hown hK hP hD hS hO_3 (hA_3.m m0) rfl rfl 5 (by decide) (htb (.fieldLink R_Tp 48 "WaterMen$Tape" "value" "I") tw_256) (fun _ h9 => h9) rfl (by decide +kernel) rfl rfl rfl (i32_full _) d_Tp_step_56 (fun f_4 H locs hP hD hS hO_4 hE_4 w_8 hF_4 => ?_)
        have hA_4 := hA_3.trans hE_4
        have hQ := hQ f_4 hF_4
        have hQ := hQ hO_4
        refine lv_aload_n hx hb d_Tp_step_59 rfl (lv_at hl 0 rfl) ?_
        refine tw_getI (x := (ti f_2 q0 3)) (D := (dC, dI)) (C := R_Tp) (T := F_Tp) (N := 6) (ci := 4) (kd := 10) (ct := ct) hx hb htb i_Tp hown hK hP (hA_4.m m0) rfl rfl 3 ((hE_4.ei (hA_3.m m0) rfl).trans ((hE_3.ei (hA_2.m m0) rfl).trans rfl)) (by decide) (htb (.fieldLink R_Tp 34 "WaterMen$Tape" "start" "I") tw_255) (fun _ h9 => h9) rfl d_Tp_step_60 ?_
        refine lv_aload_n hx hb d_Tp_step_63 rfl (lv_at hl 0 rfl) ?_
        refine tw_getI (x := x_5) (D := (dC, dI)) (C := R_Tp) (T := F_Tp) (N := 6) (ci := 4) (kd := 10) (ct := ct) hx hb htb i_Tp hown hK hP (hA_4.m m0) rfl rfl 1 ((hE_4.ei (hA_3.m m0) rfl).trans ((hE_3.ei (hA_2.m m0) rfl).trans e_5)) (by decide) (htb (.fieldLink R_Tp 15 "WaterMen$Tape" "length" "I") tw_175) (fun _ h9 => h9) rfl d_Tp_step_64 ?_
        refine lv_icmp_lt (tgt := 78) hx hb d_Tp_step_67 (by decide) (fun h => absurd h (show ¬ ((ti f_2 q0 3) < x_5) from ((fun (a_0 : Int32) (a_1 : Int32) (k_0 : a_1 ≤ a_0) => (show ¬ (a_0 < a_1) from by have r0 := fb_rng (a_0); have r1 := fb_rng (a_1); have e0 := k_0; rw [Int32.le_iff_toInt_le] at e0; rw [Int32.lt_iff_toInt_lt]; omega)) (ti f_2 q0 3) x_5 c_6))) (fun _ => ?_)
        refine lv_aload_n hx hb d_Tp_step_70 rfl (lv_at hl 0 rfl) ?_
        refine lv_iconst (v := 0) hx hb d_Tp_step_71 (by decide +kernel) ?_
        refine tw_puti (v := 0) (D := (dC, dI)) (C := R_Tp) (T := F_Tp) (N := 6) (ci := 4) (kd := 10) (ct := ct) (ty := .int) hx hb htb i_Tp t_Tp t_Tp_ok n_Tp hown hK hP hD hS hO_4 (hA_4.m m0) rfl rfl 2 (by decide) (htb (.fieldLink R_Tp 37 "WaterMen$Tape" "sort" "I") tw_257) (fun _ h9 => h9) rfl (by decide +kernel) rfl rfl rfl (i32_full _) d_Tp_step_72 (fun f_5 H locs hP hD hS hO_5 hE_5 w_9 hF_5 => ?_)
        have hA_5 := hA_4.trans hE_5
        have hQ := hQ f_5 hF_5
        have hQ := hQ hO_5
        refine lv_goto (tgt := 182) hx hb d_Tp_step_75 (by decide) ?_
        refine W.widen (k := 0) (n := 0) (Nat.le_of_ble_eq_true rfl) (Nat.le_of_ble_eq_true rfl) ?_
        exact W.vret hx hb hr (fun t ht hW => ⟨⟨(L_2, f_5), rfl, ⟨hO_5, hA_5.mono (by decide +kernel), trivial, hQ⟩, by rw [ht]; exact hP, va_K.moved hW.alike hK, by rw [hAe]; exact hD⟩, by rw [hAe]; exact hS.F ht⟩) (by rw [hAe]; exact hS.2.2) d_Tp_step_182
      · have hQ := hQ.2 c_6
        refine lv_aload_n hx hb d_Tp_step_19 rfl (lv_at hl 0 rfl) ?_
        refine tw_getr (D := (dC, dI)) (C := R_Tp) (T := F_Tp) (N := 6) (ci := 4) (kd := 10) (ct := ct) hx hb htb i_Tp hown hK hP hO_2 (hA_2.m m0) rfl rfl 0 (by decide) (htb (.fieldLink R_Tp 9 "WaterMen$Tape" "bytes" "[B") tw_181) (fun _ h9 => h9) rfl d_Tp_step_20 (fun q_10 e_10 m_10 => ?_)
        have hQ := hQ q_10 e_10
        refine lv_aload_n hx hb d_Tp_step_23 rfl (lv_at hl 0 rfl) ?_
        refine tw_getI (x := (ti f_2 q0 3)) (D := (dC, dI)) (C := R_Tp) (T := F_Tp) (N := 6) (ci := 4) (kd := 10) (ct := ct) hx hb htb i_Tp hown hK hP (hA_2.m m0) rfl rfl 3 rfl (by decide) (htb (.fieldLink R_Tp 34 "WaterMen$Tape" "start" "I") tw_255) (fun _ h9 => h9) rfl d_Tp_step_24 ?_
        refine tw_aldB (ct := ct) hx hb hK hP hO_2 m_10 rfl ((fun (a_0 : Int32) (a_1 : Int32) (k_0 : ¬ (a_0 < 0)) (k_1 : ¬ (a_1 ≤ a_0)) (k_2 : ¬ (400 < a_1)) => (show vp_in (a_0) 400 from by have z0 : (0 : Int32).toInt = 0 := (by decide +kernel); have z1 : (400 : Int32).toInt = 400 := (by decide +kernel); have r0 := fb_rng (a_0); have r1 := fb_rng (a_1); have e0 := k_0; rw [Int32.lt_iff_toInt_lt, z0] at e0; have e1 := k_1; rw [Int32.le_iff_toInt_le] at e1; have e2 := k_2; rw [Int32.lt_iff_toInt_lt, z1] at e2; rw [vp_in_iff]; omega)) (ti f_2 q0 3) x_5 bf_4.1 c_6 b_5.2) d_Tp_step_27 (fun x_11 e_11 b_11 => ?_)
        have hQ := hQ x_11 e_11
        refine lv_bipush (v := 32) hx hb d_Tp_step_28 (by decide +kernel) ?_
        refine lv_icmp_ne (tgt := 46) hx hb d_Tp_step_30 (by decide) (fun c_12 => ?_) (fun c_12 => ?_)
        · have hQ := hQ.2 c_12
          refine lv_aload_n hx hb d_Tp_step_46 rfl (lv_at hl 0 rfl) ?_
          refine lv_aload_n hx hb d_Tp_step_47 rfl (lv_at hl 0 rfl) ?_
          refine tw_getI (x := (ti f_2 q0 3)) (D := (dC, dI)) (C := R_Tp) (T := F_Tp) (N := 6) (ci := 4) (kd := 10) (ct := ct) hx hb htb i_Tp hown hK hP (hA_2.m m0) rfl rfl 3 rfl (by decide) (htb (.fieldLink R_Tp 34 "WaterMen$Tape" "start" "I") tw_255) (fun _ h9 => h9) rfl d_Tp_step_48 ?_
          refine tw_puti (v := (ti f_2 q0 3)) (D := (dC, dI)) (C := R_Tp) (T := F_Tp) (N := 6) (ci := 4) (kd := 10) (ct := ct) (ty := .int) hx hb htb i_Tp t_Tp t_Tp_ok n_Tp hown hK hP hD hS hO_2 (hA_2.m m0) rfl rfl 4 (by decide) (htb (.fieldLink R_Tp 24 "WaterMen$Tape" "behind" "I") tw_254) (fun _ h9 => h9) rfl (by decide +kernel) rfl rfl rfl ⟨bf_4.1, bf_4.2⟩ d_Tp_step_51 (fun f_3 H locs hP hD hS hO_3 hE_3 w_13 hF_3 => ?_)
          have hA_3 := hA_2.trans hE_3
          have hQ := hQ f_3 hF_3
          have hQ := hQ hO_3
          refine lv_aload_n hx hb d_Tp_step_54 rfl (lv_at hl 0 rfl) ?_
          refine lv_iconst (v := 0) hx hb d_Tp_step_55 (by decide +kernel) ?_
          refine tw_puti (v := 0) (D := (dC, dI)) (C := R_Tp) (T := F_Tp) (N := 6) (ci := 4) (kd := 10) (ct := ct) (ty := .int) hx hb htb i_Tp t_Tp t_Tp_ok n_Tp hown hK hP hD hS hO_3 (hA_3.m m0) rfl rfl 5 (by decide) (htb (.fieldLink R_Tp 48 "WaterMen$Tape" "value" "I") tw_256) (fun _ h9 => h9) rfl (by decide +kernel) rfl rfl rfl (i32_full _) d_Tp_step_56 (fun f_4 H locs hP hD hS hO_4 hE_4 w_14 hF_4 => ?_)
          have hA_4 := hA_3.trans hE_4
          have hQ := hQ f_4 hF_4
          have hQ := hQ hO_4
          refine lv_aload_n hx hb d_Tp_step_59 rfl (lv_at hl 0 rfl) ?_
          refine tw_getI (x := (ti f_2 q0 3)) (D := (dC, dI)) (C := R_Tp) (T := F_Tp) (N := 6) (ci := 4) (kd := 10) (ct := ct) hx hb htb i_Tp hown hK hP (hA_4.m m0) rfl rfl 3 ((hE_4.ei (hA_3.m m0) rfl).trans ((hE_3.ei (hA_2.m m0) rfl).trans rfl)) (by decide) (htb (.fieldLink R_Tp 34 "WaterMen$Tape" "start" "I") tw_255) (fun _ h9 => h9) rfl d_Tp_step_60 ?_
          refine lv_aload_n hx hb d_Tp_step_63 rfl (lv_at hl 0 rfl) ?_
          refine tw_getI (x := x_5) (D := (dC, dI)) (C := R_Tp) (T := F_Tp) (N := 6) (ci := 4) (kd := 10) (ct := ct) hx hb htb i_Tp hown hK hP (hA_4.m m0) rfl rfl 1 ((hE_4.ei (hA_3.m m0) rfl).trans ((hE_3.ei (hA_2.m m0) rfl).trans e_5)) (by decide) (htb (.fieldLink R_Tp 15 "WaterMen$Tape" "length" "I") tw_175) (fun _ h9 => h9) rfl d_Tp_step_64 ?_
          refine lv_icmp_lt (tgt := 78) hx hb d_Tp_step_67 (by decide) (fun _ => ?_) (fun h => absurd (show (ti f_2 q0 3) < x_5 from ((fun (a_0 : Int32) (a_1 : Int32) (k_0 : ¬ (a_1 ≤ a_0)) => (show a_0 < a_1 from by have r0 := fb_rng (a_0); have r1 := fb_rng (a_1); have e0 := k_0; rw [Int32.le_iff_toInt_le] at e0; rw [Int32.lt_iff_toInt_lt]; omega)) (ti f_2 q0 3) x_5 c_6)) h)
          refine lv_aload_n hx hb d_Tp_step_78 rfl (lv_at hl 0 rfl) ?_
          refine tw_getR (D := (dC, dI)) (C := R_Tp) (T := F_Tp) (N := 6) (ci := 4) (kd := 10) (ct := ct) hx hb htb i_Tp hown hK hP (hA_4.m m0) rfl rfl 0 ((hE_4.er (hA_3.m m0) rfl).trans ((hE_3.er (hA_2.m m0) rfl).trans e_10)) (by decide) (htb (.fieldLink R_Tp 9 "WaterMen$Tape" "bytes" "[B") tw_181) (fun _ h9 => h9) rfl d_Tp_step_79 ?_
          refine hb_tv (.ref q_10) rfl ?_
          refine lv_aload_n hx hb d_Tp_step_82 rfl (lv_at hl 0 rfl) ?_
          refine tw_getI (x := (ti f_2 q0 3)) (D := (dC, dI)) (C := R_Tp) (T := F_Tp) (N := 6) (ci := 4) (kd := 10) (ct := ct) hx hb htb i_Tp hown hK hP (hA_4.m m0) rfl rfl 3 ((hE_4.ei (hA_3.m m0) rfl).trans ((hE_3.ei (hA_2.m m0) rfl).trans rfl)) (by decide) (htb (.fieldLink R_Tp 34 "WaterMen$Tape" "start" "I") tw_255) (fun _ h9 => h9) rfl d_Tp_step_83 ?_
          refine tw_aldxB (ct := ct) (x := x_11) hx hb hK hP (hE_4.m (hE_3.m m_10)) rfl ((fun (a_0 : Int32) (a_1 : Int32) (k_0 : ¬ (a_0 < 0)) (k_1 : ¬ (a_1 ≤ a_0)) (k_2 : ¬ (400 < a_1)) => (show vp_in (a_0) 400 from by have z0 : (0 : Int32).toInt = 0 := (by decide +kernel); have z1 : (400 : Int32).toInt = 400 := (by decide +kernel); have r0 := fb_rng (a_0); have r1 := fb_rng (a_1); have e0 := k_0; rw [Int32.lt_iff_toInt_lt, z0] at e0; have e1 := k_1; rw [Int32.le_iff_toInt_le] at e1; have e2 := k_2; rw [Int32.lt_iff_toInt_lt, z1] at e2; rw [vp_in_iff]; omega)) (ti f_2 q0 3) x_5 bf_4.1 c_6 b_5.2) ((hE_4.ei (hE_3.m m_10) rfl).trans ((hE_3.ei m_10 rfl).trans e_11)) d_Tp_step_86 ?_
          refine vp_callSi (va_Run.run (va_runS (As := [.int x_11]) (rest := []) ⟨hx, hb, hml, hown, htb⟩ (c_Tp_isLetter l x_11) (cwS 1 htb (gd_S tw_259 tw_260 tw_177 tw_258) rfl rfl rfl (by decide +kernel) ⟨Nat.le_of_ble_eq_true rfl, Nat.le_of_ble_eq_true rfl⟩) ⟨fun _ _ _ _ h => h, fun U _ _ => ⟨rfl, trivial⟩⟩ rfl rfl hl.1 rfl (lv_room (Nat.le_of_ble_eq_true rfl)) d_Tp_step_87 ⟨Nat.le_of_ble_eq_true rfl, Nat.le_of_ble_eq_true rfl⟩)) (fun r er => ?_)
          subst er
          by_cases c_17 : x_11 < 97
          · have hQ := hQ.1 c_17
            refine hb_ti 0 (by unfold f_Tp_isLetter; rw [if_pos c_17]; first | done | rfl) ?_
            refine lv_if_eq (tgt := 105) hx hb d_Tp_step_90 (by decide) (fun _ => ?_) (fun h => absurd (by decide +kernel) h)
            refine lv_aload_n hx hb d_Tp_step_105 rfl (lv_at hl 0 rfl) ?_
            refine tw_getR (D := (dC, dI)) (C := R_Tp) (T := F_Tp) (N := 6) (ci := 4) (kd := 10) (ct := ct) hx hb htb i_Tp hown hK hP (hA_4.m m0) rfl rfl 0 ((hE_4.er (hA_3.m m0) rfl).trans ((hE_3.er (hA_2.m m0) rfl).trans e_10)) (by decide) (htb (.fieldLink R_Tp 9 "WaterMen$Tape" "bytes" "[B") tw_181) (fun _ h9 => h9) rfl d_Tp_step_106 ?_
            refine hb_tv (.ref q_10) rfl ?_
            refine lv_aload_n hx hb d_Tp_step_109 rfl (lv_at hl 0 rfl) ?_
            refine tw_getI (x := (ti f_2 q0 3)) (D := (dC, dI)) (C := R_Tp) (T := F_Tp) (N := 6) (ci := 4) (kd := 10) (ct := ct) hx hb htb i_Tp hown hK hP (hA_4.m m0) rfl rfl 3 ((hE_4.ei (hA_3.m m0) rfl).trans ((hE_3.ei (hA_2.m m0) rfl).trans rfl)) (by decide) (htb (.fieldLink R_Tp 34 "WaterMen$Tape" "start" "I") tw_255) (fun _ h9 => h9) rfl d_Tp_step_110 ?_
            refine tw_aldxB (ct := ct) (x := x_11) hx hb hK hP (hE_4.m (hE_3.m m_10)) rfl ((fun (a_0 : Int32) (a_1 : Int32) (k_0 : ¬ (a_0 < 0)) (k_1 : ¬ (a_1 ≤ a_0)) (k_2 : ¬ (400 < a_1)) => (show vp_in (a_0) 400 from by have z0 : (0 : Int32).toInt = 0 := (by decide +kernel); have z1 : (400 : Int32).toInt = 400 := (by decide +kernel); have r0 := fb_rng (a_0); have r1 := fb_rng (a_1); have e0 := k_0; rw [Int32.lt_iff_toInt_lt, z0] at e0; have e1 := k_1; rw [Int32.le_iff_toInt_le] at e1; have e2 := k_2; rw [Int32.lt_iff_toInt_lt, z1] at e2; rw [vp_in_iff]; omega)) (ti f_2 q0 3) x_5 bf_4.1 c_6 b_5.2) ((hE_4.ei (hE_3.m m_10) rfl).trans ((hE_3.ei m_10 rfl).trans e_11)) d_Tp_step_113 ?_
            refine vp_callSi (va_Run.run (va_runS (As := [.int x_11]) (rest := []) ⟨hx, hb, hml, hown, htb⟩ (c_Tp_isDigit l x_11) (cwS 1 htb (gd_S tw_262 tw_263 tw_177 tw_261) rfl rfl rfl (by decide +kernel) ⟨Nat.le_of_ble_eq_true rfl, Nat.le_of_ble_eq_true rfl⟩) ⟨fun _ _ _ _ h => h, fun U _ _ => ⟨rfl, trivial⟩⟩ rfl rfl hl.1 rfl (lv_room (Nat.le_of_ble_eq_true rfl)) d_Tp_step_114 ⟨Nat.le_of_ble_eq_true rfl, Nat.le_of_ble_eq_true rfl⟩)) (fun r er => ?_)
            subst er
            by_cases c_20 : x_11 < 48
            · have hQ := hQ.1 c_20
              refine hb_ti 0 (by unfold f_Tp_isDigit; rw [if_pos c_20]; first | done | rfl) ?_
              refine lv_if_eq (tgt := 149) hx hb d_Tp_step_117 (by decide) (fun _ => ?_) (fun h => absurd (by decide +kernel) h)
              refine lv_aload_n hx hb d_Tp_step_149 rfl (lv_at hl 0 rfl) ?_
              refine lv_aload_n hx hb d_Tp_step_150 rfl (lv_at hl 0 rfl) ?_
              refine tw_getR (D := (dC, dI)) (C := R_Tp) (T := F_Tp) (N := 6) (ci := 4) (kd := 10) (ct := ct) hx hb htb i_Tp hown hK hP (hA_4.m m0) rfl rfl 0 ((hE_4.er (hA_3.m m0) rfl).trans ((hE_3.er (hA_2.m m0) rfl).trans e_10)) (by decide) (htb (.fieldLink R_Tp 9 "WaterMen$Tape" "bytes" "[B") tw_181) (fun _ h9 => h9) rfl d_Tp_step_151 ?_
              refine hb_tv (.ref q_10) rfl ?_
              refine lv_aload_n hx hb d_Tp_step_154 rfl (lv_at hl 0 rfl) ?_
              refine tw_getI (x := (ti f_2 q0 3)) (D := (dC, dI)) (C := R_Tp) (T := F_Tp) (N := 6) (ci := 4) (kd := 10) (ct := ct) hx hb htb i_Tp hown hK hP (hA_4.m m0) rfl rfl 3 ((hE_4.ei (hA_3.m m0) rfl).trans ((hE_3.ei (hA_2.m m0) rfl).trans rfl)) (by decide) (htb (.fieldLink R_Tp 34 "WaterMen$Tape" "start" "I") tw_255) (fun _ h9 => h9) rfl d_Tp_step_155 ?_
              refine tw_aldxB (ct := ct) (x := x_11) hx hb hK hP (hE_4.m (hE_3.m m_10)) rfl ((fun (a_0 : Int32) (a_1 : Int32) (k_0 : ¬ (a_0 < 0)) (k_1 : ¬ (a_1 ≤ a_0)) (k_2 : ¬ (400 < a_1)) => (show vp_in (a_0) 400 from by have z0 : (0 : Int32).toInt = 0 := (by decide +kernel); have z1 : (400 : Int32).toInt = 400 := (by decide +kernel); have r0 := fb_rng (a_0); have r1 := fb_rng (a_1); have e0 := k_0; rw [Int32.lt_iff_toInt_lt, z0] at e0; have e1 := k_1; rw [Int32.le_iff_toInt_le] at e1; have e2 := k_2; rw [Int32.lt_iff_toInt_lt, z1] at e2; rw [vp_in_iff]; omega)) (ti f_2 q0 3) x_5 bf_4.1 c_6 b_5.2) ((hE_4.ei (hE_3.m m_10) rfl).trans ((hE_3.ei m_10 rfl).trans e_11)) d_Tp_step_158 ?_
              refine lv_bipush (v := 59) hx hb d_Tp_step_159 (by decide +kernel) ?_
              refine lv_icmp_ne (tgt := 168) hx hb d_Tp_step_161 (by decide) (fun _ => ?_) (fun h => absurd h (show ¬ (x_11 = 59) from by have e0 := c_20; rw [Int32.lt_iff_toInt_lt] at e0; have z0 : (48 : Int32).toInt = 48 := (by decide +kernel); have z1 : (59 : Int32).toInt = 59 := (by decide +kernel); rw [← Int32.toInt_inj]; omega))
              refine lv_iconst (v := 4) hx hb d_Tp_step_168 (by decide +kernel) ?_
              refine tw_puti (v := 4) (D := (dC, dI)) (C := R_Tp) (T := F_Tp) (N := 6) (ci := 4) (kd := 10) (ct := ct) (ty := .int) hx hb htb i_Tp t_Tp t_Tp_ok n_Tp hown hK hP hD hS hO_4 (hA_4.m m0) rfl rfl 2 (by decide) (htb (.fieldLink R_Tp 37 "WaterMen$Tape" "sort" "I") tw_257) (fun _ h9 => h9) rfl (by decide +kernel) rfl rfl rfl (i32_full _) d_Tp_step_169 (fun f_5 H locs hP hD hS hO_5 hE_5 w_22 hF_5 => ?_)
              have hA_5 := hA_4.trans hE_5
              have hQ := hQ f_5 hF_5
              have hQ := hQ hO_5
              refine lv_aload_n hx hb d_Tp_step_172 rfl (lv_at hl 0 rfl) ?_
              refine lv_dup hx hb d_Tp_step_173 rfl ?_
              refine tw_getI (x := (ti f_2 q0 3)) (D := (dC, dI)) (C := R_Tp) (T := F_Tp) (N := 6) (ci := 4) (kd := 10) (ct := ct) hx hb htb i_Tp hown hK hP (hA_5.m m0) rfl rfl 4 ((hE_5.ei (hA_4.m m0) rfl).trans ((hE_4.ei (hA_3.m m0) rfl).trans w_13)) (by decide) (htb (.fieldLink R_Tp 24 "WaterMen$Tape" "behind" "I") tw_254) (fun _ h9 => h9) rfl d_Tp_step_174 ?_
              refine lv_iconst (v := 1) hx hb d_Tp_step_177 (by decide +kernel) ?_
              refine lv_iadd hx hb d_Tp_step_178 ?_
              refine tw_puti (v := ((ti f_2 q0 3) + 1)) (D := (dC, dI)) (C := R_Tp) (T := F_Tp) (N := 6) (ci := 4) (kd := 10) (ct := ct) (ty := .int) hx hb htb i_Tp t_Tp t_Tp_ok n_Tp hown hK hP hD hS hO_5 (hA_5.m m0) rfl rfl 4 (by decide) (htb (.fieldLink R_Tp 24 "WaterMen$Tape" "behind" "I") tw_254) (fun _ h9 => h9) rfl (by decide +kernel) rfl rfl rfl ⟨(show ¬ (((ti f_2 q0 3) + 1) < 0) from ((fun (a_0 : Int32) (a_1 : Int32) (k_0 : ¬ (a_0 < 0)) (k_1 : ¬ (a_1 ≤ a_0)) => (show ¬ ((a_0 + 1) < 0) from by have z0 : (0 : Int32).toInt = 0 := (by decide +kernel); have z1 : (1 : Int32).toInt = 1 := (by decide +kernel); have r0 := fb_rng (a_0); have r1 := fb_rng (a_1); have e0 := k_0; rw [Int32.lt_iff_toInt_lt, z0] at e0; have e1 := k_1; rw [Int32.le_iff_toInt_le] at e1; obtain ⟨n_0, hn_0, s0⟩ := nd_add (x := a_0) (y := (1 : Int32)) (by (try rw [z1]); omega) (by (try rw [z1]); omega); rw [z1] at s0; rw [hn_0, Int32.lt_iff_toInt_lt, z0]; omega)) (ti f_2 q0 3) x_5 bf_4.1 c_6)), (show ¬ (400 < ((ti f_2 q0 3) + 1)) from ((fun (a_0 : Int32) (a_1 : Int32) (k_0 : ¬ (a_1 ≤ a_0)) (k_1 : ¬ (400 < a_1)) => (show ¬ (400 < (a_0 + 1)) from by have z0 : (1 : Int32).toInt = 1 := (by decide +kernel); have z1 : (400 : Int32).toInt = 400 := (by decide +kernel); have r0 := fb_rng (a_0); have r1 := fb_rng (a_1); have e0 := k_0; rw [Int32.le_iff_toInt_le] at e0; have e1 := k_1; rw [Int32.lt_iff_toInt_lt, z1] at e1; obtain ⟨n_0, hn_0, s0⟩ := nd_add (x := a_0) (y := (1 : Int32)) (by (try rw [z0]); omega) (by (try rw [z0]); omega); rw [z0] at s0; rw [hn_0, Int32.lt_iff_toInt_lt, z1]; omega)) (ti f_2 q0 3) x_5 c_6 b_5.2))⟩ d_Tp_step_179 (fun f_6 H locs hP hD hS hO_6 hE_6 w_23 hF_6 => ?_)
              have hA_6 := hA_5.trans hE_6
              have hQ := hQ f_6 hF_6
              have hQ := hQ hO_6
              refine W.widen (k := 0) (n := 0) (Nat.le_of_ble_eq_true rfl) (Nat.le_of_ble_eq_true rfl) ?_
              exact W.vret hx hb hr (fun t ht hW => ⟨⟨(L_2, f_6), rfl, ⟨hO_6, hA_6.mono (by decide +kernel), trivial, hQ⟩, by rw [ht]; exact hP, va_K.moved hW.alike hK, by rw [hAe]; exact hD⟩, by rw [hAe]; exact hS.F ht⟩) (by rw [hAe]; exact hS.2.2) d_Tp_step_182
            · have hQ := hQ.2 c_20
              by_cases c_24 : 57 < x_11
              · have hQ := hQ.1 c_24
                refine hb_ti 0 (by unfold f_Tp_isDigit; rw [if_neg c_20, if_pos c_24]; first | done | rfl) ?_
                refine lv_if_eq (tgt := 149) hx hb d_Tp_step_117 (by decide) (fun _ => ?_) (fun h => absurd (by decide +kernel) h)
                refine lv_aload_n hx hb d_Tp_step_149 rfl (lv_at hl 0 rfl) ?_
                refine lv_aload_n hx hb d_Tp_step_150 rfl (lv_at hl 0 rfl) ?_
                refine tw_getR (D := (dC, dI)) (C := R_Tp) (T := F_Tp) (N := 6) (ci := 4) (kd := 10) (ct := ct) hx hb htb i_Tp hown hK hP (hA_4.m m0) rfl rfl 0 ((hE_4.er (hA_3.m m0) rfl).trans ((hE_3.er (hA_2.m m0) rfl).trans e_10)) (by decide) (htb (.fieldLink R_Tp 9 "WaterMen$Tape" "bytes" "[B") tw_181) (fun _ h9 => h9) rfl d_Tp_step_151 ?_
                refine hb_tv (.ref q_10) rfl ?_
                refine lv_aload_n hx hb d_Tp_step_154 rfl (lv_at hl 0 rfl) ?_
                refine tw_getI (x := (ti f_2 q0 3)) (D := (dC, dI)) (C := R_Tp) (T := F_Tp) (N := 6) (ci := 4) (kd := 10) (ct := ct) hx hb htb i_Tp hown hK hP (hA_4.m m0) rfl rfl 3 ((hE_4.ei (hA_3.m m0) rfl).trans ((hE_3.ei (hA_2.m m0) rfl).trans rfl)) (by decide) (htb (.fieldLink R_Tp 34 "WaterMen$Tape" "start" "I") tw_255) (fun _ h9 => h9) rfl d_Tp_step_155 ?_
                refine tw_aldxB (ct := ct) (x := x_11) hx hb hK hP (hE_4.m (hE_3.m m_10)) rfl ((fun (a_0 : Int32) (a_1 : Int32) (k_0 : ¬ (a_0 < 0)) (k_1 : ¬ (a_1 ≤ a_0)) (k_2 : ¬ (400 < a_1)) => (show vp_in (a_0) 400 from by have z0 : (0 : Int32).toInt = 0 := (by decide +kernel); have z1 : (400 : Int32).toInt = 400 := (by decide +kernel); have r0 := fb_rng (a_0); have r1 := fb_rng (a_1); have e0 := k_0; rw [Int32.lt_iff_toInt_lt, z0] at e0; have e1 := k_1; rw [Int32.le_iff_toInt_le] at e1; have e2 := k_2; rw [Int32.lt_iff_toInt_lt, z1] at e2; rw [vp_in_iff]; omega)) (ti f_2 q0 3) x_5 bf_4.1 c_6 b_5.2) ((hE_4.ei (hE_3.m m_10) rfl).trans ((hE_3.ei m_10 rfl).trans e_11)) d_Tp_step_158 ?_
                refine lv_bipush (v := 59) hx hb d_Tp_step_159 (by decide +kernel) ?_
                refine lv_icmp_ne (tgt := 168) hx hb d_Tp_step_161 (by decide) (fun c_26 => ?_) (fun c_26 => ?_)
                · have hQ := hQ.2 c_26
                  refine lv_iconst (v := 4) hx hb d_Tp_step_168 (by decide +kernel) ?_
                  refine tw_puti (v := 4) (D := (dC, dI)) (C := R_Tp) (T := F_Tp) (N := 6) (ci := 4) (kd := 10) (ct := ct) (ty := .int) hx hb htb i_Tp t_Tp t_Tp_ok n_Tp hown hK hP hD hS hO_4 (hA_4.m m0) rfl rfl 2 (by decide) (htb (.fieldLink R_Tp 37 "WaterMen$Tape" "sort" "I") tw_257) (fun _ h9 => h9) rfl (by decide +kernel) rfl rfl rfl (i32_full _) d_Tp_step_169 (fun f_5 H locs hP hD hS hO_5 hE_5 w_27 hF_5 => ?_)
                  have hA_5 := hA_4.trans hE_5
                  have hQ := hQ f_5 hF_5
                  have hQ := hQ hO_5
                  refine lv_aload_n hx hb d_Tp_step_172 rfl (lv_at hl 0 rfl) ?_
                  refine lv_dup hx hb d_Tp_step_173 rfl ?_
                  refine tw_getI (x := (ti f_2 q0 3)) (D := (dC, dI)) (C := R_Tp) (T := F_Tp) (N := 6) (ci := 4) (kd := 10) (ct := ct) hx hb htb i_Tp hown hK hP (hA_5.m m0) rfl rfl 4 ((hE_5.ei (hA_4.m m0) rfl).trans ((hE_4.ei (hA_3.m m0) rfl).trans w_13)) (by decide) (htb (.fieldLink R_Tp 24 "WaterMen$Tape" "behind" "I") tw_254) (fun _ h9 => h9) rfl d_Tp_step_174 ?_
                  refine lv_iconst (v := 1) hx hb d_Tp_step_177 (by decide +kernel) ?_
                  refine lv_iadd hx hb d_Tp_step_178 ?_
                  refine tw_puti (v := ((ti f_2 q0 3) + 1)) (D := (dC, dI)) (C := R_Tp) (T := F_Tp) (N := 6) (ci := 4) (kd := 10) (ct := ct) (ty := .int) hx hb htb i_Tp t_Tp t_Tp_ok n_Tp hown hK hP hD hS hO_5 (hA_5.m m0) rfl rfl 4 (by decide) (htb (.fieldLink R_Tp 24 "WaterMen$Tape" "behind" "I") tw_254) (fun _ h9 => h9) rfl (by decide +kernel) rfl rfl rfl ⟨(show ¬ (((ti f_2 q0 3) + 1) < 0) from ((fun (a_0 : Int32) (a_1 : Int32) (k_0 : ¬ (a_0 < 0)) (k_1 : ¬ (a_1 ≤ a_0)) => (show ¬ ((a_0 + 1) < 0) from by have z0 : (0 : Int32).toInt = 0 := (by decide +kernel); have z1 : (1 : Int32).toInt = 1 := (by decide +kernel); have r0 := fb_rng (a_0); have r1 := fb_rng (a_1); have e0 := k_0; rw [Int32.lt_iff_toInt_lt, z0] at e0; have e1 := k_1; rw [Int32.le_iff_toInt_le] at e1; obtain ⟨n_0, hn_0, s0⟩ := nd_add (x := a_0) (y := (1 : Int32)) (by (try rw [z1]); omega) (by (try rw [z1]); omega); rw [z1] at s0; rw [hn_0, Int32.lt_iff_toInt_lt, z0]; omega)) (ti f_2 q0 3) x_5 bf_4.1 c_6)), (show ¬ (400 < ((ti f_2 q0 3) + 1)) from ((fun (a_0 : Int32) (a_1 : Int32) (k_0 : ¬ (a_1 ≤ a_0)) (k_1 : ¬ (400 < a_1)) => (show ¬ (400 < (a_0 + 1)) from by have z0 : (1 : Int32).toInt = 1 := (by decide +kernel); have z1 : (400 : Int32).toInt = 400 := (by decide +kernel); have r0 := fb_rng (a_0); have r1 := fb_rng (a_1); have e0 := k_0; rw [Int32.le_iff_toInt_le] at e0; have e1 := k_1; rw [Int32.lt_iff_toInt_lt, z1] at e1; obtain ⟨n_0, hn_0, s0⟩ := nd_add (x := a_0) (y := (1 : Int32)) (by (try rw [z0]); omega) (by (try rw [z0]); omega); rw [z0] at s0; rw [hn_0, Int32.lt_iff_toInt_lt, z1]; omega)) (ti f_2 q0 3) x_5 c_6 b_5.2))⟩ d_Tp_step_179 (fun f_6 H locs hP hD hS hO_6 hE_6 w_28 hF_6 => ?_)
                  have hA_6 := hA_5.trans hE_6
                  have hQ := hQ f_6 hF_6
                  have hQ := hQ hO_6
                  refine W.widen (k := 0) (n := 0) (Nat.le_of_ble_eq_true rfl) (Nat.le_of_ble_eq_true rfl) ?_
                  exact W.vret hx hb hr (fun t ht hW => ⟨⟨(L_2, f_6), rfl, ⟨hO_6, hA_6.mono (by decide +kernel), trivial, hQ⟩, by rw [ht]; exact hP, va_K.moved hW.alike hK, by rw [hAe]; exact hD⟩, by rw [hAe]; exact hS.F ht⟩) (by rw [hAe]; exact hS.2.2) d_Tp_step_182
                · have hQ := hQ.1 c_26
                  refine lv_iconst (v := 3) hx hb d_Tp_step_164 (by decide +kernel) ?_
                  refine lv_goto (tgt := 169) hx hb d_Tp_step_165 (by decide) ?_
                  refine tw_puti (v := 3) (D := (dC, dI)) (C := R_Tp) (T := F_Tp) (N := 6) (ci := 4) (kd := 10) (ct := ct) (ty := .int) hx hb htb i_Tp t_Tp t_Tp_ok n_Tp hown hK hP hD hS hO_4 (hA_4.m m0) rfl rfl 2 (by decide) (htb (.fieldLink R_Tp 37 "WaterMen$Tape" "sort" "I") tw_257) (fun _ h9 => h9) rfl (by decide +kernel) rfl rfl rfl (i32_full _) d_Tp_step_169 (fun f_5 H locs hP hD hS hO_5 hE_5 w_29 hF_5 => ?_)
                  have hA_5 := hA_4.trans hE_5
                  have hQ := hQ f_5 hF_5
                  have hQ := hQ hO_5
                  refine lv_aload_n hx hb d_Tp_step_172 rfl (lv_at hl 0 rfl) ?_
                  refine lv_dup hx hb d_Tp_step_173 rfl ?_
                  refine tw_getI (x := (ti f_2 q0 3)) (D := (dC, dI)) (C := R_Tp) (T := F_Tp) (N := 6) (ci := 4) (kd := 10) (ct := ct) hx hb htb i_Tp hown hK hP (hA_5.m m0) rfl rfl 4 ((hE_5.ei (hA_4.m m0) rfl).trans ((hE_4.ei (hA_3.m m0) rfl).trans w_13)) (by decide) (htb (.fieldLink R_Tp 24 "WaterMen$Tape" "behind" "I") tw_254) (fun _ h9 => h9) rfl d_Tp_step_174 ?_
                  refine lv_iconst (v := 1) hx hb d_Tp_step_177 (by decide +kernel) ?_
                  refine lv_iadd hx hb d_Tp_step_178 ?_
                  refine tw_puti (v := ((ti f_2 q0 3) + 1)) (D := (dC, dI)) (C := R_Tp) (T := F_Tp) (N := 6) (ci := 4) (kd := 10) (ct := ct) (ty := .int) hx hb htb i_Tp t_Tp t_Tp_ok n_Tp hown hK hP hD hS hO_5 (hA_5.m m0) rfl rfl 4 (by decide) (htb (.fieldLink R_Tp 24 "WaterMen$Tape" "behind" "I") tw_254) (fun _ h9 => h9) rfl (by decide +kernel) rfl rfl rfl ⟨(show ¬ (((ti f_2 q0 3) + 1) < 0) from ((fun (a_0 : Int32) (a_1 : Int32) (k_0 : ¬ (a_0 < 0)) (k_1 : ¬ (a_1 ≤ a_0)) => (show ¬ ((a_0 + 1) < 0) from by have z0 : (0 : Int32).toInt = 0 := (by decide +kernel); have z1 : (1 : Int32).toInt = 1 := (by decide +kernel); have r0 := fb_rng (a_0); have r1 := fb_rng (a_1); have e0 := k_0; rw [Int32.lt_iff_toInt_lt, z0] at e0; have e1 := k_1; rw [Int32.le_iff_toInt_le] at e1; obtain ⟨n_0, hn_0, s0⟩ := nd_add (x := a_0) (y := (1 : Int32)) (by (try rw [z1]); omega) (by (try rw [z1]); omega); rw [z1] at s0; rw [hn_0, Int32.lt_iff_toInt_lt, z0]; omega)) (ti f_2 q0 3) x_5 bf_4.1 c_6)), (show ¬ (400 < ((ti f_2 q0 3) + 1)) from ((fun (a_0 : Int32) (a_1 : Int32) (k_0 : ¬ (a_1 ≤ a_0)) (k_1 : ¬ (400 < a_1)) => (show ¬ (400 < (a_0 + 1)) from by have z0 : (1 : Int32).toInt = 1 := (by decide +kernel); have z1 : (400 : Int32).toInt = 400 := (by decide +kernel); have r0 := fb_rng (a_0); have r1 := fb_rng (a_1); have e0 := k_0; rw [Int32.le_iff_toInt_le] at e0; have e1 := k_1; rw [Int32.lt_iff_toInt_lt, z1] at e1; obtain ⟨n_0, hn_0, s0⟩ := nd_add (x := a_0) (y := (1 : Int32)) (by (try rw [z0]); omega) (by (try rw [z0]); omega); rw [z0] at s0; rw [hn_0, Int32.lt_iff_toInt_lt, z1]; omega)) (ti f_2 q0 3) x_5 c_6 b_5.2))⟩ d_Tp_step_179 (fun f_6 H locs hP hD hS hO_6 hE_6 w_30 hF_6 => ?_)
                  have hA_6 := hA_5.trans hE_6
                  have hQ := hQ f_6 hF_6
                  have hQ := hQ hO_6
                  refine W.widen (k := 0) (n := 0) (Nat.le_of_ble_eq_true rfl) (Nat.le_of_ble_eq_true rfl) ?_
                  exact W.vret hx hb hr (fun t ht hW => ⟨⟨(L_2, f_6), rfl, ⟨hO_6, hA_6.mono (by decide +kernel), trivial, hQ⟩, by rw [ht]; exact hP, va_K.moved hW.alike hK, by rw [hAe]; exact hD⟩, by rw [hAe]; exact hS.F ht⟩) (by rw [hAe]; exact hS.2.2) d_Tp_step_182
              · have hQ := hQ.2 c_24
                refine hb_ti 1 (by unfold f_Tp_isDigit; rw [if_neg c_20, if_neg c_24]; first | done | rfl) ?_
                refine lv_if_eq (tgt := 149) hx hb d_Tp_step_117 (by decide) (fun h => absurd h (by decide +kernel)) (fun _ => ?_)
                refine lv_aload_n hx hb d_Tp_step_120 rfl (lv_at hl 0 rfl) ?_
                have hFc := hb_free hD hS hA
                refine va_callv (va_runV (As := []) (rest := []) ⟨hx, hb, hml, hown, htb⟩ (c_Tp_passDigits_w l dC dI ct L_2 f_4 hO_4 q0 (hA_4.m m0) _ _ hQ) (cwV 0 htb (gd_V tw_265 tw_266 tw_267 tw_177 tw_264) rfl rfl rfl (by decide +kernel) ⟨Nat.le_of_ble_eq_true rfl, Nat.le_of_ble_eq_true rfl⟩) ⟨pc_blind, tw_recv hK hP (hA_4.m m0) rfl rfl, pc_pre hP hK hD hN⟩ rfl rfl hl.1 rfl (lv_room (Nat.le_of_ble_eq_true rfl)) d_Tp_step_121 ⟨Nat.le_of_ble_eq_true rfl, Nat.le_of_ble_eq_true rfl⟩) hS (fun q _ h => hFc q h) hFc (fun u t H locs ht hvm er hB hz1 hk1 hS => ?_)
                obtain ⟨L_5, f_5⟩ := u
                obtain ⟨hO_5, hE_5, er, hQ⟩ := er
                obtain ⟨hP, hK1, hD1⟩ := hB
                rw [ht] at hP
                have hP : va_P (dC, dI) vwCl (TW ct L_5 f_5) H := hP
                have hD : va_D A (TW ct L_5 f_5) := hD1.weaken (fun _ q _ h => hFc q.1 h)
                have hO_5 : Ok L_5 f_5 := hO_5
                have hE_5 : Ext W_Tp_passDigits_w L_2 f_4 L_5 f_5 := hE_5
                clear hK1 hD1 ht hvm hz1 hk1
                have hA_5 := hA_4.trans hE_5
                have hQ := hQ hO_5 hE_5
                clear er
                refine lv_aload_n hx hb d_Tp_step_124 rfl (lv_at hl 0 rfl) ?_
                refine lv_aload_n hx hb d_Tp_step_125 rfl (lv_at hl 0 rfl) ?_
                refine tw_geti (D := (dC, dI)) (C := R_Tp) (T := F_Tp) (N := 6) (ci := 4) (kd := 10) (ct := ct) hx hb htb i_Tp hown hK hP hO_5 (hA_5.m m0) rfl rfl 4 (by decide) (htb (.fieldLink R_Tp 24 "WaterMen$Tape" "behind" "I") tw_254) (fun _ h9 => h9) rfl d_Tp_step_126 (fun x_32 e_32 b_32 => ?_)
                have hQ := hQ x_32 e_32
                refine lv_aload_n hx hb d_Tp_step_129 rfl (lv_at hl 0 rfl) ?_
                refine tw_getI (x := (ti f_2 q0 3)) (D := (dC, dI)) (C := R_Tp) (T := F_Tp) (N := 6) (ci := 4) (kd := 10) (ct := ct) hx hb htb i_Tp hown hK hP (hA_5.m m0) rfl rfl 3 ((hE_5.ei (hA_4.m m0) rfl).trans ((hE_4.ei (hA_3.m m0) rfl).trans ((hE_3.ei (hA_2.m m0) rfl).trans rfl))) (by decide) (htb (.fieldLink R_Tp 34 "WaterMen$Tape" "start" "I") tw_255) (fun _ h9 => h9) rfl d_Tp_step_130 ?_
                refine lv_isub hx hb d_Tp_step_133 ?_
                refine lv_iconst (v := 5) hx hb d_Tp_step_134 (by decide +kernel) ?_
                refine lv_icmp_le (tgt := 142) hx hb d_Tp_step_135 (by decide) (fun c_33 => ?_) (fun c_33 => ?_)
                · have hQ := hQ.1 c_33
                  refine lv_iconst (v := 2) hx hb d_Tp_step_142 (by decide +kernel) ?_
                  refine tw_puti (v := 2) (D := (dC, dI)) (C := R_Tp) (T := F_Tp) (N := 6) (ci := 4) (kd := 10) (ct := ct) (ty := .int) hx hb htb i_Tp t_Tp t_Tp_ok n_Tp hown hK hP hD hS hO_5 (hA_5.m m0) rfl rfl 2 (by decide) (htb (.fieldLink R_Tp 37 "WaterMen$Tape" "sort" "I") tw_257) (fun _ h9 => h9) rfl (by decide +kernel) rfl rfl rfl (i32_full _) d_Tp_step_143 (fun f_6 H locs hP hD hS hO_6 hE_6 w_34 hF_6 => ?_)
                  have hA_6 := hA_5.trans hE_6
                  have hQ := hQ f_6 hF_6
                  have hQ := hQ hO_6
                  refine lv_goto (tgt := 182) hx hb d_Tp_step_146 (by decide) ?_
                  refine W.widen (k := 0) (n := 0) (Nat.le_of_ble_eq_true rfl) (Nat.le_of_ble_eq_true rfl) ?_
                  exact W.vret hx hb hr (fun t ht hW => ⟨⟨(L_5, f_6), rfl, ⟨hO_6, hA_6.mono (by decide +kernel), trivial, hQ⟩, by rw [ht]; exact hP, va_K.moved hW.alike hK, by rw [hAe]; exact hD⟩, by rw [hAe]; exact hS.F ht⟩) (by rw [hAe]; exact hS.2.2) d_Tp_step_182
                · have hQ := hQ.2 c_33
                  refine lv_iconst (v := 4) hx hb d_Tp_step_138 (by decide +kernel) ?_
                  refine lv_goto (tgt := 143) hx hb d_Tp_step_139 (by decide) ?_
                  refine tw_puti (v := 4) (D := (dC, dI)) (C := R_Tp) (T := F_Tp) (N := 6) (ci := 4) (kd := 10) (ct := ct) (ty := .int) hx hb htb i_Tp t_Tp t_Tp_ok n_Tp hown hK hP hD hS hO_5 (hA_5.m m0) rfl rfl 2 (by decide) (htb (.fieldLink R_Tp 37 "WaterMen$Tape" "sort" "I") tw_257) (fun _ h9 => h9) rfl (by decide +kernel) rfl rfl rfl (i32_full _) d_Tp_step_143 (fun f_6 H locs hP hD hS hO_6 hE_6 w_35 hF_6 => ?_)
                  have hA_6 := hA_5.trans hE_6
                  have hQ := hQ f_6 hF_6
                  have hQ := hQ hO_6
                  refine lv_goto (tgt := 182) hx hb d_Tp_step_146 (by decide) ?_
                  refine W.widen (k := 0) (n := 0) (Nat.le_of_ble_eq_true rfl) (Nat.le_of_ble_eq_true rfl) ?_
                  exact W.vret hx hb hr (fun t ht hW => ⟨⟨(L_5, f_6), rfl, ⟨hO_6, hA_6.mono (by decide +kernel), trivial, hQ⟩, by rw [ht]; exact hP, va_K.moved hW.alike hK, by rw [hAe]; exact hD⟩, by rw [hAe]; exact hS.F ht⟩) (by rw [hAe]; exact hS.2.2) d_Tp_step_182
          · have hQ := hQ.2 c_17
            by_cases c_36 : 122 < x_11
            · have hQ := hQ.1 c_36
              refine hb_ti 0 (by unfold f_Tp_isLetter; rw [if_neg c_17, if_pos c_36]; first | done | rfl) ?_
              refine lv_if_eq (tgt := 105) hx hb d_Tp_step_90 (by decide) (fun _ => ?_) (fun h => absurd (by decide +kernel) h)
              refine lv_aload_n hx hb d_Tp_step_105 rfl (lv_at hl 0 rfl) ?_
              refine tw_getR (D := (dC, dI)) (C := R_Tp) (T := F_Tp) (N := 6) (ci := 4) (kd := 10) (ct := ct) hx hb htb i_Tp hown hK hP (hA_4.m m0) rfl rfl 0 ((hE_4.er (hA_3.m m0) rfl).trans ((hE_3.er (hA_2.m m0) rfl).trans e_10)) (by decide) (htb (.fieldLink R_Tp 9 "WaterMen$Tape" "bytes" "[B") tw_181) (fun _ h9 => h9) rfl d_Tp_step_106 ?_
              refine hb_tv (.ref q_10) rfl ?_
              refine lv_aload_n hx hb d_Tp_step_109 rfl (lv_at hl 0 rfl) ?_
              refine tw_getI (x := (ti f_2 q0 3)) (D := (dC, dI)) (C := R_Tp) (T := F_Tp) (N := 6) (ci := 4) (kd := 10) (ct := ct) hx hb htb i_Tp hown hK hP (hA_4.m m0) rfl rfl 3 ((hE_4.ei (hA_3.m m0) rfl).trans ((hE_3.ei (hA_2.m m0) rfl).trans rfl)) (by decide) (htb (.fieldLink R_Tp 34 "WaterMen$Tape" "start" "I") tw_255) (fun _ h9 => h9) rfl d_Tp_step_110 ?_
              refine tw_aldxB (ct := ct) (x := x_11) hx hb hK hP (hE_4.m (hE_3.m m_10)) rfl ((fun (a_0 : Int32) (a_1 : Int32) (k_0 : ¬ (a_0 < 0)) (k_1 : ¬ (a_1 ≤ a_0)) (k_2 : ¬ (400 < a_1)) => (show vp_in (a_0) 400 from by have z0 : (0 : Int32).toInt = 0 := (by decide +kernel); have z1 : (400 : Int32).toInt = 400 := (by decide +kernel); have r0 := fb_rng (a_0); have r1 := fb_rng (a_1); have e0 := k_0; rw [Int32.lt_iff_toInt_lt, z0] at e0; have e1 := k_1; rw [Int32.le_iff_toInt_le] at e1; have e2 := k_2; rw [Int32.lt_iff_toInt_lt, z1] at e2; rw [vp_in_iff]; omega)) (ti f_2 q0 3) x_5 bf_4.1 c_6 b_5.2) ((hE_4.ei (hE_3.m m_10) rfl).trans ((hE_3.ei m_10 rfl).trans e_11)) d_Tp_step_113 ?_
              refine vp_callSi (va_Run.run (va_runS (As := [.int x_11]) (rest := []) ⟨hx, hb, hml, hown, htb⟩ (c_Tp_isDigit l x_11) (cwS 1 htb (gd_S tw_262 tw_263 tw_177 tw_261) rfl rfl rfl (by decide +kernel) ⟨Nat.le_of_ble_eq_true rfl, Nat.le_of_ble_eq_true rfl⟩) ⟨fun _ _ _ _ h => h, fun U _ _ => ⟨rfl, trivial⟩⟩ rfl rfl hl.1 rfl (lv_room (Nat.le_of_ble_eq_true rfl)) d_Tp_step_114 ⟨Nat.le_of_ble_eq_true rfl, Nat.le_of_ble_eq_true rfl⟩)) (fun r er => ?_)
              subst er
              refine hb_ti 0 (by unfold f_Tp_isDigit; rw [if_neg (show ¬ (x_11 < 48) from by have e0 := c_36; rw [Int32.lt_iff_toInt_lt] at e0; have z0 : (48 : Int32).toInt = 48 := (by decide +kernel); have z1 : (122 : Int32).toInt = 122 := (by decide +kernel); rw [Int32.lt_iff_toInt_lt]; omega), if_pos (show 57 < x_11 from by have e0 := c_36; rw [Int32.lt_iff_toInt_lt] at e0; have z0 : (57 : Int32).toInt = 57 := (by decide +kernel); have z1 : (122 : Int32).toInt = 122 := (by decide +kernel); rw [Int32.lt_iff_toInt_lt]; omega)]) ?_
              refine lv_if_eq (tgt := 149) hx hb d_Tp_step_117 (by decide) (fun _ => ?_) (fun h => absurd (by decide +kernel) h)
              refine lv_aload_n hx hb d_Tp_step_149 rfl (lv_at hl 0 rfl) ?_
              refine lv_aload_n hx hb d_Tp_step_150 rfl (lv_at hl 0 rfl) ?_
              refine tw_getR (D := (dC, dI)) (C := R_Tp) (T := F_Tp) (N := 6) (ci := 4) (kd := 10) (ct := ct) hx hb htb i_Tp hown hK hP (hA_4.m m0) rfl rfl 0 ((hE_4.er (hA_3.m m0) rfl).trans ((hE_3.er (hA_2.m m0) rfl).trans e_10)) (by decide) (htb (.fieldLink R_Tp 9 "WaterMen$Tape" "bytes" "[B") tw_181) (fun _ h9 => h9) rfl d_Tp_step_151 ?_
              refine hb_tv (.ref q_10) rfl ?_
              refine lv_aload_n hx hb d_Tp_step_154 rfl (lv_at hl 0 rfl) ?_
              refine tw_getI (x := (ti f_2 q0 3)) (D := (dC, dI)) (C := R_Tp) (T := F_Tp) (N := 6) (ci := 4) (kd := 10) (ct := ct) hx hb htb i_Tp hown hK hP (hA_4.m m0) rfl rfl 3 ((hE_4.ei (hA_3.m m0) rfl).trans ((hE_3.ei (hA_2.m m0) rfl).trans rfl)) (by decide) (htb (.fieldLink R_Tp 34 "WaterMen$Tape" "start" "I") tw_255) (fun _ h9 => h9) rfl d_Tp_step_155 ?_
              refine tw_aldxB (ct := ct) (x := x_11) hx hb hK hP (hE_4.m (hE_3.m m_10)) rfl ((fun (a_0 : Int32) (a_1 : Int32) (k_0 : ¬ (a_0 < 0)) (k_1 : ¬ (a_1 ≤ a_0)) (k_2 : ¬ (400 < a_1)) => (show vp_in (a_0) 400 from by have z0 : (0 : Int32).toInt = 0 := (by decide +kernel); have z1 : (400 : Int32).toInt = 400 := (by decide +kernel); have r0 := fb_rng (a_0); have r1 := fb_rng (a_1); have e0 := k_0; rw [Int32.lt_iff_toInt_lt, z0] at e0; have e1 := k_1; rw [Int32.le_iff_toInt_le] at e1; have e2 := k_2; rw [Int32.lt_iff_toInt_lt, z1] at e2; rw [vp_in_iff]; omega)) (ti f_2 q0 3) x_5 bf_4.1 c_6 b_5.2) ((hE_4.ei (hE_3.m m_10) rfl).trans ((hE_3.ei m_10 rfl).trans e_11)) d_Tp_step_158 ?_
              refine lv_bipush (v := 59) hx hb d_Tp_step_159 (by decide +kernel) ?_
              refine lv_icmp_ne (tgt := 168) hx hb d_Tp_step_161 (by decide) (fun _ => ?_) (fun h => absurd h (show ¬ (x_11 = 59) from by have e0 := c_36; rw [Int32.lt_iff_toInt_lt] at e0; have z0 : (59 : Int32).toInt = 59 := (by decide +kernel); have z1 : (122 : Int32).toInt = 122 := (by decide +kernel); rw [← Int32.toInt_inj]; omega))
              refine lv_iconst (v := 4) hx hb d_Tp_step_168 (by decide +kernel) ?_
              refine tw_puti (v := 4) (D := (dC, dI)) (C := R_Tp) (T := F_Tp) (N := 6) (ci := 4) (kd := 10) (ct := ct) (ty := .int) hx hb htb i_Tp t_Tp t_Tp_ok n_Tp hown hK hP hD hS hO_4 (hA_4.m m0) rfl rfl 2 (by decide) (htb (.fieldLink R_Tp 37 "WaterMen$Tape" "sort" "I") tw_257) (fun _ h9 => h9) rfl (by decide +kernel) rfl rfl rfl (i32_full _) d_Tp_step_169 (fun f_5 H locs hP hD hS hO_5 hE_5 w_40 hF_5 => ?_)
              have hA_5 := hA_4.trans hE_5
              have hQ := hQ f_5 hF_5
              have hQ := hQ hO_5
              refine lv_aload_n hx hb d_Tp_step_172 rfl (lv_at hl 0 rfl) ?_
              refine lv_dup hx hb d_Tp_step_173 rfl ?_
              refine tw_getI (x := (ti f_2 q0 3)) (D := (dC, dI)) (C := R_Tp) (T := F_Tp) (N := 6) (ci := 4) (kd := 10) (ct := ct) hx hb htb i_Tp hown hK hP (hA_5.m m0) rfl rfl 4 ((hE_5.ei (hA_4.m m0) rfl).trans ((hE_4.ei (hA_3.m m0) rfl).trans w_13)) (by decide) (htb (.fieldLink R_Tp 24 "WaterMen$Tape" "behind" "I") tw_254) (fun _ h9 => h9) rfl d_Tp_step_174 ?_
              refine lv_iconst (v := 1) hx hb d_Tp_step_177 (by decide +kernel) ?_
              refine lv_iadd hx hb d_Tp_step_178 ?_
              refine tw_puti (v := ((ti f_2 q0 3) + 1)) (D := (dC, dI)) (C := R_Tp) (T := F_Tp) (N := 6) (ci := 4) (kd := 10) (ct := ct) (ty := .int) hx hb htb i_Tp t_Tp t_Tp_ok n_Tp hown hK hP hD hS hO_5 (hA_5.m m0) rfl rfl 4 (by decide) (htb (.fieldLink R_Tp 24 "WaterMen$Tape" "behind" "I") tw_254) (fun _ h9 => h9) rfl (by decide +kernel) rfl rfl rfl ⟨(show ¬ (((ti f_2 q0 3) + 1) < 0) from ((fun (a_0 : Int32) (a_1 : Int32) (k_0 : ¬ (a_0 < 0)) (k_1 : ¬ (a_1 ≤ a_0)) => (show ¬ ((a_0 + 1) < 0) from by have z0 : (0 : Int32).toInt = 0 := (by decide +kernel); have z1 : (1 : Int32).toInt = 1 := (by decide +kernel); have r0 := fb_rng (a_0); have r1 := fb_rng (a_1); have e0 := k_0; rw [Int32.lt_iff_toInt_lt, z0] at e0; have e1 := k_1; rw [Int32.le_iff_toInt_le] at e1; obtain ⟨n_0, hn_0, s0⟩ := nd_add (x := a_0) (y := (1 : Int32)) (by (try rw [z1]); omega) (by (try rw [z1]); omega); rw [z1] at s0; rw [hn_0, Int32.lt_iff_toInt_lt, z0]; omega)) (ti f_2 q0 3) x_5 bf_4.1 c_6)), (show ¬ (400 < ((ti f_2 q0 3) + 1)) from ((fun (a_0 : Int32) (a_1 : Int32) (k_0 : ¬ (a_1 ≤ a_0)) (k_1 : ¬ (400 < a_1)) => (show ¬ (400 < (a_0 + 1)) from by have z0 : (1 : Int32).toInt = 1 := (by decide +kernel); have z1 : (400 : Int32).toInt = 400 := (by decide +kernel); have r0 := fb_rng (a_0); have r1 := fb_rng (a_1); have e0 := k_0; rw [Int32.le_iff_toInt_le] at e0; have e1 := k_1; rw [Int32.lt_iff_toInt_lt, z1] at e1; obtain ⟨n_0, hn_0, s0⟩ := nd_add (x := a_0) (y := (1 : Int32)) (by (try rw [z0]); omega) (by (try rw [z0]); omega); rw [z0] at s0; rw [hn_0, Int32.lt_iff_toInt_lt, z1]; omega)) (ti f_2 q0 3) x_5 c_6 b_5.2))⟩ d_Tp_step_179 (fun f_6 H locs hP hD hS hO_6 hE_6 w_41 hF_6 => ?_)
              have hA_6 := hA_5.trans hE_6
              have hQ := hQ f_6 hF_6
              have hQ := hQ hO_6
              refine W.widen (k := 0) (n := 0) (Nat.le_of_ble_eq_true rfl) (Nat.le_of_ble_eq_true rfl) ?_
              exact W.vret hx hb hr (fun t ht hW => ⟨⟨(L_2, f_6), rfl, ⟨hO_6, hA_6.mono (by decide +kernel), trivial, hQ⟩, by rw [ht]; exact hP, va_K.moved hW.alike hK, by rw [hAe]; exact hD⟩, by rw [hAe]; exact hS.F ht⟩) (by rw [hAe]; exact hS.2.2) d_Tp_step_182
            · have hQ := hQ.2 c_36
              refine hb_ti 1 (by unfold f_Tp_isLetter; rw [if_neg c_17, if_neg c_36]; first | done | rfl) ?_
              refine lv_if_eq (tgt := 105) hx hb d_Tp_step_90 (by decide) (fun h => absurd h (by decide +kernel)) (fun _ => ?_)
              refine lv_aload_n hx hb d_Tp_step_93 rfl (lv_at hl 0 rfl) ?_
              refine lv_iconst (v := 1) hx hb d_Tp_step_94 (by decide +kernel) ?_
              refine tw_puti (v := 1) (D := (dC, dI)) (C := R_Tp) (T := F_Tp) (N := 6) (ci := 4) (kd := 10) (ct := ct) (ty := .int) hx hb htb i_Tp t_Tp t_Tp_ok n_Tp hown hK hP hD hS hO_4 (hA_4.m m0) rfl rfl 2 (by decide) (htb (.fieldLink R_Tp 37 "WaterMen$Tape" "sort" "I") tw_257) (fun _ h9 => h9) rfl (by decide +kernel) rfl rfl rfl (i32_full _) d_Tp_step_95 (fun f_5 H locs hP hD hS hO_5 hE_5 w_42 hF_5 => ?_)
              have hA_5 := hA_4.trans hE_5
              have hQ := hQ f_5 hF_5
              have hQ := hQ hO_5
              refine lv_aload_n hx hb d_Tp_step_98 rfl (lv_at hl 0 rfl) ?_
              have hFc := hb_free hD hS hA
              refine va_callv (va_runV (As := []) (rest := []) ⟨hx, hb, hml, hown, htb⟩ (c_Tp_passLetters_w l dC dI ct L_2 f_5 hO_5 q0 (hA_5.m m0) _ _ hQ) (cwV 0 htb (gd_V tw_269 tw_270 tw_271 tw_177 tw_268) rfl rfl rfl (by decide +kernel) ⟨Nat.le_of_ble_eq_true rfl, Nat.le_of_ble_eq_true rfl⟩) ⟨pc_blind, tw_recv hK hP (hA_5.m m0) rfl rfl, pc_pre hP hK hD hN⟩ rfl rfl hl.1 rfl (lv_room (Nat.le_of_ble_eq_true rfl)) d_Tp_step_99 ⟨Nat.le_of_ble_eq_true rfl, Nat.le_of_ble_eq_true rfl⟩) hS (fun q _ h => hFc q h) hFc (fun u t H locs ht hvm er hB hz1 hk1 hS => ?_)
              obtain ⟨L_6, f_6⟩ := u
              obtain ⟨hO_6, hE_6, er, hQ⟩ := er
              obtain ⟨hP, hK1, hD1⟩ := hB
              rw [ht] at hP
              have hP : va_P (dC, dI) vwCl (TW ct L_6 f_6) H := hP
              have hD : va_D A (TW ct L_6 f_6) := hD1.weaken (fun _ q _ h => hFc q.1 h)
              have hO_6 : Ok L_6 f_6 := hO_6
              have hE_6 : Ext W_Tp_passLetters_w L_2 f_5 L_6 f_6 := hE_6
              clear hK1 hD1 ht hvm hz1 hk1
              have hA_6 := hA_5.trans hE_6
              have hQ := hQ hO_6 hE_6
              clear er
              refine lv_goto (tgt := 182) hx hb d_Tp_step_102 (by decide) ?_
              refine W.widen (k := 0) (n := 0) (Nat.le_of_ble_eq_true rfl) (Nat.le_of_ble_eq_true rfl) ?_
              exact W.vret hx hb hr (fun t ht hW => ⟨⟨(L_6, f_6), rfl, ⟨hO_6, hA_6.mono (by decide +kernel), trivial, hQ⟩, by rw [ht]; exact hP, va_K.moved hW.alike hK, by rw [hAe]; exact hD⟩, by rw [hAe]; exact hS.F ht⟩) (by rw [hAe]; exact hS.2.2) d_Tp_step_182
        · have hQ := hQ.1 c_12
          refine lv_aload_n hx hb d_Tp_step_33 rfl (lv_at hl 0 rfl) ?_
          refine lv_dup hx hb d_Tp_step_34 rfl ?_
          refine tw_getI (x := (ti f_2 q0 3)) (D := (dC, dI)) (C := R_Tp) (T := F_Tp) (N := 6) (ci := 4) (kd := 10) (ct := ct) hx hb htb i_Tp hown hK hP (hA_2.m m0) rfl rfl 3 rfl (by decide) (htb (.fieldLink R_Tp 34 "WaterMen$Tape" "start" "I") tw_255) (fun _ h9 => h9) rfl d_Tp_step_35 ?_
          refine lv_iconst (v := 1) hx hb d_Tp_step_38 (by decide +kernel) ?_
          refine lv_iadd hx hb d_Tp_step_39 ?_
          refine tw_puti (v := ((ti f_2 q0 3) + 1)) (D := (dC, dI)) (C := R_Tp) (T := F_Tp) (N := 6) (ci := 4) (kd := 10) (ct := ct) (ty := .int) hx hb htb i_Tp t_Tp t_Tp_ok n_Tp hown hK hP hD hS hO_2 (hA_2.m m0) rfl rfl 3 (by decide) (htb (.fieldLink R_Tp 34 "WaterMen$Tape" "start" "I") tw_255) (fun _ h9 => h9) rfl (by decide +kernel) rfl rfl rfl ⟨(show ¬ (((ti f_2 q0 3) + 1) < 0) from ((fun (a_0 : Int32) (a_1 : Int32) (k_0 : ¬ (a_0 < 0)) (k_1 : ¬ (a_1 ≤ a_0)) => (show ¬ ((a_0 + 1) < 0) from by have z0 : (0 : Int32).toInt = 0 := (by decide +kernel); have z1 : (1 : Int32).toInt = 1 := (by decide +kernel); have r0 := fb_rng (a_0); have r1 := fb_rng (a_1); have e0 := k_0; rw [Int32.lt_iff_toInt_lt, z0] at e0; have e1 := k_1; rw [Int32.le_iff_toInt_le] at e1; obtain ⟨n_0, hn_0, s0⟩ := nd_add (x := a_0) (y := (1 : Int32)) (by (try rw [z1]); omega) (by (try rw [z1]); omega); rw [z1] at s0; rw [hn_0, Int32.lt_iff_toInt_lt, z0]; omega)) (ti f_2 q0 3) x_5 bf_4.1 c_6)), (show ¬ (400 < ((ti f_2 q0 3) + 1)) from ((fun (a_0 : Int32) (a_1 : Int32) (k_0 : ¬ (a_1 ≤ a_0)) (k_1 : ¬ (400 < a_1)) => (show ¬ (400 < (a_0 + 1)) from by have z0 : (1 : Int32).toInt = 1 := (by decide +kernel); have z1 : (400 : Int32).toInt = 400 := (by decide +kernel); have r0 := fb_rng (a_0); have r1 := fb_rng (a_1); have e0 := k_0; rw [Int32.le_iff_toInt_le] at e0; have e1 := k_1; rw [Int32.lt_iff_toInt_lt, z1] at e1; obtain ⟨n_0, hn_0, s0⟩ := nd_add (x := a_0) (y := (1 : Int32)) (by (try rw [z0]); omega) (by (try rw [z0]); omega); rw [z0] at s0; rw [hn_0, Int32.lt_iff_toInt_lt, z1]; omega)) (ti f_2 q0 3) x_5 c_6 b_5.2))⟩ d_Tp_step_40 (fun f_3 H locs hP hD hS hO_3 hE_3 w_44 hF_3 => ?_)
          have hA_3 := hA_2.trans hE_3
          have hQ := hQ f_3 hF_3
          have hQ := hQ hO_3
          refine lv_goto (tgt := 8) hx hb d_Tp_step_43 (by decide) ?_
          exact ih_3 (n_3 - 1) (ms_1 ((fun (a_0 : Int32) (a_1 : Int32) (k_0 : ¬ (a_1 ≤ a_0)) (k_1 : ¬ (400 < a_1)) => (show 1 ≤ (400 : Int32).toInt - a_0.toInt ∧ (400 : Int32).toInt - (a_0 + (1 : Int32)).toInt + 1 ≤ (400 : Int32).toInt - a_0.toInt from by have z0 : (1 : Int32).toInt = 1 := (by decide +kernel); have z1 : (400 : Int32).toInt = 400 := (by decide +kernel); have r0 := fb_rng (a_0); have r1 := fb_rng (a_1); have e0 := k_0; rw [Int32.le_iff_toInt_le] at e0; have e1 := k_1; rw [Int32.lt_iff_toInt_lt, z1] at e1; obtain ⟨n_0, hn_0, s0⟩ := nd_add (x := a_0) (y := (1 : Int32)) (by (try rw [z0]); omega) (by (try rw [z0]); omega); rw [z0] at s0; rw [hn_0]; (try rw [z1]); omega)) (ti f_2 q0 3) x_5 c_6 b_5.2) hm_3) _ _ _ _ _ hP hD hS hO_3 ((hE_2.trans hE_3).mono (by decide +kernel)) (by rw [show ti f_3 q0 3 = ((ti f_2 q0 3) + 1) from w_44]; exact ms_2 ((fun (a_0 : Int32) (a_1 : Int32) (k_0 : ¬ (a_1 ≤ a_0)) (k_1 : ¬ (400 < a_1)) => (show 1 ≤ (400 : Int32).toInt - a_0.toInt ∧ (400 : Int32).toInt - (a_0 + (1 : Int32)).toInt + 1 ≤ (400 : Int32).toInt - a_0.toInt from by have z0 : (1 : Int32).toInt = 1 := (by decide +kernel); have z1 : (400 : Int32).toInt = 400 := (by decide +kernel); have r0 := fb_rng (a_0); have r1 := fb_rng (a_1); have e0 := k_0; rw [Int32.le_iff_toInt_le] at e0; have e1 := k_1; rw [Int32.lt_iff_toInt_lt, z1] at e1; obtain ⟨n_0, hn_0, s0⟩ := nd_add (x := a_0) (y := (1 : Int32)) (by (try rw [z0]); omega) (by (try rw [z0]); omega); rw [z0] at s0; rw [hn_0]; (try rw [z1]); omega)) (ti f_2 q0 3) x_5 c_6 b_5.2) hm_3) (by rw [← hrec_3, wpR_Tp_step_w_8_3_pos (ms_3 ((fun (a_0 : Int32) (a_1 : Int32) (k_0 : ¬ (a_1 ≤ a_0)) (k_1 : ¬ (400 < a_1)) => (show 1 ≤ (400 : Int32).toInt - a_0.toInt ∧ (400 : Int32).toInt - (a_0 + (1 : Int32)).toInt + 1 ≤ (400 : Int32).toInt - a_0.toInt from by have z0 : (1 : Int32).toInt = 1 := (by decide +kernel); have z1 : (400 : Int32).toInt = 400 := (by decide +kernel); have r0 := fb_rng (a_0); have r1 := fb_rng (a_1); have e0 := k_0; rw [Int32.le_iff_toInt_le] at e0; have e1 := k_1; rw [Int32.lt_iff_toInt_lt, z1] at e1; obtain ⟨n_0, hn_0, s0⟩ := nd_add (x := a_0) (y := (1 : Int32)) (by (try rw [z0]); omega) (by (try rw [z0]); omega); rw [z0] at s0; rw [hn_0]; (try rw [z1]); omega)) (ti f_2 q0 3) x_5 c_6 b_5.2) hm_3)] at hQ; exact hQ) (lv_sub hl [0] rfl)
  exact cut_3 ((400 : Int32).toInt - (x_1 : Int32).toInt).toNat _ _ _ _ _ hP hD hS hO_1 Ext.rf (by rw [show ti f_1 q0 3 = x_1 from w_2]; exact ms_e _ _) hQ (lv_sub hl [0] rfl)
