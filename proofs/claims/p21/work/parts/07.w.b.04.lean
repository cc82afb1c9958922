def WL_WM_minutes_w_44_9 : List (Nat × Nat) := [(12, 0), (12, 1), (12, 3), (13, 1000), (20, 4), (26, 2)]
def W_WM_minutes_w : List (Nat × Nat) := [(0, 10), (12, 0), (12, 1), (12, 3), (13, 1000), (20, 4), (26, 2)]
def wpB_WM_minutes_w_44_9 (L : List Nat) (f : TF) (q0 : Nat) (p_0 : Int32) (x_3 : Int32) (y_5 : Int32) (r_6 : Int32) (Q : Int32 → List Nat → TF → Prop) (rec_9 : Int32 → List Nat → TF → Prop) (v3_9 : Int32) (L_1 : List Nat) (f_1 : TF) : Prop := Ok L_1 f_1 → Ext WL_WM_minutes_w_44_9 L f L_1 f_1 → ((y_5 < v3_9 → ∀ f_2 : TF, f_2 = sI f_1 q0 10 (x_3 + p_0) → Ok L_1 f_2 → Q (x_3 + p_0) L_1 f_2) ∧ (¬ (y_5 < v3_9) → ∀ (L_2 : List Nat) (f_2 : TF), Ok L_2 f_2 → Ext W_WM_partPot_t L_1 f_1 L_2 f_2 → ∀ q_13 : Nat, tr f_2 q0 6 = some q_13 → ∀ (L_3 : List Nat) (f_3 : TF), Ok L_3 f_3 → Ext W_Bx_payPensions_t L_2 f_2 L_3 f_3 → rec_9 (v3_9 + 1) L_3 f_3))
def wpL_WM_minutes_w_44_9 (L : List Nat) (f : TF) (q0 : Nat) (p_0 : Int32) (x_3 : Int32) (y_5 : Int32) (r_6 : Int32) (Q : Int32 → List Nat → TF → Prop) : Nat → Int32 → List Nat → TF → Prop
  | 0 => fun v3_9 L_1 f_1 => wpB_WM_minutes_w_44_9 L f q0 p_0 x_3 y_5 r_6 Q (fun _ _ _ => True) v3_9 L_1 f_1
  | n + 1 => fun v3_9 L_1 f_1 => wpB_WM_minutes_w_44_9 L f q0 p_0 x_3 y_5 r_6 Q (wpL_WM_minutes_w_44_9 L f q0 p_0 x_3 y_5 r_6 Q n) v3_9 L_1 f_1
def wpR_WM_minutes_w_44_9 (L : List Nat) (f : TF) (q0 : Nat) (p_0 : Int32) (x_3 : Int32) (y_5 : Int32) (r_6 : Int32) (Q : Int32 → List Nat → TF → Prop) : Nat → Int32 → List Nat → TF → Prop
  | 0 => fun _ _ _ => True
  | n + 1 => wpL_WM_minutes_w_44_9 L f q0 p_0 x_3 y_5 r_6 Q n
theorem wpL_WM_minutes_w_44_9_eq {L : List Nat} {f : TF} {q0 : Nat} {p_0 : Int32} {x_3 : Int32} {y_5 : Int32} {r_6 : Int32} {Q : Int32 → List Nat → TF → Prop} {n : Nat} : wpL_WM_minutes_w_44_9 L f q0 p_0 x_3 y_5 r_6 Q n = wpB_WM_minutes_w_44_9 L f q0 p_0 x_3 y_5 r_6 Q (wpR_WM_minutes_w_44_9 L f q0 p_0 x_3 y_5 r_6 Q n) := by cases n <;> rfl
theorem wpR_WM_minutes_w_44_9_pos {L : List Nat} {f : TF} {q0 : Nat} {p_0 : Int32} {x_3 : Int32} {y_5 : Int32} {r_6 : Int32} {Q : Int32 → List Nat → TF → Prop} {n : Nat} (h : 0 < n) : wpR_WM_minutes_w_44_9 L f q0 p_0 x_3 y_5 r_6 Q n = wpL_WM_minutes_w_44_9 L f q0 p_0 x_3 y_5 r_6 Q (n - 1) := by
  cases n with
  | zero => omega
  | succ n => rfl
def wp_WM_minutes_w (L : List Nat) (f : TF) (q0 : Nat) (p_0 : Int32) (Q : Int32 → List Nat → TF → Prop) : Prop := ((p_0 < 1 → Q (-1) L f) ∧ (¬ (p_0 < 1) → ((1440 < p_0 → Q (-1) L f) ∧ (¬ (1440 < p_0) → ∀ x_3 : Int32, ti f q0 10 = x_3 → ((p_0 ≤ (359999 - x_3) → ∀ y_5 : Int32, y_5 = (x_3 + p_0) / 720 → wp_WM_today_w L f q0 (fun (r_6 : Int32) => (wpL_WM_minutes_w_44_9 L f q0 p_0 x_3 y_5 r_6 Q (((500 : Int32).toInt - ((r_6 + 1) : Int32).toInt).toNat) (r_6 + 1) L f))) ∧ (¬ (p_0 ≤ (359999 - x_3)) → Q (-1) L f))))))
set_option maxHeartbeats 4000000 in
set_option maxRecDepth 100000 in
theorem c_WM_minutes_w (l : Launch) (dC : Nat → ClassId) (dI : Nat → Nat → Nat) (ct : Nat → ClassId) (L : List Nat) (f : TF) (hO_0 : Ok L f) (q0 : Nat) (m0 : q0 ∈ L ∧ tk f q0 = 0) (sz : Nat) (p_0 : Int32)   (Q : Int32 → List Nat → TF → Prop) (hQ : wp_WM_minutes_w L f q0 p_0 Q) : Met l y_WM_minutes (.code y_WM_minutes b_WM_minutes 4 (some .int) :: TB) ({ frames := 3, cells := 0, slots := 0, locals := 67 }) (va_Pc [.ref q0, .int p_0] (PC dC dI (TW ct L f) (TT ct) sz)) (va_Qi (fun r (u : TSt) => Ok u.1 u.2 ∧ Ext W_WM_minutes_w L f u.1 u.2 ∧ (True) ∧ Q r u.1 u.2) (fun (u : TSt) t => va_P (dC, dI) vwCl (TW ct u.1 u.2) t.heap ∧ va_K (dC, dI) vwCl (TT ct) t ∧ va_D (va_A (TW ct L f) sz) (TW ct u.1 u.2)) (va_A (TW ct L f) sz)) 0 0 (va_A (TW ct L f) sz) := by
  refine Met.ofW (cc := b_WM_minutes) (maxL := 4) (ret := (some .int)) (by decide) rfl ?_
  intro p e s m args below meth c s₁ B hml hv
  obtain ⟨rfl, hsz, hP, hK, hD0, hN⟩ := hv
  have hx := B.exec
  have hb := B.bytes
  have hr := B.returns
  have hts := atoms_spec (ws := (.code y_WM_minutes b_WM_minutes 4 (some .int) :: TB)) B.pre
  have htb := fun w (h : w ∈ TB) => hts w (List.mem_cons_of_mem _ h)
  have hown : s.vm.findClass R_WM = some m.cls := findClass_of_methodNamed B.named
  have hlocks := B.notSynchronized
  have hl := lv_entry ([.ref q0, .int p_0]) (n := 4) (Nat.le_of_ble_eq_true rfl)
  rw [lg_entry_eq]
  generalize (lg_sl ([.ref q0, .int p_0]) ++ List.replicate (4 - (lg_sl ([.ref q0, .int p_0])).length) Slot.unset).toArray = ls at hl ⊢
  have hl : lv_has ls 4 [(0, .ref q0), (1, .int p_0)] := hl
  subst hsz
  have hD := hD0.self (sz := s.heap.size)
  obtain ⟨A, hAe⟩ : ∃ A, va_A (TW ct L f) s.heap.size = A := ⟨_, rfl⟩
  rw [hAe] at hD
  have hA : ∀ q : Nat, s.heap.size ≤ q → A q := fun q h => by rw [← hAe]; exact Or.inr h
  have hS : va_S A s.heap s.heap [] := va_S.rf
  have hA_0 : Ext [] L f L f := Ext.rf
  suffices hGo : ∀ (H : Heap) (locs : List Loc), va_P (dC, dI) vwCl (TW ct L f) H → va_S A s.heap H locs → W p l e (headSpec (.code y_WM_minutes b_WM_minutes 4 (some .int) :: TB) ({ frames := 3, cells := 0, slots := 0, locals := 67 })).room s m [.ref q0, .int p_0].toArray below meth c H locs 0 0 (MQ below (va_Qi (fun r (u : TSt) => Ok u.1 u.2 ∧ Ext W_WM_minutes_w L f u.1 u.2 ∧ (True) ∧ Q r u.1 u.2) (fun (u : TSt) t => va_P (dC, dI) vwCl (TW ct u.1 u.2) t.heap ∧ va_K (dC, dI) vwCl (TT ct) t ∧ va_D (va_A (TW ct L f) s.heap.size) (TW ct u.1 u.2)) (va_A (TW ct L f) s.heap.size)) [.ref q0, .int p_0].toArray s 0 0 (va_A (TW ct L f) s.heap.size)) (F0 m 0 ls []) from hGo _ _ hP hS
  clear hP hS
  intro H locs hP hS
  unfold wp_WM_minutes_w at hQ
  refine lv_iload_n hx hb d_WM_minutes_0 rfl (lv_at hl 1 rfl) ?_
  refine lv_iconst (v := 1) hx hb d_WM_minutes_1 (by decide +kernel) ?_
  refine lv_icmp_lt (tgt := 24) hx hb d_WM_minutes_2 (by decide) (fun c_1 => ?_) (fun c_1 => ?_)
  · have hQ := hQ.1 c_1
    refine lv_iconst (v := (-1)) hx hb d_WM_minutes_24 (by decide +kernel) ?_
    refine W.widen (k := 0) (n := 0) (Nat.le_of_ble_eq_true rfl) (Nat.le_of_ble_eq_true rfl) ?_
    exact W.iret (v := (-1)) hx hb hr (fun t ht hW => ⟨⟨(-1), (L, f), rfl, ⟨hO_0, hA_0.mono (by decide +kernel), trivial, hQ⟩, by rw [ht]; exact hP, va_K.moved hW.alike hK, by rw [hAe]; exact hD⟩, by rw [hAe]; exact hS.F ht⟩) (by rw [hAe]; exact hS.2.2) d_WM_minutes_25
  · have hQ := hQ.2 c_1
    refine lv_iload_n hx hb d_WM_minutes_5 rfl (lv_at hl 1 rfl) ?_
    refine lv_sipush (v := 1440) hx hb d_WM_minutes_6 (by decide +kernel) ?_
    refine lv_icmp_gt (tgt := 24) hx hb d_WM_minutes_9 (by decide) (fun c_2 => ?_) (fun c_2 => ?_)
    · have hQ := hQ.1 c_2
      refine lv_iconst (v := (-1)) hx hb d_WM_minutes_24 (by decide +kernel) ?_
      refine W.widen (k := 0) (n := 0) (Nat.le_of_ble_eq_true rfl) (Nat.le_of_ble_eq_true rfl) ?_
      exact W.iret (v := (-1)) hx hb hr (fun t ht hW => ⟨⟨(-1), (L, f), rfl, ⟨hO_0, hA_0.mono (by decide +kernel), trivial, hQ⟩, by rw [ht]; exact hP, va_K.moved hW.alike hK, by rw [hAe]; exact hD⟩, by rw [hAe]; exact hS.F ht⟩) (by rw [hAe]; exact hS.2.2) d_WM_minutes_25
    · have hQ := hQ.2 c_2
      refine lv_iload_n hx hb d_WM_minutes_12 rfl (lv_at hl 1 rfl) ?_
      refine lv_ldcw (v := 359999) hx hb hown (htb (.constant R_WM 270 359999) tw_373) d_WM_minutes_13 ?_
      refine lv_aload_n hx hb d_WM_minutes_16 rfl (lv_at hl 0 rfl) ?_
      refine tw_geti (D := (dC, dI)) (C := R_WM) (T := F_WM) (N := 13) (ci := 0) (kd := 0) (ct := ct) hx hb htb i_WM hown hK hP hO_0 m0 rfl rfl 10 (by decide) (htb (.fieldLink R_WM 155 "WaterMen" "now" "I") tw_178) (fun _ h9 => h9) rfl d_WM_minutes_17 (fun x_3 e_3 b_3 => ?_)
      have hQ := hQ x_3 e_3
      refine lv_isub hx hb d_WM_minutes_20 ?_
      refine lv_icmp_le (tgt := 26) hx hb d_WM_minutes_21 (by decide) (fun c_4 => ?_) (fun c_4 => ?_)
      · have hQ := hQ.1 c_4
        refine lv_aload_n hx hb d_WM_minutes_26 rfl (lv_at hl 0 rfl) ?_
        refine tw_getI (x := x_3) (D := (dC, dI)) (C := R_WM) (T := F_WM) (N := 13) (ci := 0) (kd := 0) (ct := ct) hx hb htb i_WM hown hK hP m0 rfl rfl 10 e_3 (by decide) (htb (.fieldLink R_WM 155 "WaterMen" "now" "I") tw_178) (fun _ h9 => h9) rfl d_WM_minutes_27 ?_
        refine lv_iload_n hx hb d_WM_minutes_30 rfl (lv_at hl 1 rfl) ?_
        refine lv_iadd hx hb d_WM_minutes_31 ?_
        refine lv_sipush (v := 720) hx hb d_WM_minutes_32 (by decide +kernel) ?_
        refine lv_idiv hx hb d_WM_minutes_35 (by decide) ?_
        refine hb_divn (U := 359999) (Qm := 499) (c := 720) (C1 := 719) (K := 2147482927) (by decide +kernel) (by decide +kernel) (by decide +kernel) (show ¬ ((x_3 + p_0) < 0) from ((fun (a_0 : Int32) (a_1 : Int32) (k_0 : ¬ (a_0 < 1)) (k_1 : ¬ (a_1 < 0)) (k_2 : a_0 ≤ (359999 - a_1)) => (show ¬ ((a_1 + a_0) < 0) from by have z0 : (0 : Int32).toInt = 0 := (by decide +kernel); have z1 : (1 : Int32).toInt = 1 := (by decide +kernel); have z2 : (359999 : Int32).toInt = 359999 := (by decide +kernel); have r0 := fb_rng (a_0); have r1 := fb_rng (a_1); have e0 := k_0; rw [Int32.lt_iff_toInt_lt, z1] at e0; have e1 := k_1; rw [Int32.lt_iff_toInt_lt, z0] at e1; obtain ⟨n_0, hn_0, s0⟩ := nd_sub (x := (359999 : Int32)) (y := (a_1)) (by (try rw [z2]); omega) (by (try rw [z2]); omega); rw [z2] at s0; have e2 := k_2; rw [hn_0, Int32.le_iff_toInt_le] at e2; obtain ⟨n_1, hn_1, s1⟩ := nd_add (x := (a_1)) (y := (a_0)) (by omega) (by omega); rw [hn_1, Int32.lt_iff_toInt_lt, z0]; omega)) p_0 x_3 c_1 b_3.1 c_4)) (show ¬ (2147482927 < (x_3 + p_0)) from ((fun (a_0 : Int32) (a_1 : Int32) (k_0 : ¬ (a_1 < 0)) (k_1 : a_0 ≤ (359999 - a_1)) => (show ¬ (2147482927 < (a_1 + a_0)) from by have z0 : (0 : Int32).toInt = 0 := (by decide +kernel); have z1 : (359999 : Int32).toInt = 359999 := (by decide +kernel); have z2 : (2147482927 : Int32).toInt = 2147482927 := (by decide +kernel); have r0 := fb_rng (a_0); have r1 := fb_rng (a_1); have e0 := k_0; rw [Int32.lt_iff_toInt_lt, z0] at e0; obtain ⟨n_0, hn_0, s0⟩ := nd_sub (x := (359999 : Int32)) (y := (a_1)) (by (try rw [z1]); omega) (by (try rw [z1]); omega); rw [z1] at s0; have e1 := k_1; rw [hn_0, Int32.le_iff_toInt_le] at e1; obtain ⟨n_1, hn_1, s1⟩ := nd_add (x := (a_1)) (y := (a_0)) (by omega) (by omega); rw [hn_1, Int32.lt_iff_toInt_lt, z2]; omega)) p_0 x_3 b_3.1 c_4)) (show ¬ (359999 < (x_3 + p_0)) from ((fun (a_0 : Int32) (a_1 : Int32) (k_0 : ¬ (a_1 < 0)) (k_1 : a_0 ≤ (359999 - a_1)) => (show ¬ (359999 < (a_1 + a_0)) from by have z0 : (0 : Int32).toInt = 0 := (by decide +kernel); have z1 : (359999 : Int32).toInt = 359999 := (by decide +kernel); have r0 := fb_rng (a_0); have r1 := fb_rng (a_1); have e0 := k_0; rw [Int32.lt_iff_toInt_lt, z0] at e0; obtain ⟨n_0, hn_0, s0⟩ := nd_sub (x := (359999 : Int32)) (y := (a_1)) (by (try rw [z1]); omega) (by (try rw [z1]); omega); rw [z1] at s0; have e1 := k_1; rw [hn_0, Int32.le_iff_toInt_le] at e1; obtain ⟨n_1, hn_1, s1⟩ := nd_add (x := (a_1)) (y := (a_0)) (by omega) (by omega); rw [hn_1, Int32.lt_iff_toInt_lt, z1]; omega)) p_0 x_3 b_3.1 c_4)) (by decide +kernel) (fun y_5 g1_5 g2_5 g3_5 g4_5 g5_5 g9_5 => ?_)
        have hQ := hQ y_5 g9_5
        refine lv_istore_n (lv' := [(2, .int y_5), (0, .ref q0), (1, .int p_0)]) hx hb d_WM_minutes_36 rfl hl (by decide) rfl (fun ls hl => ?_)
        refine lv_aload_n hx hb d_WM_minutes_37 rfl (lv_at hl 1 rfl) ?_
        refine vp_callSi (va_Run.run (va_runV (As := []) (rest := []) ⟨hx, hb, hml, hown, htb⟩ (c_WM_today_w l dC dI ct L f hO_0 q0 m0 _ hQ) (cwV 0 htb (gd_V tw_180 tw_181 tw_182 tw_25 tw_179) rfl rfl rfl (by decide +kernel) ⟨Nat.le_of_ble_eq_true rfl, Nat.le_of_ble_eq_true rfl⟩) ⟨pr_blind, tw_recv hK hP m0 rfl rfl, pr_pre hP hK hN⟩ rfl rfl hl.1 rfl (lv_room (Nat.le_of_ble_eq_true rfl)) d_WM_minutes_38 ⟨Nat.le_of_ble_eq_true rfl, Nat.le_of_ble_eq_true rfl⟩)) (fun r_6 er_6 => ?_)
        obtain ⟨er_6, hQ⟩ := er_6
        obtain ⟨po_7, po_8, -⟩ := er_6
        refine lv_iconst (v := 1) hx hb d_WM_minutes_41 (by decide +kernel) ?_
        refine lv_iadd hx hb d_WM_minutes_42 ?_
        refine lv_istore_n (lv' := [(3, .int (r_6 + 1)), (2, .int y_5), (0, .ref q0), (1, .int p_0)]) hx hb d_WM_minutes_43 rfl hl (by decide) rfl (fun ls hl => ?_)
        have cut_9 : ∀ (n_9 : Nat) (v3_9 : Int32) (L_1 : List Nat) (f_1 : TF) (H : Heap) (locs : List Loc) (ls : Array Slot), va_P (dC, dI) vwCl (TW ct L_1 f_1) H → va_D A (TW ct L_1 f_1) → va_S A s.heap H locs → Ok L_1 f_1 → Ext WL_WM_minutes_w_44_9 L f L_1 f_1 → ¬ (v3_9 < 1) → ¬ (500 < v3_9) → (500 : Int32).toInt - (v3_9 : Int32).toInt ≤ (n_9 : Int) → wpL_WM_minutes_w_44_9 L f q0 p_0 x_3 y_5 r_6 Q n_9 v3_9 L_1 f_1 → lv_has ls 4 [(0, .ref q0), (1, .int p_0), (2, .int y_5), (3, .int v3_9)] → W p l e (headSpec (.code y_WM_minutes b_WM_minutes 4 (some .int) :: TB) ({ frames := 3, cells := 0, slots := 0, locals := 67 })).room s m [.ref q0, .int p_0].toArray below meth c H locs 0 0 (MQ below (va_Qi (fun r (u : TSt) => Ok u.1 u.2 ∧ Ext W_WM_minutes_w L f u.1 u.2 ∧ (True) ∧ Q r u.1 u.2) (fun (u : TSt) t => va_P (dC, dI) vwCl (TW ct u.1 u.2) t.heap ∧ va_K (dC, dI) vwCl (TT ct) t ∧ va_D (va_A (TW ct L f) s.heap.size) (TW ct u.1 u.2)) (va_A (TW ct L f) s.heap.size)) [.ref q0, .int p_0].toArray s 0 0 (va_A (TW ct L f) s.heap.size)) (F0 m 44 ls []) := by
          intro n_9
          induction n_9 using Nat.strongRecOn with
          | _ n_9 ih_9 =>
            intro v3_9 L_1 f_1 H locs ls hP hD hS hO_1 hE_1 iv0_9 iv1_9 hm_9 hQ hl
            have hA_1 := hA_0.trans hE_1
            rw [wpL_WM_minutes_w_44_9_eq] at hQ
            obtain ⟨rec_9, hrec_9⟩ : ∃ g, wpR_WM_minutes_w_44_9 L f q0 p_0 x_3 y_5 r_6 Q n_9 = g := ⟨_, rfl⟩
            rw [hrec_9] at hQ
            unfold wpB_WM_minutes_w_44_9 at hQ
            have hQ := hQ hO_1 hE_1
            refine lv_iload_n hx hb d_WM_minutes_44 rfl (lv_at hl 3 rfl) ?_
            refine lv_iload_n hx hb d_WM_minutes_45 rfl (lv_at hl 2 rfl) ?_
            refine lv_icmp_gt (tgt := 70) hx hb d_WM_minutes_46 (by decide) (fun c_10 => ?_) (fun c_10 => ?_)
            · have hQ := hQ.1 c_10
              refine lv_aload_n hx hb d_WM_minutes_70 rfl (lv_at hl 0 rfl) ?_
              refine lv_dup hx hb d_WM_minutes_71 rfl ?_
              refine tw_getI (x := x_3) (D := (dC, dI)) (C := R_WM) (T := F_WM) (N := 13) (ci := 0) (kd := 0) (ct := ct) hx hb htb i_WM hown hK hP (hA_1.m m0) rfl rfl 10 ((hA_1.ei m0 rfl).trans e_3) (by decide) (htb (.fieldLink R_WM 155 "WaterMen" "now" "I") tw_178) (fun _ h9 => h9) rfl d_WM_minutes_72 ?_
              refine lv_iload_n hx hb d_WM_minutes_75 rfl (lv_at hl 1 rfl) ?_
              refine lv_iadd hx hb d_WM_minutes_76 ?_
              refine tw_puti (v := (x_3 + p_0)) (D := (dC, dI)) (C := R_WM) (T := F_WM) (N := 13) (ci := 0) (kd := 0) (ct := ct) (ty := .int) hx hb htb i_WM t_WM t_WM_ok n_WM hown hK hP hD hS hO_1 (hA_1.m m0) rfl rfl 10 (by decide) (htb (.fieldLink R_WM 155 "WaterMen" "now" "I") tw_178) (fun _ h9 => h9) rfl (by decide +kernel) rfl rfl rfl ⟨(show ¬ ((x_3 + p_0) < 0) from ((fun (a_0 : Int32) (a_1 : Int32) (a_2 : Int32) (a_3 : Int32) (k_0 : ¬ (a_2 < 0)) (k_1 : a_0 ≤ (359999 - a_2)) (k_2 : a_3 < a_1) (k_3 : ¬ (a_3 < 0)) (k_4 : ¬ (500 < a_1)) (k_5 : ¬ ((a_2 + a_0) < (a_3 * 720))) => (show ¬ ((a_2 + a_0) < 0) from by have z0 : (0 : Int32).toInt = 0 := (by decide +kernel); have z1 : (500 : Int32).toInt = 500 := (by decide +kernel); have z2 : (720 : Int32).toInt = 720 := (by decide +kernel); have z3 : (359999 : Int32).toInt = 359999 := (by decide +kernel); have r0 := fb_rng (a_0); have r1 := fb_rng (a_1); have r2 := fb_rng (a_2); have r3 := fb_rng (a_3); have e0 := k_0; rw [Int32.lt_iff_toInt_lt, z0] at e0; obtain ⟨n_0, hn_0, s0⟩ := nd_sub (x := (359999 : Int32)) (y := (a_2)) (by (try rw [z3]); omega) (by (try rw [z3]); omega); rw [z3] at s0; have e1 := k_1; rw [hn_0, Int32.le_iff_toInt_le] at e1; obtain ⟨n_1, hn_1, s1⟩ := nd_add (x := (a_2)) (y := (a_0)) (by omega) (by omega); have e2 := k_2; rw [Int32.lt_iff_toInt_lt] at e2; have e3 := k_3; rw [Int32.lt_iff_toInt_lt, z0] at e3; have e4 := k_4; rw [Int32.lt_iff_toInt_lt, z1] at e4; obtain ⟨n_2, hn_2, s2⟩ := nd_mul (x := (a_3)) (y := (720 : Int32)) (by (try rw [z2]); omega) (by (try rw [z2]); omega); rw [z2] at s2; have e5 := k_5; rw [hn_1, hn_2, Int32.lt_iff_toInt_lt] at e5; rw [hn_1, Int32.lt_iff_toInt_lt, z0]; omega)) p_0 v3_9 x_3 y_5 b_3.1 c_4 c_10 g1_5 iv1_9 g3_5)), (show ¬ (359999 < (x_3 + p_0)) from ((fun (a_0 : Int32) (a_1 : Int32) (k_0 : ¬ (a_1 < 0)) (k_1 : a_0 ≤ (359999 - a_1)) => (show ¬ (359999 < (a_1 + a_0)) from by have z0 : (0 : Int32).toInt = 0 := (by decide +kernel); have z1 : (359999 : Int32).toInt = 359999 := (by decide +kernel); have r0 := fb_rng (a_0); have r1 := fb_rng (a_1); have e0 := k_0; rw [Int32.lt_iff_toInt_lt, z0] at e0; obtain ⟨n_0, hn_0, s0⟩ := nd_sub (x := (359999 : Int32)) (y := (a_1)) (by (try rw [z1]); omega) (by (try rw [z1]); omega); rw [z1] at s0; have e1 := k_1; rw [hn_0, Int32.le_iff_toInt_le] at e1; obtain ⟨n_1, hn_1, s1⟩ := nd_add (x := (a_1)) (y := (a_0)) (by omega) (by omega); rw [hn_1, Int32.lt_iff_toInt_lt, z1]; omega)) p_0 x_3 b_3.1 c_4))⟩ d_WM_minutes_77 (fun f_2 H locs hP hD hS hO_2 hE_2 w_11 hF_2 => ?_)
              have hA_2 := hA_1.trans hE_2
              have hQ := hQ f_2 hF_2
              have hQ := hQ hO_2
              refine lv_aload_n hx hb d_WM_minutes_80 rfl (lv_at hl 0 rfl) ?_
              refine tw_getI (x := (x_3 + p_0)) (D := (dC, dI)) (C := R_WM) (T := F_WM) (N := 13) (ci := 0) (kd := 0) (ct := ct) hx hb htb i_WM hown hK hP (hA_2.m m0) rfl rfl 10 w_11 (by decide) (htb (.fieldLink R_WM 155 "WaterMen" "now" "I") tw_178) (fun _ h9 => h9) rfl d_WM_minutes_81 ?_
              refine W.widen (k := 0) (n := 0) (Nat.le_of_ble_eq_true rfl) (Nat.le_of_ble_eq_true rfl) ?_
              exact W.iret (v := (x_3 + p_0)) hx hb hr (fun t ht hW => ⟨⟨(x_3 + p_0), (L_1, f_2), rfl, ⟨hO_2, hA_2.mono (by decide +kernel), trivial, hQ⟩, by rw [ht]; exact hP, va_K.moved hW.alike hK, by rw [hAe]; exact hD⟩, by rw [hAe]; exact hS.F ht⟩) (by rw [hAe]; exact hS.2.2) d_WM_minutes_84
            · have hQ := hQ.2 c_10
              refine lv_aload_n hx hb d_WM_minutes_49 rfl (lv_at hl 0 rfl) ?_
              refine lv_iload_n hx hb d_WM_minutes_50 rfl (lv_at hl 3 rfl) ?_
              refine lv_iconst (v := 1) hx hb d_WM_minutes_51 (by decide +kernel) ?_
              refine lv_isub hx hb d_WM_minutes_52 ?_
              have hFc := hb_free hD hS hA
              refine va_callv (va_runV (As := [.int (v3_9 - 1)]) (rest := []) ⟨hx, hb, hml, hown, htb⟩ (c_WM_partPot_t l dC dI ct L_1 f_1 hO_1 q0 (hA_1.m m0) _ (v3_9 - 1)) (cwV 1 htb (gd_V tw_424 tw_425 tw_426 tw_25 tw_423) rfl rfl rfl (by decide +kernel) ⟨Nat.le_of_ble_eq_true rfl, Nat.le_of_ble_eq_true rfl⟩) ⟨pc_blind, tw_recv hK hP (hA_1.m m0) rfl rfl, pc_pre hP hK hD hN⟩ rfl rfl hl.1 rfl (lv_room (Nat.le_of_ble_eq_true rfl)) d_WM_minutes_53 ⟨Nat.le_of_ble_eq_true rfl, Nat.le_of_ble_eq_true rfl⟩) hS (fun q _ h => hFc q h) hFc (fun u t H locs ht hvm er hB hz1 hk1 hS => ?_)
              obtain ⟨L_2, f_2⟩ := u
              obtain ⟨hO_2, hE_2, er⟩ := er
              obtain ⟨hP, hK1, hD1⟩ := hB
              rw [ht] at hP
              have hP : va_P (dC, dI) vwCl (TW ct L_2 f_2) H := hP
              have hD : va_D A (TW ct L_2 f_2) := hD1.weaken (fun _ q _ h => hFc q.1 h)
              have hO_2 : Ok L_2 f_2 := hO_2
              have hE_2 : Ext W_WM_partPot_t L_1 f_1 L_2 f_2 := hE_2
              clear hK1 hD1 ht hvm hz1 hk1
              have hA_2 := hA_1.trans hE_2
              have hQ := hQ L_2 f_2 hO_2 hE_2
              clear er
              refine lv_aload_n hx hb d_WM_minutes_56 rfl (lv_at hl 0 rfl) ?_
              refine tw_getr (D := (dC, dI)) (C := R_WM) (T := F_WM) (N := 13) (ci := 0) (kd := 0) (ct := ct) hx hb htb i_WM hown hK hP hO_2 (hA_2.m m0) rfl rfl 6 (by decide) (htb (.fieldLink R_WM 50 "WaterMen" "box" "LWaterMen$Box;") tw_410) (fun _ h9 => h9) rfl d_WM_minutes_57 (fun q_13 e_13 m_13 => ?_)
              have hQ := hQ q_13 e_13
              refine lv_iload_n hx hb d_WM_minutes_60 rfl (lv_at hl 3 rfl) ?_
              have hFc := hb_free hD hS hA
              refine va_callv (va_runV (As := [.int v3_9]) (rest := []) ⟨hx, hb, hml, hown, htb⟩ (c_Bx_payPensions_t l dC dI ct L_2 f_2 hO_2 q_13 m_13 _ v3_9) (cwV 1 htb (gd_V tw_428 tw_429 tw_430 tw_104 tw_427) rfl rfl rfl (by decide +kernel) ⟨Nat.le_of_ble_eq_true rfl, Nat.le_of_ble_eq_true rfl⟩) ⟨pc_blind, tw_recv hK hP m_13 rfl rfl, pc_pre hP hK hD hN⟩ rfl rfl hl.1 rfl (lv_room (Nat.le_of_ble_eq_true rfl)) d_WM_minutes_61 ⟨Nat.le_of_ble_eq_true rfl, Nat.le_of_ble_eq_true rfl⟩) hS (fun q _ h => hFc q h) hFc (fun u t H locs ht hvm er hB hz1 hk1 hS => ?_)
              obtain ⟨L_3, f_3⟩ := u
              obtain ⟨hO_3, hE_3, er⟩ := er
              obtain ⟨hP, hK1, hD1⟩ := hB
              rw [ht] at hP
              have hP : va_P (dC, dI) vwCl (TW ct L_3 f_3) H := hP
              have hD : va_D A (TW ct L_3 f_3) := hD1.weaken (fun _ q _ h => hFc q.1 h)
              have hO_3 : Ok L_3 f_3 := hO_3
              have hE_3 : Ext W_Bx_payPensions_t L_2 f_2 L_3 f_3 := hE_3
              clear hK1 hD1 ht hvm hz1 hk1
              have hA_3 := hA_2.trans hE_3
              have hQ := hQ L_3 f_3 hO_3 hE_3
              clear er
              refine lv_iinc (v := (v3_9 + 1)) (lv' := [(3, .int (v3_9 + 1)), (0, .ref q0), (1, .int p_0), (2, .int y_5)]) hx hb d_WM_minutes_64 hl (k := 3) rfl rfl (by decide) rfl (fun ls hl => ?_)
              refine lv_goto (tgt := 44) hx hb d_WM_minutes_67 (by decide) ?_
              exact ih_9 (n_9 - 1) (ms_1 ((fun (a_0 : Int32) (a_1 : Int32) (k_0 : ¬ (a_1 < a_0)) (k_1 : ¬ (499 < a_1)) => (show 1 ≤ (500 : Int32).toInt - (a_0).toInt ∧ (500 : Int32).toInt - ((a_0) + (1 : Int32)).toInt + 1 ≤ (500 : Int32).toInt - (a_0).toInt from by have z0 : (1 : Int32).toInt = 1 := (by decide +kernel); have z1 : (499 : Int32).toInt = 499 := (by decide +kernel); have z2 : (500 : Int32).toInt = 500 := (by decide +kernel); have r0 := fb_rng (a_0); have r1 := fb_rng (a_1); have e0 := k_0; rw [Int32.lt_iff_toInt_lt] at e0; have e1 := k_1; rw [Int32.lt_iff_toInt_lt, z1] at e1; obtain ⟨n_0, hn_0, s0⟩ := nd_add (x := (a_0)) (y := (1 : Int32)) (by (try rw [z0]); omega) (by (try rw [z0]); omega); rw [z0] at s0; rw [hn_0]; (try rw [z2]); omega)) v3_9 y_5 c_10 g5_5) hm_9) (v3_9 + 1) _ _ _ _ _ hP hD hS hO_3 (((hE_1.trans hE_2).trans hE_3).mono (by decide +kernel)) (show ¬ ((v3_9 + 1) < 1) from by have e0 := iv0_9; rw [Int32.lt_iff_toInt_lt] at e0; have e1 := iv1_9; rw [Int32.lt_iff_toInt_lt] at e1; have z0 : (1 : Int32).toInt = 1 := (by decide +kernel); have z1 : (500 : Int32).toInt = 500 := (by decide +kernel); have ss := fb_addI (x := v3_9) (y := 1) (by omega) (by omega); rw [Int32.lt_iff_toInt_lt]; omega) (show ¬ (500 < (v3_9 + 1)) from ((fun (a_0 : Int32) (a_1 : Int32) (k_0 : ¬ (a_1 < a_0)) (k_1 : ¬ (499 < a_1)) => (show ¬ (500 < (a_0 + 1)) from by have z0 : (1 : Int32).toInt = 1 := (by decide +kernel); have z1 : (499 : Int32).toInt = 499 := (by decide +kernel); have z2 : (500 : Int32).toInt = 500 := (by decide +kernel); have r0 := fb_rng (a_0); have r1 := fb_rng (a_1); have e0 := k_0; rw [Int32.lt_iff_toInt_lt] at e0; have e1 := k_1; rw [Int32.lt_iff_toInt_lt, z1] at e1; obtain ⟨n_0, hn_0, s0⟩ := nd_add (x := (a_0)) (y := (1 : Int32)) (by (try rw [z0]); omega) (by (try rw [z0]); omega); rw [z0] at s0; rw [hn_0, Int32.lt_iff_toInt_lt, z2]; omega)) v3_9 y_5 c_10 g5_5)) (by exact ms_2 ((fun (a_0 : Int32) (a_1 : Int32) (k_0 : ¬ (a_1 < a_0)) (k_1 : ¬ (499 < a_1)) => (show 1 ≤ (500 : Int32).toInt - (a_0).toInt ∧ (500 : Int32).toInt - ((a_0) + (1 : Int32)).toInt + 1 ≤ (500 : Int32).toInt - (a_0).toInt from by have z0 : (1 : Int32).toInt = 1 := (by decide +kernel); have z1 : (499 : Int32).toInt = 499 := (by decide +kernel); have z2 : (500 : Int32).toInt = 500 := (by decide +kernel); have r0 := fb_rng (a_0); have r1 := fb_rng (a_1); have e0 := k_0; rw [Int32.lt_iff_toInt_lt] at e0; have e1 := k_1; rw [Int32.lt_iff_toInt_lt, z1] at e1; obtain ⟨n_0, hn_0, s0⟩ := nd_add (x := (a_0)) (y := (1 : Int32)) (by (try rw [z0]); omega) (by (try rw [z0]); omega); rw [z0] at s0; rw [hn_0]; (try rw [z2]); omega)) v3_9 y_5 c_10 g5_5) hm_9) (by rw [← hrec_9, wpR_WM_minutes_w_44_9_pos (ms_3 ((fun (a_0 : Int32) (a_1 : Int32) (k_0 : ¬ (a_1 < a_0)) (k_1 : ¬ (499 < a_1)) => (show 1 ≤ (500 : Int32).toInt - (a_0).toInt ∧ (500 : Int32).toInt - ((a_0) + (1 : Int32)).toInt + 1 ≤ (500 : Int32).toInt - (a_0).toInt from by have z0 : (1 : Int32).toInt = 1 := (by decide +kernel); have z1 : (499 : Int32).toInt = 499 := (by decide +kernel); have z2 : (500 : Int32).toInt = 500 := (by decide +kernel); have r0 := fb_rng (a_0); have r1 := fb_rng (a_1); have e0 := k_0; rw [Int32.lt_iff_toInt_lt] at e0; have e1 := k_1; rw [Int32.lt_iff_toInt_lt, z1] at e1; obtain ⟨n_0, hn_0, s0⟩ := nd_add (x := (a_0)) (y := (1 : Int32)) (by (try rw [z0]); omega) (by (try rw [z0]); omega); rw [z0] at s0; rw [hn_0]; (try rw [z2]); omega)) v3_9 y_5 c_10 g5_5) hm_9)] at hQ; exact hQ) (lv_sub hl [1, 2, 3, 0] rfl)
        exact cut_9 ((500 : Int32).toInt - ((r_6 + 1) : Int32).toInt).toNat (r_6 + 1) _ _ _ _ _ hP hD hS hO_0 Ext.rf (show ¬ ((r_6 + 1) < 1) from by have e0 := po_7; rw [Int32.lt_iff_toInt_lt] at e0; have e1 := po_8; rw [Int32.lt_iff_toInt_lt] at e1; have z0 : (0 : Int32).toInt = 0 := (by decide +kernel); have z1 : (1 : Int32).toInt = 1 := (by decide +kernel); have z2 : (499 : Int32).toInt = 499 := (by decide +kernel); have ss := fb_addI (x := r_6) (y := 1) (by omega) (by omega); rw [Int32.lt_iff_toInt_lt]; omega) (show ¬ (500 < (r_6 + 1)) from by have e0 := po_7; rw [Int32.lt_iff_toInt_lt] at e0; have e1 := po_8; rw [Int32.lt_iff_toInt_lt] at e1; have z0 : (0 : Int32).toInt = 0 := (by decide +kernel); have z1 : (1 : Int32).toInt = 1 := (by decide +kernel); have z2 : (499 : Int32).toInt = 499 := (by decide +kernel); have z3 : (500 : Int32).toInt = 500 := (by decide +kernel); have ss := fb_addI (x := r_6) (y := 1) (by omega) (by omega); rw [Int32.lt_iff_toInt_lt]; omega) (by exact ms_e _ _) hQ (lv_sub hl [2, 3, 1, 0] rfl)
      · have hQ := hQ.2 c_4
        refine lv_iconst (v := (-1)) hx hb d_WM_minutes_24 (by decide +kernel) ?_
        refine W.widen (k := 0) (n := 0) (Nat.le_of_ble_eq_true rfl) (Nat.le_of_ble_eq_true rfl) ?_
        exact W.iret (v := (-1)) hx hb hr (fun t ht hW => ⟨⟨(-1), (L, f), rfl, ⟨hO_0, hA_0.mono (by decide +kernel), trivial, hQ⟩, by rw [ht]; exact hP, va_K.moved hW.alike hK, by rw [hAe]; exact hD⟩, by rw [hAe]; exact hS.F ht⟩) (by rw [hAe]; exact hS.2.2) d_WM_minutes_25
def WL_Md_minutes_w_27_6 : List (Nat × Nat) := [(27, 1), (27, 56), (27, 57), (27, 58), (39, 1000), (40, 1000), (42, 1000), (48, 1000), (71, 1000), (74, 1000)]
def W_Md_minutes_w : List (Nat × Nat) := [(27, 1), (27, 56), (27, 57), (27, 58), (39, 1000), (40, 1000), (42, 1000), (48, 1000), (71, 1000), (74, 1000)]
def wpB_Md_minutes_w_27_6 (L : List Nat) (f : TF) (q0 : Nat) (p_0 : Int32) (Q : Int32 → List Nat → TF → Prop) (rec_6 : Int32 → List Nat → TF → Prop) (v2_6 : Int32) (L_1 : List Nat) (f_1 : TF) : Prop := Ok L_1 f_1 → Ext WL_Md_minutes_w_27_6 L f L_1 f_1 → ((p_0 ≤ v2_6 → Q (ti f_1 q0 1) L_1 f_1) ∧ (¬ (p_0 ≤ v2_6) → ∀ f_2 : TF, f_2 = sI f_1 q0 1 ((ti f_1 q0 1) + 1) → Ok L_1 f_2 → ∀ (L_3 : List Nat) (f_3 : TF), Ok L_3 f_3 → Ext W_Md_arrive_t L_1 f_2 L_3 f_3 → ∀ y_11 : Int32, y_11 = ((ti f_1 q0 1) + 1) - ((ti f_1 q0 1) + 1) / 720 * 720 → ((y_11 = 0 → wp_Md_today_w L_3 f_3 q0 (fun (r_13 : Int32) => (∀ y_18 : Int32, y_18 = (r_13 - 1) - (r_13 - 1) / 7 * 7 → ((y_18 = 0 → wp_Md_today_w L_3 f_3 q0 (fun (r_33 : Int32) => (∀ (L_4 : List Nat) (f_4 : TF), Ok L_4 f_4 → Ext W_Md_part_t L_3 f_3 L_4 f_4 → wp_Md_today_w L_4 f_4 q0 (fun (r_39 : Int32) => (∀ y_44 : Int32, y_44 = r_39 - r_39 / 100 * 100 → ((y_44 = 0 → wp_Md_today_w L_4 f_4 q0 (fun (r_46 : Int32) => (∀ (L_5 : List Nat) (f_5 : TF), Ok L_5 f_5 → Ext W_Md_pay_t L_4 f_4 L_5 f_5 → rec_6 (v2_6 + 1) L_5 f_5))) ∧ (¬ (y_44 = 0) → rec_6 (v2_6 + 1) L_4 f_4))))))) ∧ (¬ (y_18 = 0) → wp_Md_today_w L_3 f_3 q0 (fun (r_20 : Int32) => (∀ y_25 : Int32, y_25 = r_20 - r_20 / 100 * 100 → ((y_25 = 0 → wp_Md_today_w L_3 f_3 q0 (fun (r_27 : Int32) => (∀ (L_4 : List Nat) (f_4 : TF), Ok L_4 f_4 → Ext W_Md_pay_t L_3 f_3 L_4 f_4 → rec_6 (v2_6 + 1) L_4 f_4))) ∧ (¬ (y_25 = 0) → rec_6 (v2_6 + 1) L_3 f_3))))))))) ∧ (¬ (y_11 = 0) → rec_6 (v2_6 + 1) L_3 f_3))))
def wpL_Md_minutes_w_27_6 (L : List Nat) (f : TF) (q0 : Nat) (p_0 : Int32) (Q : Int32 → List Nat → TF → Prop) : Nat → Int32 → List Nat → TF → Prop
  | 0 => fun v2_6 L_1 f_1 => wpB_Md_minutes_w_27_6 L f q0 p_0 Q (fun _ _ _ => True) v2_6 L_1 f_1
  | n + 1 => fun v2_6 L_1 f_1 => wpB_Md_minutes_w_27_6 L f q0 p_0 Q (wpL_Md_minutes_w_27_6 L f q0 p_0 Q n) v2_6 L_1 f_1
def wpR_Md_minutes_w_27_6 (L : List Nat) (f : TF) (q0 : Nat) (p_0 : Int32) (Q : Int32 → List Nat → TF → Prop) : Nat → Int32 → List Nat → TF → Prop
  | 0 => fun _ _ _ => True
  | n + 1 => wpL_Md_minutes_w_27_6 L f q0 p_0 Q n
theorem wpL_Md_minutes_w_27_6_eq {L : List Nat} {f : TF} {q0 : Nat} {p_0 : Int32} {Q : Int32 → List Nat → TF → Prop} {n : Nat} : wpL_Md_minutes_w_27_6 L f q0 p_0 Q n = wpB_Md_minutes_w_27_6 L f q0 p_0 Q (wpR_Md_minutes_w_27_6 L f q0 p_0 Q n) := by cases n <;> rfl
theorem wpR_Md_minutes_w_27_6_pos {L : List Nat} {f : TF} {q0 : Nat} {p_0 : Int32} {Q : Int32 → List Nat → TF → Prop} {n : Nat} (h : 0 < n) : wpR_Md_minutes_w_27_6 L f q0 p_0 Q n = wpL_Md_minutes_w_27_6 L f q0 p_0 Q (n - 1) := by
  cases n with
  | zero => omega
  | succ n => rfl
def wp_Md_minutes_w (L : List Nat) (f : TF) (q0 : Nat) (p_0 : Int32) (Q : Int32 → List Nat → TF → Prop) : Prop := ((p_0 < 1 → Q (-1) L f) ∧ (¬ (p_0 < 1) → ((1440 < p_0 → Q (-1) L f) ∧ (¬ (1440 < p_0) → ((((ti f q0 1) + p_0) ≤ 359999 → wpL_Md_minutes_w_27_6 L f q0 p_0 Q (((1440 : Int32).toInt - (0 : Int32).toInt).toNat) (0 : Int32) L f) ∧ (¬ (((ti f q0 1) + p_0) ≤ 359999) → Q (-1) L f))))))
set_option maxHeartbeats 4000000 in
set_option maxRecDepth 100000 in
theorem c_Md_minutes_w (l : Launch) (dC : Nat → ClassId) (dI : Nat → Nat → Nat) (ct : Nat → ClassId) (L : List Nat) (f : TF) (hO_0 : Ok L f) (q0 : Nat) (m0 : q0 ∈ L ∧ tk f q0 = 27) (sz : Nat) (p_0 : Int32)   (Q : Int32 → List Nat → TF → Prop) (hQ : wp_Md_minutes_w L f q0 p_0 Q) : Met l y_Md_minutes (.code y_Md_minutes b_Md_minutes 3 (some .int) :: TB) ({ frames := 1, cells := 0, slots := 0, locals := 25 }) (va_Pc [.ref q0, .int p_0] (PC dC dI (TW ct L f) (TT ct) sz)) (va_Qi (fun r (u : TSt) => Ok u.1 u.2 ∧ Ext W_Md_minutes_w L f u.1 u.2 ∧ (True) ∧ Q r u.1 u.2) (fun (u : TSt) t => va_P (dC, dI) vwCl (TW ct u.1 u.2) t.heap ∧ va_K (dC, dI) vwCl (TT ct) t ∧ va_D (va_A (TW ct L f) sz) (TW ct u.1 u.2)) (va_A (TW ct L f) sz)) 0 0 (va_A (TW ct L f) sz) := by
  refine Met.ofW (cc := b_Md_minutes) (maxL := 3) (ret := (some .int)) (by decide) rfl ?_
  intro p e s m args below meth c s₁ B hml hv
  obtain ⟨rfl, hsz, hP, hK, hD0, hN⟩ := hv
  have hx := B.exec
  have hb := B.bytes
  have hr := B.returns
  have hts := atoms_spec (ws := (.code y_Md_minutes b_Md_minutes 3 (some .int) :: TB)) B.pre
  have htb := fun w (h : w ∈ TB) => hts w (List.mem_cons_of_mem _ h)
  have hown : s.vm.findClass R_Md = some m.cls := findClass_of_methodNamed B.named
  have hlocks := B.notSynchronized
  have hl := lv_entry ([.ref q0, .int p_0]) (n := 3) (Nat.le_of_ble_eq_true rfl)
  rw [lg_entry_eq]
  generalize (lg_sl ([.ref q0, .int p_0]) ++ List.replicate (3 - (lg_sl ([.ref q0, .int p_0])).length) Slot.unset).toArray = ls at hl ⊢
  have hl : lv_has ls 3 [(0, .ref q0), (1, .int p_0)] := hl
  subst hsz
  have hD := hD0.self (sz := s.heap.size)
  obtain ⟨A, hAe⟩ : ∃ A, va_A (TW ct L f) s.heap.size = A := ⟨_, rfl⟩
  rw [hAe] at hD
  have hA : ∀ q : Nat, s.heap.size ≤ q → A q := fun q h => by rw [← hAe]; exact Or.inr h
  have hS : va_S A s.heap s.heap [] := va_S.rf
  have hA_0 : Ext [] L f L f := Ext.rf
  suffices hGo : ∀ (H : Heap) (locs : List Loc), va_P (dC, dI) vwCl (TW ct L f) H → va_S A s.heap H locs → W p l e (headSpec (.code y_Md_minutes b_Md_minutes 3 (some .int) :: TB) ({ frames := 1, cells := 0, slots := 0, locals := 25 })).room s m [.ref q0, .int p_0].toArray below meth c H locs 0 0 (MQ below (va_Qi (fun r (u : TSt) => Ok u.1 u.2 ∧ Ext W_Md_minutes_w L f u.1 u.2 ∧ (True) ∧ Q r u.1 u.2) (fun (u : TSt) t => va_P (dC, dI) vwCl (TW ct u.1 u.2) t.heap ∧ va_K (dC, dI) vwCl (TT ct) t ∧ va_D (va_A (TW ct L f) s.heap.size) (TW ct u.1 u.2)) (va_A (TW ct L f) s.heap.size)) [.ref q0, .int p_0].toArray s 0 0 (va_A (TW ct L f) s.heap.size)) (F0 m 0 ls []) from hGo _ _ hP hS
  clear hP hS
  intro H locs hP hS
  unfold wp_Md_minutes_w at hQ
  have bs_1 := hO_0.i m0 (show slotD 27 1 = some (.inl (0, 359999)) from rfl)
  refine lv_iload_n hx hb d_Md_minutes_0 rfl (lv_at hl 1 rfl) ?_
  refine lv_iconst (v := 1) hx hb d_Md_minutes_1 (by decide +kernel) ?_
  refine lv_sipush (v := 1440) hx hb d_Md_minutes_2 (by decide +kernel) ?_
  refine vp_callSi (va_Run.run (va_runS (As := [.int p_0, .int 1, .int 1440]) (rest := []) ⟨hx, hb, hml, hown, htb⟩ (c_Md_in l p_0 1 1440) (cwS 3 htb (gd_S tw_480 tw_481 tw_479 tw_478) rfl rfl rfl (by decide +kernel) ⟨Nat.le_of_ble_eq_true rfl, Nat.le_of_ble_eq_true rfl⟩) ⟨fun _ _ _ _ h => h, fun U _ _ => ⟨rfl, trivial⟩⟩ rfl rfl hl.1 rfl (lv_room (Nat.le_of_ble_eq_true rfl)) d_Md_minutes_5 ⟨Nat.le_of_ble_eq_true rfl, Nat.le_of_ble_eq_true rfl⟩)) (fun r er => ?_)
  subst er
  by_cases c_3 : p_0 < 1
  · have hQ := hQ.1 c_3
    refine hb_ti 0 (by unfold f_Md_in; rw [if_pos c_3]; first | done | rfl) ?_
    refine lv_if_eq (tgt := 23) hx hb d_Md_minutes_8 (by decide) (fun _ => ?_) (fun h => absurd (by decide +kernel) h)
    refine lv_iconst (v := (-1)) hx hb d_Md_minutes_23 (by decide +kernel) ?_
    refine W.widen (k := 0) (n := 0) (Nat.le_of_ble_eq_true rfl) (Nat.le_of_ble_eq_true rfl) ?_
    exact W.iret (v := (-1)) hx hb hr (fun t ht hW => ⟨⟨(-1), (L, f), rfl, ⟨hO_0, hA_0.mono (by decide +kernel), trivial, hQ⟩, by rw [ht]; exact hP, va_K.moved hW.alike hK, by rw [hAe]; exact hD⟩, by rw [hAe]; exact hS.F ht⟩) (by rw [hAe]; exact hS.2.2) d_Md_minutes_24
  · have hQ := hQ.2 c_3
    by_cases c_4 : 1440 < p_0
    · have hQ := hQ.1 c_4
      refine hb_ti 0 (by unfold f_Md_in; rw [if_neg c_3, if_pos c_4]; first | done | rfl) ?_
      refine lv_if_eq (tgt := 23) hx hb d_Md_minutes_8 (by decide) (fun _ => ?_) (fun h => absurd (by decide +kernel) h)
      refine lv_iconst (v := (-1)) hx hb d_Md_minutes_23 (by decide +kernel) ?_
      refine W.widen (k := 0) (n := 0) (Nat.le_of_ble_eq_true rfl) (Nat.le_of_ble_eq_true rfl) ?_
      exact W.iret (v := (-1)) hx hb hr (fun t ht hW => ⟨⟨(-1), (L, f), rfl, ⟨hO_0, hA_0.mono (by decide +kernel), trivial, hQ⟩, by rw [ht]; exact hP, va_K.moved hW.alike hK, by rw [hAe]; exact hD⟩, by rw [hAe]; exact hS.F ht⟩) (by rw [hAe]; exact hS.2.2) d_Md_minutes_24
    · have hQ := hQ.2 c_4
      refine hb_ti 1 (by unfold f_Md_in; rw [if_neg c_3, if_neg c_4]; first | done | rfl) ?_
      refine lv_if_eq (tgt := 23) hx hb d_Md_minutes_8 (by decide) (fun h => absurd h (by decide +kernel)) (fun _ => ?_)
      refine lv_aload_n hx hb d_Md_minutes_11 rfl (lv_at hl 0 rfl) ?_
      refine tw_getI (x := (ti f q0 1)) (D := (dC, dI)) (C := R_Md) (T := F_Md) (N := 64) (ci := 7) (kd := 27) (ct := ct) hx hb htb i_Md hown hK hP m0 rfl rfl 1 rfl (by decide) (htb (.fieldLink R_Md 7 "WaterMenModel" "time" "I") tw_476) (fun _ h9 => h9) rfl d_Md_minutes_12 ?_
      refine lv_iload_n hx hb d_Md_minutes_15 rfl (lv_at hl 1 rfl) ?_
      refine lv_iadd hx hb d_Md_minutes_16 ?_
      refine lv_ldcw (v := 359999) hx hb hown (htb (.constant R_Md 305 359999) tw_632) d_Md_minutes_17 ?_
      refine lv_icmp_le (tgt := 25) hx hb d_Md_minutes_20 (by decide) (fun c_5 => ?_) (fun c_5 => ?_)
      · have hQ := hQ.1 c_5
        refine lv_iconst (v := 0) hx hb d_Md_minutes_25 (by decide +kernel) ?_
        refine lv_istore_n (lv' := [(2, .int 0), (0, .ref q0), (1, .int p_0)]) hx hb d_Md_minutes_26 rfl hl (by decide) rfl (fun ls hl => ?_)
        have cut_6 : ∀ (n_6 : Nat) (v2_6 : Int32) (L_1 : List Nat) (f_1 : TF) (H : Heap) (locs : List Loc) (ls : Array Slot), va_P (dC, dI) vwCl (TW ct L_1 f_1) H → va_D A (TW ct L_1 f_1) → va_S A s.heap H locs → Ok L_1 f_1 → Ext WL_Md_minutes_w_27_6 L f L_1 f_1 → ¬ (v2_6 < 0) → ¬ (1440 < v2_6) → (ti f_1 q0 1) = ((ti f q0 1) + v2_6) → (1440 : Int32).toInt - (v2_6 : Int32).toInt ≤ (n_6 : Int) → wpL_Md_minutes_w_27_6 L f q0 p_0 Q n_6 v2_6 L_1 f_1 → lv_has ls 3 [(0, .ref q0), (1, .int p_0), (2, .int v2_6)] → W p l e (headSpec (.code y_Md_minutes b_Md_minutes 3 (some .int) :: TB) ({ frames := 1, cells := 0, slots := 0, locals := 25 })).room s m [.ref q0, .int p_0].toArray below meth c H locs 0 0 (MQ below (va_Qi (fun r (u : TSt) => Ok u.1 u.2 ∧ Ext W_Md_minutes_w L f u.1 u.2 ∧ (True) ∧ Q r u.1 u.2) (fun (u : TSt) t => va_P (dC, dI) vwCl (TW ct u.1 u.2) t.heap ∧ va_K (dC, dI) vwCl (TT ct) t ∧ va_D (va_A (TW ct L f) s.heap.size) (TW ct u.1 u.2)) (va_A (TW ct L f) s.heap.size)) [.ref q0, .int p_0].toArray s 0 0 (va_A (TW ct L f) s.heap.size)) (F0 m 27 ls []) := by
          intro n_6
          induction n_6 using Nat.strongRecOn with
          | _ n_6 ih_6 =>
            intro v2_6 L_1 f_1 H locs ls hP hD hS hO_1 hE_1 iv0_6 iv1_6 iv2_6 hm_6 hQ hl
            have hA_1 := hA_0.trans hE_1
            have bf_7 := hO_1.i (hA_1.m m0) (show slotD 27 1 = some (.inl (0, 359999)) from rfl)
            rw [wpL_Md_minutes_w_27_6_eq] at hQ
            obtain ⟨rec_6, hrec_6⟩ : ∃ g, wpR_Md_minutes_w_27_6 L f q0 p_0 Q n_6 = g := ⟨_, rfl⟩
            rw [hrec_6] at hQ
            unfold wpB_Md_minutes_w_27_6 at hQ
            have hQ := hQ hO_1 hE_1
            refine lv_iload_n hx hb d_Md_minutes_27 rfl (lv_at hl 2 rfl) ?_
            refine lv_iload_n hx hb d_Md_minutes_28 rfl (lv_at hl 1 rfl) ?_
            refine lv_icmp_ge (tgt := 106) hx hb d_Md_minutes_29 (by decide) (fun c_8 => ?_) (fun c_8 => ?_)
            · have hQ := hQ.1 c_8
              refine lv_aload_n hx hb d_Md_minutes_106 rfl (lv_at hl 0 rfl) ?_
              refine tw_getI (x := (ti f_1 q0 1)) (D := (dC, dI)) (C := R_Md) (T := F_Md) (N := 64) (ci := 7) (kd := 27) (ct := ct) hx hb htb i_Md hown hK hP (hA_1.m m0) rfl rfl 1 rfl (by decide) (htb (.fieldLink R_Md 7 "WaterMenModel" "time" "I") tw_476) (fun _ h9 => h9) rfl d_Md_minutes_107 ?_
              refine W.widen (k := 0) (n := 0) (Nat.le_of_ble_eq_true rfl) (Nat.le_of_ble_eq_true rfl) ?_
              exact W.iret (v := (ti f_1 q0 1)) hx hb hr (fun t ht hW => ⟨⟨(ti f_1 q0 1), (L_1, f_1), rfl, ⟨hO_1, hA_1.mono (by decide +kernel), trivial, hQ⟩, by rw [ht]; exact hP, va_K.moved hW.alike hK, by rw [hAe]; exact hD⟩, by rw [hAe]; exact hS.F ht⟩) (by rw [hAe]; exact hS.2.2) d_Md_minutes_110
            · have hQ := hQ.2 c_8
              refine lv_aload_n hx hb d_Md_minutes_32 rfl (lv_at hl 0 rfl) ?_
              refine lv_dup hx hb d_Md_minutes_33 rfl ?_
              refine tw_getI (x := (ti f_1 q0 1)) (D := (dC, dI)) (C := R_Md) (T := F_Md) (N := 64) (ci := 7) (kd := 27) (ct := ct) hx hb htb i_Md hown hK hP (hA_1.m m0) rfl rfl 1 rfl (by decide) (htb (.fieldLink R_Md 7 "WaterMenModel" "time" "I") tw_476) (fun _ h9 => h9) rfl d_Md_minutes_34 ?_
              refine lv_iconst (v := 1) hx hb d_Md_minutes_37 (by decide +kernel) ?_
              refine lv_iadd hx hb d_Md_minutes_38 ?_
              refine tw_puti (v := ((ti f_1 q0 1) + 1)) (D := (dC, dI)) (C := R_Md) (T := F_Md) (N := 64) (ci := 7) (kd := 27) (ct := ct) (ty := .int) hx hb htb i_Md t_Md t_Md_ok n_Md hown hK hP hD hS hO_1 (hA_1.m m0) rfl rfl 1 (by decide) (htb (.fieldLink R_Md 7 "WaterMenModel" "time" "I") tw_476) (fun _ h9 => h9) rfl (by decide +kernel) rfl rfl rfl ⟨(show ¬ (((ti f_1 q0 1) + 1) < 0) from ((fun (a_0 : Int32) (k_0 : ¬ (a_0 < 0)) (k_1 : ¬ (359999 < a_0)) => (show ¬ ((a_0 + 1) < 0) from by have z0 : (0 : Int32).toInt = 0 := (by decide +kernel); have z1 : (1 : Int32).toInt = 1 := (by decide +kernel); have z2 : (359999 : Int32).toInt = 359999 := (by decide +kernel); have r0 := fb_rng (a_0); have e0 := k_0; rw [Int32.lt_iff_toInt_lt, z0] at e0; have e1 := k_1; rw [Int32.lt_iff_toInt_lt, z2] at e1; obtain ⟨n_0, hn_0, s0⟩ := nd_add (x := a_0) (y := (1 : Int32)) (by (try rw [z1]); omega) (by (try rw [z1]); omega); rw [z1] at s0; rw [hn_0, Int32.lt_iff_toInt_lt, z0]; omega)) (ti f_1 q0 1) bf_7.1 bf_7.2)), (show ¬ (359999 < ((ti f_1 q0 1) + 1)) from ((fun (a_0 : Int32) (a_1 : Int32) (a_2 : Int32) (a_3 : Int32) (k_0 : ¬ (a_0 ≤ a_3)) (k_1 : ¬ (359999 < a_1)) (k_2 : ¬ (1440 < a_0)) (k_3 : ¬ (a_3 < 0)) (k_4 : a_2 = (a_1 + a_3)) (k_5 : (a_1 + a_0) ≤ 359999) => (show ¬ (359999 < (a_2 + 1)) from by have z0 : (0 : Int32).toInt = 0 := (by decide +kernel); have z1 : (1 : Int32).toInt = 1 := (by decide +kernel); have z2 : (1440 : Int32).toInt = 1440 := (by decide +kernel); have z3 : (359999 : Int32).toInt = 359999 := (by decide +kernel); have r0 := fb_rng (a_0); have r1 := fb_rng (a_1); have r2 := fb_rng (a_2); have r3 := fb_rng (a_3); have e0 := k_0; rw [Int32.le_iff_toInt_le] at e0; have e1 := k_1; rw [Int32.lt_iff_toInt_lt, z3] at e1; have e2 := k_2; rw [Int32.lt_iff_toInt_lt, z2] at e2; have e3 := k_3; rw [Int32.lt_iff_toInt_lt, z0] at e3; obtain ⟨n_0, hn_0, s0⟩ := nd_add (x := a_1) (y := (a_3)) (by omega) (by omega); have e4 := k_4; rw [hn_0, ← Int32.toInt_inj] at e4; obtain ⟨n_1, hn_1, s1⟩ := nd_add (x := a_1) (y := (a_0)) (by omega) (by omega); have e5 := k_5; rw [hn_1, Int32.le_iff_toInt_le, z3] at e5; obtain ⟨n_2, hn_2, s2⟩ := nd_add (x := a_2) (y := (1 : Int32)) (by (try rw [z1]); omega) (by (try rw [z1]); omega); rw [z1] at s2; rw [hn_2, Int32.lt_iff_toInt_lt, z3]; omega)) p_0 (ti f q0 1) (ti f_1 q0 1) v2_6 c_8 bs_1.2 c_4 iv0_6 iv2_6 c_5))⟩ d_Md_minutes_39 (fun f_2 H locs hP hD hS hO_2 hE_2 w_9 hF_2 => ?_)
              have hA_2 := hA_1.trans hE_2
              have hQ := hQ f_2 hF_2
              have hQ := hQ hO_2
              refine lv_aload_n hx hb d_Md_minutes_42 rfl (lv_at hl 0 rfl) ?_
              have hFc := hb_free hD hS hA
              refine va_callv (va_runV (As := []) (rest := []) ⟨hx, hb, hml, hown, htb⟩ (c_Md_arrive_t l dC dI ct L_1 f_2 hO_2 q0 (hA_2.m m0) _) (cwV 0 htb (gd_V tw_659 tw_660 tw_661 tw_479 tw_658) rfl rfl rfl (by decide +kernel) ⟨Nat.le_of_ble_eq_true rfl, Nat.le_of_ble_eq_true rfl⟩) ⟨pc_blind, tw_recv hK hP (hA_2.m m0) rfl rfl, pc_pre hP hK hD hN⟩ rfl rfl hl.1 rfl (lv_room (Nat.le_of_ble_eq_true rfl)) d_Md_minutes_43 ⟨Nat.le_of_ble_eq_true rfl, Nat.le_of_ble_eq_true rfl⟩) hS (fun q _ h => hFc q h) hFc (fun u t H locs ht hvm er hB hz1 hk1 hS => ?_)
              obtain ⟨L_3, f_3⟩ := u
              obtain ⟨hO_3, hE_3, er⟩ := er
              obtain ⟨hP, hK1, hD1⟩ := hB
              rw [ht] at hP
              have hP : va_P (dC, dI) vwCl (TW ct L_3 f_3) H := hP
              have hD : va_D A (TW ct L_3 f_3) := hD1.weaken (fun _ q _ h => hFc q.1 h)
              have hO_3 : Ok L_3 f_3 := hO_3
              have hE_3 : Ext W_Md_arrive_t L_1 f_2 L_3 f_3 := hE_3
              clear hK1 hD1 ht hvm hz1 hk1
              have hA_3 := hA_2.trans hE_3
              have hQ := hQ L_3 f_3 hO_3 hE_3
              clear er
              refine lv_aload_n hx hb d_Md_minutes_46 rfl (lv_at hl 0 rfl) ?_
              refine tw_getI (x := ((ti f_1 q0 1) + 1)) (D := (dC, dI)) (C := R_Md) (T := F_Md) (N := 64) (ci := 7) (kd := 27) (ct := ct) hx hb htb i_Md hown hK hP (hA_3.m m0) rfl rfl 1 ((hE_3.ei (hA_2.m m0) rfl).trans w_9) (by decide) (htb (.fieldLink R_Md 7 "WaterMenModel" "time" "I") tw_476) (fun _ h9 => h9) rfl d_Md_minutes_47 ?_
              refine lv_sipush (v := 720) hx hb d_Md_minutes_50 (by decide +kernel) ?_
              refine lv_irem hx hb d_Md_minutes_53 (by decide) ?_
              refine hb_remn (c := 720) (C1 := 719) (K := 2147482927) (by decide +kernel) (by decide +kernel) (by decide +kernel) (show ¬ (((ti f_1 q0 1) + 1) < 0) from ((fun (a_0 : Int32) (k_0 : ¬ (a_0 < 0)) (k_1 : ¬ (359999 < a_0)) => (show ¬ ((a_0 + 1) < 0) from by have z0 : (0 : Int32).toInt = 0 := (by decide +kernel); have z1 : (1 : Int32).toInt = 1 := (by decide +kernel); have z2 : (359999 : Int32).toInt = 359999 := (by decide +kernel); have r0 := fb_rng (a_0); have e0 := k_0; rw [Int32.lt_iff_toInt_lt, z0] at e0; have e1 := k_1; rw [Int32.lt_iff_toInt_lt, z2] at e1; obtain ⟨n_0, hn_0, s0⟩ := nd_add (x := a_0) (y := (1 : Int32)) (by (try rw [z1]); omega) (by (try rw [z1]); omega); rw [z1] at s0; rw [hn_0, Int32.lt_iff_toInt_lt, z0]; omega)) (ti f_1 q0 1) bf_7.1 bf_7.2)) (show ¬ (2147482927 < ((ti f_1 q0 1) + 1)) from ((fun (a_0 : Int32) (k_0 : ¬ (359999 < a_0)) => (show ¬ (2147482927 < (a_0 + 1)) from by have z0 : (1 : Int32).toInt = 1 := (by decide +kernel); have z1 : (359999 : Int32).toInt = 359999 := (by decide +kernel); have z2 : (2147482927 : Int32).toInt = 2147482927 := (by decide +kernel); have r0 := fb_rng (a_0); have e0 := k_0; rw [Int32.lt_iff_toInt_lt, z1] at e0; obtain ⟨n_0, hn_0, s0⟩ := nd_add (x := a_0) (y := (1 : Int32)) (by (try rw [z0]); omega) (by (try rw [z0]); omega); rw [z0] at s0; rw [hn_0, Int32.lt_iff_toInt_lt, z2]; omega)) (ti f_1 q0 1) bf_7.2)) (fun y_11 qu_11 g1_11 g2_11 g3_11 g4_11 g5_11 g9_11 => ?_)
              have hQ := hQ y_11 g9_11
              refine lv_if_eq (tgt := 60) hx hb d_Md_minutes_54 (by decide) (fun c_12 => ?_) (fun c_12 => ?_)
              · have hQ := hQ.1 c_12
                refine lv_aload_n hx hb d_Md_minutes_60 rfl (lv_at hl 0 rfl) ?_
                refine vp_callSi (va_Run.run (va_runV (As := []) (rest := []) ⟨hx, hb, hml, hown, htb⟩ (c_Md_today_w l dC dI ct L_3 f_3 hO_3 q0 (hA_3.m m0) _ hQ) (cwV 0 htb (gd_V tw_499 tw_500 tw_501 tw_479 tw_498) rfl rfl rfl (by decide +kernel) ⟨Nat.le_of_ble_eq_true rfl, Nat.le_of_ble_eq_true rfl⟩) ⟨pr_blind, tw_recv hK hP (hA_3.m m0) rfl rfl, pr_pre hP hK hN⟩ rfl rfl hl.1 rfl (lv_room (Nat.le_of_ble_eq_true rfl)) d_Md_minutes_61 ⟨Nat.le_of_ble_eq_true rfl, Nat.le_of_ble_eq_true rfl⟩)) (fun r_13 er_13 => ?_)
                obtain ⟨er_13, hQ⟩ := er_13
                obtain ⟨po_14, po_15, po_16, po_17, -⟩ := er_13
                rw [show ti f_3 q0 1 = ((ti f_1 q0 1) + 1) from ((hE_3.ei (hA_2.m m0) rfl).trans w_9)] at po_16
                rw [show ti f_3 q0 1 = ((ti f_1 q0 1) + 1) from ((hE_3.ei (hA_2.m m0) rfl).trans w_9)] at po_17
                refine lv_iconst (v := 1) hx hb d_Md_minutes_64 (by decide +kernel) ?_
                refine lv_isub hx hb d_Md_minutes_65 ?_
                refine lv_bipush (v := 7) hx hb d_Md_minutes_66 (by decide +kernel) ?_
                refine lv_irem hx hb d_Md_minutes_68 (by decide) ?_
                refine hb_remn (c := 7) (C1 := 6) (K := 2147483640) (by decide +kernel) (by decide +kernel) (by decide +kernel) (show ¬ ((r_13 - 1) < 0) from ((fun (a_0 : Int32) (a_1 : Int32) (a_2 : Int32) (a_3 : Int32) (k_0 : ¬ (a_1 < 0)) (k_1 : ¬ (499 < a_1)) (k_2 : ¬ (a_2 < 0)) (k_3 : ¬ (359999 < a_2)) (k_4 : ¬ ((a_2 + 1) < a_0)) (k_5 : a_3 = 0) (k_6 : ¬ (a_0 < 0)) (k_7 : ¬ (((a_1 * 720) + 719) < (a_2 + 1))) (k_8 : (a_2 + 1) = ((a_0 * 720) + a_3)) => (show ¬ ((a_1 - 1) < 0) from by have z0 : (0 : Int32).toInt = 0 := (by decide +kernel); have z1 : (1 : Int32).toInt = 1 := (by decide +kernel); have z2 : (499 : Int32).toInt = 499 := (by decide +kernel); have z3 : (719 : Int32).toInt = 719 := (by decide +kernel); have z4 : (720 : Int32).toInt = 720 := (by decide +kernel); have z5 : (359999 : Int32).toInt = 359999 := (by decide +kernel); have r0 := fb_rng (a_0); have r1 := fb_rng (a_1); have r2 := fb_rng (a_2); have r3 := fb_rng (a_3); have e0 := k_0; rw [Int32.lt_iff_toInt_lt, z0] at e0; have e1 := k_1; rw [Int32.lt_iff_toInt_lt, z2] at e1; obtain ⟨n_0, hn_0, s0⟩ := nd_mul (x := (a_1)) (y := (720 : Int32)) (by (try rw [z4]); omega) (by (try rw [z4]); omega); rw [z4] at s0; obtain ⟨n_1, hn_1, s1⟩ := nd_add (x := n_0) (y := (719 : Int32)) (by (try rw [z3]); omega) (by (try rw [z3]); omega); rw [z3] at s1; have e2 := k_2; rw [Int32.lt_iff_toInt_lt, z0] at e2; have e3 := k_3; rw [Int32.lt_iff_toInt_lt, z5] at e3; obtain ⟨n_2, hn_2, s2⟩ := nd_add (x := a_2) (y := (1 : Int32)) (by (try rw [z1]); omega) (by (try rw [z1]); omega); rw [z1] at s2; have e4 := k_4; rw [hn_2, Int32.lt_iff_toInt_lt] at e4; have e5 := k_5; rw [← Int32.toInt_inj, z0] at e5; have e6 := k_6; rw [Int32.lt_iff_toInt_lt, z0] at e6; have e7 := k_7; rw [hn_0, hn_1, hn_2, Int32.lt_iff_toInt_lt] at e7; obtain ⟨n_3, hn_3, s3⟩ := nd_mul (x := (a_0)) (y := (720 : Int32)) (by (try rw [z4]); omega) (by (try rw [z4]); omega); rw [z4] at s3; obtain ⟨n_4, hn_4, s4⟩ := nd_add (x := n_3) (y := (a_3)) (by omega) (by omega); have e8 := k_8; rw [hn_2, hn_3, hn_4, ← Int32.toInt_inj] at e8; obtain ⟨n_5, hn_5, s5⟩ := nd_sub (x := (a_1)) (y := (1 : Int32)) (by (try rw [z1]); omega) (by (try rw [z1]); omega); rw [z1] at s5; rw [hn_5, Int32.lt_iff_toInt_lt, z0]; omega)) qu_11 r_13 (ti f_1 q0 1) y_11 po_14 po_15 bf_7.1 bf_7.2 g4_11 c_12 g3_11 po_17 g5_11)) (show ¬ (2147483640 < (r_13 - 1)) from by have e0 := po_14; rw [Int32.lt_iff_toInt_lt] at e0; have e1 := po_15; rw [Int32.lt_iff_toInt_lt] at e1; have z0 : (0 : Int32).toInt = 0 := (by decide +kernel); have z1 : (1 : Int32).toInt = 1 := (by decide +kernel); have z2 : (499 : Int32).toInt = 499 := (by decide +kernel); have z3 : (2147483640 : Int32).toInt = 2147483640 := (by decide +kernel); have ss := fb_subI (x := r_13) (y := 1) (by omega) (by omega); rw [Int32.lt_iff_toInt_lt]; omega) (fun y_18 qu_18 g1_18 g2_18 g3_18 g4_18 g5_18 g9_18 => ?_)
                have hQ := hQ y_18 g9_18
                refine lv_if_ne (tgt := 82) hx hb d_Md_minutes_69 (by decide) (fun c_19 => ?_) (fun c_19 => ?_)
                · have hQ := hQ.2 c_19
                  refine lv_aload_n hx hb d_Md_minutes_82 rfl (lv_at hl 0 rfl) ?_
                  refine vp_callSi (va_Run.run (va_runV (As := []) (rest := []) ⟨hx, hb, hml, hown, htb⟩ (c_Md_today_w l dC dI ct L_3 f_3 hO_3 q0 (hA_3.m m0) _ hQ) (cwV 0 htb (gd_V tw_499 tw_500 tw_501 tw_479 tw_498) rfl rfl rfl (by decide +kernel) ⟨Nat.le_of_ble_eq_true rfl, Nat.le_of_ble_eq_true rfl⟩) ⟨pr_blind, tw_recv hK hP (hA_3.m m0) rfl rfl, pr_pre hP hK hN⟩ rfl rfl hl.1 rfl (lv_room (Nat.le_of_ble_eq_true rfl)) d_Md_minutes_83 ⟨Nat.le_of_ble_eq_true rfl, Nat.le_of_ble_eq_true rfl⟩)) (fun r_20 er_20 => ?_)
                  obtain ⟨er_20, hQ⟩ := er_20
                  obtain ⟨po_21, po_22, po_23, po_24, -⟩ := er_20
                  rw [show ti f_3 q0 1 = ((ti f_1 q0 1) + 1) from ((hE_3.ei (hA_2.m m0) rfl).trans w_9)] at po_23
                  rw [show ti f_3 q0 1 = ((ti f_1 q0 1) + 1) from ((hE_3.ei (hA_2.m m0) rfl).trans w_9)] at po_24
                  refine lv_bipush (v := 100) hx hb d_Md_minutes_86 (by decide +kernel) ?_
                  refine lv_irem hx hb d_Md_minutes_88 (by decide) ?_
                  refine hb_remn (c := 100) (C1 := 99) (K := 2147483547) (by decide +kernel) (by decide +kernel) (by decide +kernel) po_21 (show ¬ (2147483547 < r_20) from by have e0 := po_21; rw [Int32.lt_iff_toInt_lt] at e0; have e1 := po_22; rw [Int32.lt_iff_toInt_lt] at e1; have z0 : (0 : Int32).toInt = 0 := (by decide +kernel); have z1 : (499 : Int32).toInt = 499 := (by decide +kernel); have z2 : (2147483547 : Int32).toInt = 2147483547 := (by decide +kernel); rw [Int32.lt_iff_toInt_lt]; omega) (fun y_25 qu_25 g1_25 g2_25 g3_25 g4_25 g5_25 g9_25 => ?_)
                  have hQ := hQ y_25 g9_25
                  refine lv_if_ne (tgt := 100) hx hb d_Md_minutes_89 (by decide) (fun c_26 => ?_) (fun c_26 => ?_)
                  · have hQ := hQ.2 c_26
                    refine lv_iinc (v := (v2_6 + 1)) (lv' := [(2, .int (v2_6 + 1)), (0, .ref q0), (1, .int p_0)]) hx hb d_Md_minutes_100 hl (k := 2) rfl rfl (by decide) rfl (fun ls hl => ?_)
                    refine lv_goto (tgt := 27) hx hb d_Md_minutes_103 (by decide) ?_
                    exact ih_6 (n_6 - 1) (ms_1 ((fun (a_0 : Int32) (a_1 : Int32) (k_0 : ¬ (a_0 ≤ a_1)) (k_1 : ¬ (1440 < a_0)) => (show 1 ≤ (1440 : Int32).toInt - (a_1).toInt ∧ (1440 : Int32).toInt - ((a_1) + (1 : Int32)).toInt + 1 ≤ (1440 : Int32).toInt - (a_1).toInt from by have z0 : (1 : Int32).toInt = 1 := (by decide +kernel); have z1 : (1440 : Int32).toInt = 1440 := (by decide +kernel); have r0 := fb_rng (a_0); have r1 := fb_rng (a_1); have e0 := k_0; rw [Int32.le_iff_toInt_le] at e0; have e1 := k_1; rw [Int32.lt_iff_toInt_lt, z1] at e1; obtain ⟨n_0, hn_0, s0⟩ := nd_add (x := (a_1)) (y := (1 : Int32)) (by (try rw [z0]); omega) (by (try rw [z0]); omega); rw [z0] at s0; rw [hn_0]; (try rw [z1]); omega)) p_0 v2_6 c_8 c_4) hm_6) (v2_6 + 1) _ _ _ _ _ hP hD hS hO_3 (((hE_1.trans hE_2).trans hE_3).mono (by decide +kernel)) (show ¬ ((v2_6 + 1) < 0) from by have e0 := iv0_6; rw [Int32.lt_iff_toInt_lt] at e0; have e1 := iv1_6; rw [Int32.lt_iff_toInt_lt] at e1; have z0 : (0 : Int32).toInt = 0 := (by decide +kernel); have z1 : (1 : Int32).toInt = 1 := (by decide +kernel); have z2 : (1440 : Int32).toInt = 1440 := (by decide +kernel); have ss := fb_addI (x := v2_6) (y := 1) (by omega) (by omega); rw [Int32.lt_iff_toInt_lt]; omega) (show ¬ (1440 < (v2_6 + 1)) from ((fun (a_0 : Int32) (a_1 : Int32) (k_0 : ¬ (a_0 ≤ a_1)) (k_1 : ¬ (1440 < a_0)) => (show ¬ (1440 < (a_1 + 1)) from by have z0 : (1 : Int32).toInt = 1 := (by decide +kernel); have z1 : (1440 : Int32).toInt = 1440 := (by decide +kernel); have r0 := fb_rng (a_0); have r1 := fb_rng (a_1); have e0 := k_0; rw [Int32.le_iff_toInt_le] at e0; have e1 := k_1; rw [Int32.lt_iff_toInt_lt, z1] at e1; obtain ⟨n_0, hn_0, s0⟩ := nd_add (x := (a_1)) (y := (1 : Int32)) (by (try rw [z0]); omega) (by (try rw [z0]); omega); rw [z0] at s0; rw [hn_0, Int32.lt_iff_toInt_lt, z1]; omega)) p_0 v2_6 c_8 c_4)) (by rw [show ti f_3 q0 1 = ((ti f_1 q0 1) + 1) from ((hE_3.ei (hA_2.m m0) rfl).trans w_9)]; first | done | exact (show ((ti f_1 q0 1) + 1) = ((ti f q0 1) + (v2_6 + 1)) from ((fun (a_0 : Int32) (a_1 : Int32) (a_2 : Int32) (a_3 : Int32) (k_0 : ¬ (359999 < a_1)) (k_1 : ¬ (a_3 < 0)) (k_2 : ¬ (a_0 ≤ a_3)) (k_3 : ¬ (1440 < a_0)) (k_4 : a_2 = (a_1 + a_3)) => (show (a_2 + 1) = (a_1 + (a_3 + 1)) from by have z0 : (0 : Int32).toInt = 0 := (by decide +kernel); have z1 : (1 : Int32).toInt = 1 := (by decide +kernel); have z2 : (1440 : Int32).toInt = 1440 := (by decide +kernel); have z3 : (359999 : Int32).toInt = 359999 := (by decide +kernel); have r0 := fb_rng (a_0); have r1 := fb_rng (a_1); have r2 := fb_rng (a_2); have r3 := fb_rng (a_3); have e0 := k_0; rw [Int32.lt_iff_toInt_lt, z3] at e0; have e1 := k_1; rw [Int32.lt_iff_toInt_lt, z0] at e1; have e2 := k_2; rw [Int32.le_iff_toInt_le] at e2; have e3 := k_3; rw [Int32.lt_iff_toInt_lt, z2] at e3; obtain ⟨n_0, hn_0, s0⟩ := nd_add (x := a_1) (y := (a_3)) (by omega) (by omega); have e4 := k_4; rw [hn_0, ← Int32.toInt_inj] at e4; obtain ⟨n_1, hn_1, s1⟩ := nd_add (x := a_2) (y := (1 : Int32)) (by (try rw [z1]); omega) (by (try rw [z1]); omega); rw [z1] at s1; obtain ⟨n_2, hn_2, s2⟩ := nd_add (x := (a_3)) (y := (1 : Int32)) (by (try rw [z1]); omega) (by (try rw [z1]); omega); rw [z1] at s2; obtain ⟨n_3, hn_3, s3⟩ := nd_add (x := a_1) (y := n_2) (by omega) (by omega); rw [hn_1, hn_2, hn_3, ← Int32.toInt_inj]; omega)) p_0 (ti f q0 1) (ti f_1 q0 1) v2_6 bs_1.2 iv0_6 c_8 c_4 iv2_6))) (by exact ms_2 ((fun (a_0 : Int32) (a_1 : Int32) (k_0 : ¬ (a_0 ≤ a_1)) (k_1 : ¬ (1440 < a_0)) => (show 1 ≤ (1440 : Int32).toInt - (a_1).toInt ∧ (1440 : Int32).toInt - ((a_1) + (1 : Int32)).toInt + 1 ≤ (1440 : Int32).toInt - (a_1).toInt from by have z0 : (1 : Int32).toInt = 1 := (by decide +kernel); have z1 : (1440 : Int32).toInt = 1440 := (by decide +kernel); have r0 := fb_rng (a_0); have r1 := fb_rng (a_1); have e0 := k_0; rw [Int32.le_iff_toInt_le] at e0; have e1 := k_1; rw [Int32.lt_iff_toInt_lt, z1] at e1; obtain ⟨n_0, hn_0, s0⟩ := nd_add (x := (a_1)) (y := (1 : Int32)) (by (try rw [z0]); omega) (by (try rw [z0]); omega); rw [z0] at s0; rw [hn_0]; (try rw [z1]); omega)) p_0 v2_6 c_8 c_4) hm_6) (by rw [← hrec_6, wpR_Md_minutes_w_27_6_pos (ms_3 ((fun (a_0 : Int32) (a_1 : Int32) (k_0 : ¬ (a_0 ≤ a_1)) (k_1 : ¬ (1440 < a_0)) => (show 1 ≤ (1440 : Int32).toInt - (a_1).toInt ∧ (1440 : Int32).toInt - ((a_1) + (1 : Int32)).toInt + 1 ≤ (1440 : Int32).toInt - (a_1).toInt from by have z0 : (1 : Int32).toInt = 1 := (by decide +kernel); have z1 : (1440 : Int32).toInt = 1440 := (by decide +kernel); have r0 := fb_rng (a_0); have r1 := fb_rng (a_1); have e0 := k_0; rw [Int32.le_iff_toInt_le] at e0; have e1 := k_1; rw [Int32.lt_iff_toInt_lt, z1] at e1; obtain ⟨n_0, hn_0, s0⟩ := nd_add (x := (a_1)) (y := (1 : Int32)) (by (try rw [z0]); omega) (by (try rw [z0]); omega); rw [z0] at s0; rw [hn_0]; (try rw [z1]); omega)) p_0 v2_6 c_8 c_4) hm_6)] at hQ; exact hQ) (lv_sub hl [1, 2, 0] rfl)
                  · have hQ := hQ.1 c_26
                    refine lv_aload_n hx hb d_Md_minutes_92 rfl (lv_at hl 0 rfl) ?_
                    refine lv_aload_n hx hb d_Md_minutes_93 rfl (lv_at hl 0 rfl) ?_
                    refine vp_callSi (va_Run.run (va_runV (As := []) (rest := [.ref q0]) ⟨hx, hb, hml, hown, htb⟩ (c_Md_today_w l dC dI ct L_3 f_3 hO_3 q0 (hA_3.m m0) _ hQ) (cwV 0 htb (gd_V tw_499 tw_500 tw_501 tw_479 tw_498) rfl rfl rfl (by decide +kernel) ⟨Nat.le_of_ble_eq_true rfl, Nat.le_of_ble_eq_true rfl⟩) ⟨pr_blind, tw_recv hK hP (hA_3.m m0) rfl rfl, pr_pre hP hK hN⟩ rfl rfl hl.1 rfl (lv_room (Nat.le_of_ble_eq_true rfl)) d_Md_minutes_94 ⟨Nat.le_of_ble_eq_true rfl, Nat.le_of_ble_eq_true rfl⟩)) (fun r_27 er_27 => ?_)
                    obtain ⟨er_27, hQ⟩ := er_27
                    obtain ⟨po_28, po_29, po_30, po_31, -⟩ := er_27
                    rw [show ti f_3 q0 1 = ((ti f_1 q0 1) + 1) from ((hE_3.ei (hA_2.m m0) rfl).trans w_9)] at po_30
                    rw [show ti f_3 q0 1 = ((ti f_1 q0 1) + 1) from ((hE_3.ei (hA_2.m m0) rfl).trans w_9)] at po_31
                    have hFc := hb_free hD hS hA
                    refine va_callv (va_runV (As := [.int r_27]) (rest := []) ⟨hx, hb, hml, hown, htb⟩ (c_Md_pay_t l dC dI ct L_3 f_3 hO_3 q0 (hA_3.m m0) _ r_27) (cwV 1 htb (gd_V tw_663 tw_664 tw_665 tw_479 tw_662) rfl rfl rfl (by decide +kernel) ⟨Nat.le_of_ble_eq_true rfl, Nat.le_of_ble_eq_true rfl⟩) ⟨pc_blind, tw_recv hK hP (hA_3.m m0) rfl rfl, pc_pre hP hK hD hN⟩ rfl rfl hl.1 rfl (lv_room (Nat.le_of_ble_eq_true rfl)) d_Md_minutes_97 ⟨Nat.le_of_ble_eq_true rfl, Nat.le_of_ble_eq_true rfl⟩) hS (fun q _ h => hFc q h) hFc (fun u t H locs ht hvm er hB hz1 hk1 hS => ?_)
                    obtain ⟨L_4, f_4⟩ := u
                    obtain ⟨hO_4, hE_4, er⟩ := er
                    obtain ⟨hP, hK1, hD1⟩ := hB
                    rw [ht] at hP
                    have hP : va_P (dC, dI) vwCl (TW ct L_4 f_4) H := hP
                    have hD : va_D A (TW ct L_4 f_4) := hD1.weaken (fun _ q _ h => hFc q.1 h)
                    have hO_4 : Ok L_4 f_4 := hO_4
                    have hE_4 : Ext W_Md_pay_t L_3 f_3 L_4 f_4 := hE_4
                    clear hK1 hD1 ht hvm hz1 hk1
                    have hA_4 := hA_3.trans hE_4
                    have hQ := hQ L_4 f_4 hO_4 hE_4
                    clear er
                    refine lv_iinc (v := (v2_6 + 1)) (lv' := [(2, .int (v2_6 + 1)), (0, .ref q0), (1, .int p_0)]) hx hb d_Md_minutes_100 hl (k := 2) rfl rfl (by decide) rfl (fun ls hl => ?_)
                    refine lv_goto (tgt := 27) hx hb d_Md_minutes_103 (by decide) ?_
                    exact ih_6 (n_6 - 1) (ms_1 ((fun (a_0 : Int32) (a_1 : Int32) (k_0 : ¬ (a_0 ≤ a_1)) (k_1 : ¬ (1440 < a_0)) => (show 1 ≤ (1440 : Int32).toInt - (a_1).toInt ∧ (1440 : Int32).toInt - ((a_1) + (1 : Int32)).toInt + 1 ≤ (1440 : Int32).toInt - (a_1).toInt from by have z0 : (1 : Int32).toInt = 1 := (by decide +kernel); have z1 : (1440 : Int32).toInt = 1440 := (by decide +kernel); have r0 := fb_rng (a_0); have r1 := fb_rng (a_1); have e0 := k_0; rw [Int32.le_iff_toInt_le] at e0; have e1 := k_1; rw [Int32.lt_iff_toInt_lt, z1] at e1; obtain ⟨n_0, hn_0, s0⟩ := nd_add (x := (a_1)) (y := (1 : Int32)) (by (try rw [z0]); omega) (by (try rw [z0]); omega); rw [z0] at s0; rw [hn_0]; (try rw [z1]); omega)) p_0 v2_6 c_8 c_4) hm_6) (v2_6 + 1) _ _ _ _ _ hP hD hS hO_4 ((((hE_1.trans hE_2).trans hE_3).trans hE_4).mono (by decide +kernel)) (show ¬ ((v2_6 + 1) < 0) from by have e0 := iv0_6; rw [Int32.lt_iff_toInt_lt] at e0; have e1 := iv1_6; rw [Int32.lt_iff_toInt_lt] at e1; have z0 : (0 : Int32).toInt = 0 := (by decide +kernel); have z1 : (1 : Int32).toInt = 1 := (by decide +kernel); have z2 : (1440 : Int32).toInt = 1440 := (by decide +kernel); have ss := fb_addI (x := v2_6) (y := 1) (by omega) (by omega); rw [Int32.lt_iff_toInt_lt]; omega) (show ¬ (1440 < (v2_6 + 1)) from ((fun (a_0 : Int32) (a_1 : Int32) (k_0 : ¬ (a_0 ≤ a_1)) (k_1 : ¬ (1440 < a_0)) => (show ¬ (1440 < (a_1 + 1)) from by have z0 : (1 : Int32).toInt = 1 := (by decide +kernel); have z1 : (1440 : Int32).toInt = 1440 := (by decide +kernel); have r0 := fb_rng (a_0); have r1 := fb_rng (a_1); have e0 := k_0; rw [Int32.le_iff_toInt_le] at e0; have e1 := k_1; rw [Int32.lt_iff_toInt_lt, z1] at e1; obtain ⟨n_0, hn_0, s0⟩ := nd_add (x := (a_1)) (y := (1 : Int32)) (by (try rw [z0]); omega) (by (try rw [z0]); omega); rw [z0] at s0; rw [hn_0, Int32.lt_iff_toInt_lt, z1]; omega)) p_0 v2_6 c_8 c_4)) (by rw [show ti f_4 q0 1 = ((ti f_1 q0 1) + 1) from ((hE_4.ei (hA_3.m m0) rfl).trans ((hE_3.ei (hA_2.m m0) rfl).trans w_9))]; first | done | exact (show ((ti f_1 q0 1) + 1) = ((ti f q0 1) + (v2_6 + 1)) from ((fun (a_0 : Int32) (a_1 : Int32) (a_2 : Int32) (a_3 : Int32) (k_0 : ¬ (359999 < a_1)) (k_1 : ¬ (a_3 < 0)) (k_2 : ¬ (a_0 ≤ a_3)) (k_3 : ¬ (1440 < a_0)) (k_4 : a_2 = (a_1 + a_3)) => (show (a_2 + 1) = (a_1 + (a_3 + 1)) from by have z0 : (0 : Int32).toInt = 0 := (by decide +kernel); have z1 : (1 : Int32).toInt = 1 := (by decide +kernel); have z2 : (1440 : Int32).toInt = 1440 := (by decide +kernel); have z3 : (359999 : Int32).toInt = 359999 := (by decide +kernel); have r0 := fb_rng (a_0); have r1 := fb_rng (a_1); have r2 := fb_rng (a_2); have r3 := fb_rng (a_3); have e0 := k_0; rw [Int32.lt_iff_toInt_lt, z3] at e0; have e1 := k_1; rw [Int32.lt_iff_toInt_lt, z0] at e1; have e2 := k_2; rw [Int32.le_iff_toInt_le] at e2; have e3 := k_3; rw [Int32.lt_iff_toInt_lt, z2] at e3; obtain ⟨n_0, hn_0, s0⟩ := nd_add (x := a_1) (y := (a_3)) (by omega) (by omega); have e4 := k_4; rw [hn_0, ← Int32.toInt_inj] at e4; obtain ⟨n_1, hn_1, s1⟩ := nd_add (x := a_2) (y := (1 : Int32)) (by (try rw [z1]); omega) (by (try rw [z1]); omega); rw [z1] at s1; obtain ⟨n_2, hn_2, s2⟩ := nd_add (x := (a_3)) (y := (1 : Int32)) (by (try rw [z1]); omega) (by (try rw [z1]); omega); rw [z1] at s2; obtain ⟨n_3, hn_3, s3⟩ := nd_add (x := a_1) (y := n_2) (by omega) (by omega); rw [hn_1, hn_2, hn_3, ← Int32.toInt_inj]; omega)) p_0 (ti f q0 1) (ti f_1 q0 1) v2_6 bs_1.2 iv0_6 c_8 c_4 iv2_6))) (by exact ms_2 ((fun (a_0 : Int32) (a_1 : Int32) (k_0 : ¬ (a_0 ≤ a_1)) (k_1 : ¬ (1440 < a_0)) => (show 1 ≤ (1440 : Int32).toInt - (a_1).toInt ∧ (1440 : Int32).toInt - ((a_1) + (1 : Int32)).toInt + 1 ≤ (1440 : Int32).toInt - (a_1).toInt from by have z0 : (1 : Int32).toInt = 1 := (by decide +kernel); have z1 : (1440 : Int32).toInt = 1440 := (by decide +kernel); have r0 := fb_rng (a_0); have r1 := fb_rng (a_1); have e0 := k_0; rw [Int32.le_iff_toInt_le] at e0; have e1 := k_1; rw [Int32.lt_iff_toInt_lt, z1] at e1; obtain ⟨n_0, hn_0, s0⟩ := nd_add (x := (a_1)) (y := (1 : Int32)) (by (try rw [z0]); omega) (by (try rw [z0]); omega); rw [z0] at s0; rw [hn_0]; (try rw [z1]); omega)) p_0 v2_6 c_8 c_4) hm_6) (by rw [← hrec_6, wpR_Md_minutes_w_27_6_pos (ms_3 ((fun (a_0 : Int32) (a_1 : Int32) (k_0 : ¬ (a_0 ≤ a_1)) (k_1 : ¬ (1440 < a_0)) => (show 1 ≤ (1440 : Int32).toInt - (a_1).toInt ∧ (1440 : Int32).toInt - ((a_1) + (1 : Int32)).toInt + 1 ≤ (1440 : Int32).toInt - (a_1).toInt from by have z0 : (1 : Int32).toInt = 1 := (by decide +kernel); have z1 : (1440 : Int32).toInt = 1440 := (by decide +kernel); have r0 := fb_rng (a_0); have r1 := fb_rng (a_1); have e0 := k_0; rw [Int32.le_iff_toInt_le] at e0; have e1 := k_1; rw [Int32.lt_iff_toInt_lt, z1] at e1; obtain ⟨n_0, hn_0, s0⟩ := nd_add (x := (a_1)) (y := (1 : Int32)) (by (try rw [z0]); omega) (by (try rw [z0]); omega); rw [z0] at s0; rw [hn_0]; (try rw [z1]); omega)) p_0 v2_6 c_8 c_4) hm_6)] at hQ; exact hQ) (lv_sub hl [1, 2, 0] rfl)
                · have hQ := hQ.1 c_19
                  refine lv_aload_n hx hb d_Md_minutes_72 rfl (lv_at hl 0 rfl) ?_
                  refine lv_aload_n hx hb d_Md_minutes_73 rfl (lv_at hl 0 rfl) ?_
                  refine vp_callSi (va_Run.run (va_runV (As := []) (rest := [.ref q0]) ⟨hx, hb, hml, hown, htb⟩ (c_Md_today_w l dC dI ct L_3 f_3 hO_3 q0 (hA_3.m m0) _ hQ) (cwV 0 htb (gd_V tw_499 tw_500 tw_501 tw_479 tw_498) rfl rfl rfl (by decide +kernel) ⟨Nat.le_of_ble_eq_true rfl, Nat.le_of_ble_eq_true rfl⟩) ⟨pr_blind, tw_recv hK hP (hA_3.m m0) rfl rfl, pr_pre hP hK hN⟩ rfl rfl hl.1 rfl (lv_room (Nat.le_of_ble_eq_true rfl)) d_Md_minutes_74 ⟨Nat.le_of_ble_eq_true rfl, Nat.le_of_ble_eq_true rfl⟩)) (fun r_33 er_33 => ?_)
                  obtain ⟨er_33, hQ⟩ := er_33
                  obtain ⟨po_34, po_35, po_36, po_37, -⟩ := er_33
                  rw [show ti f_3 q0 1 = ((ti f_1 q0 1) + 1) from ((hE_3.ei (hA_2.m m0) rfl).trans w_9)] at po_36
                  rw [show ti f_3 q0 1 = ((ti f_1 q0 1) + 1) from ((hE_3.ei (hA_2.m m0) rfl).trans w_9)] at po_37
                  refine lv_iconst (v := 1) hx hb d_Md_minutes_77 (by decide +kernel) ?_
                  refine lv_isub hx hb d_Md_minutes_78 ?_
                  have hFc := hb_free hD hS hA
                  refine va_callv (va_runV (As := [.int (r_33 - 1)]) (rest := []) ⟨hx, hb, hml, hown, htb⟩ (c_Md_part_t l dC dI ct L_3 f_3 hO_3 q0 (hA_3.m m0) _ (r_33 - 1) (show ¬ ((r_33 - 1) < 0) from ((fun (a_0 : Int32) (a_1 : Int32) (a_2 : Int32) (a_3 : Int32) (k_0 : ¬ (a_2 < 0)) (k_1 : ¬ (499 < a_2)) (k_2 : ¬ (359999 < a_3)) (k_3 : ¬ (a_1 < 0)) (k_4 : ¬ (499 < a_1)) (k_5 : ¬ (a_0 < 0)) (k_6 : ¬ (((a_2 * 720) + 719) < (a_3 + 1))) (k_7 : ¬ ((a_3 + 1) < (a_1 * 720))) (k_8 : ¬ ((a_1 - 1) < a_0)) => (show ¬ ((a_2 - 1) < 0) from by have z0 : (0 : Int32).toInt = 0 := (by decide +kernel); have z1 : (1 : Int32).toInt = 1 := (by decide +kernel); have z2 : (499 : Int32).toInt = 499 := (by decide +kernel); have z3 : (719 : Int32).toInt = 719 := (by decide +kernel); have z4 : (720 : Int32).toInt = 720 := (by decide +kernel); have z5 : (359999 : Int32).toInt = 359999 := (by decide +kernel); have r0 := fb_rng (a_0); have r1 := fb_rng (a_1); have r2 := fb_rng (a_2); have r3 := fb_rng (a_3); have e0 := k_0; rw [Int32.lt_iff_toInt_lt, z0] at e0; have e1 := k_1; rw [Int32.lt_iff_toInt_lt, z2] at e1; obtain ⟨n_0, hn_0, s0⟩ := nd_mul (x := (a_2)) (y := (720 : Int32)) (by (try rw [z4]); omega) (by (try rw [z4]); omega); rw [z4] at s0; obtain ⟨n_1, hn_1, s1⟩ := nd_add (x := n_0) (y := (719 : Int32)) (by (try rw [z3]); omega) (by (try rw [z3]); omega); rw [z3] at s1; have e2 := k_2; rw [Int32.lt_iff_toInt_lt, z5] at e2; obtain ⟨n_2, hn_2, s2⟩ := nd_add (x := a_3) (y := (1 : Int32)) (by (try rw [z1]); omega) (by (try rw [z1]); omega); rw [z1] at s2; have e3 := k_3; rw [Int32.lt_iff_toInt_lt, z0] at e3; have e4 := k_4; rw [Int32.lt_iff_toInt_lt, z2] at e4; have e5 := k_5; rw [Int32.lt_iff_toInt_lt, z0] at e5; have e6 := k_6; rw [hn_0, hn_1, hn_2, Int32.lt_iff_toInt_lt] at e6; obtain ⟨n_3, hn_3, s3⟩ := nd_mul (x := (a_1)) (y := (720 : Int32)) (by (try rw [z4]); omega) (by (try rw [z4]); omega); rw [z4] at s3; have e7 := k_7; rw [hn_2, hn_3, Int32.lt_iff_toInt_lt] at e7; obtain ⟨n_4, hn_4, s4⟩ := nd_sub (x := (a_1)) (y := (1 : Int32)) (by (try rw [z1]); omega) (by (try rw [z1]); omega); rw [z1] at s4; have e8 := k_8; rw [hn_4, Int32.lt_iff_toInt_lt] at e8; obtain ⟨n_5, hn_5, s5⟩ := nd_sub (x := (a_2)) (y := (1 : Int32)) (by (try rw [z1]); omega) (by (try rw [z1]); omega); rw [z1] at s5; rw [hn_5, Int32.lt_iff_toInt_lt, z0]; omega)) qu_18 r_13 r_33 (ti f_1 q0 1) po_34 po_35 bf_7.2 po_14 po_15 g3_18 po_37 po_16 g4_18)) (show ¬ (499 < (r_33 - 1)) from by have e0 := po_34; rw [Int32.lt_iff_toInt_lt] at e0; have e1 := po_35; rw [Int32.lt_iff_toInt_lt] at e1; have z0 : (0 : Int32).toInt = 0 := (by decide +kernel); have z1 : (1 : Int32).toInt = 1 := (by decide +kernel); have z2 : (499 : Int32).toInt = 499 := (by decide +kernel); have ss := fb_subI (x := r_33) (y := 1) (by omega) (by omega); rw [Int32.lt_iff_toInt_lt]; omega)) (cwV 1 htb (gd_V tw_667 tw_668 tw_669 tw_479 tw_666) rfl rfl rfl (by decide +kernel) ⟨Nat.le_of_ble_eq_true rfl, Nat.le_of_ble_eq_true rfl⟩) ⟨pc_blind, tw_recv hK hP (hA_3.m m0) rfl rfl, pc_pre hP hK hD hN⟩ rfl rfl hl.1 rfl (lv_room (Nat.le_of_ble_eq_true rfl)) d_Md_minutes_79 ⟨Nat.le_of_ble_eq_true rfl, Nat.le_of_ble_eq_true rfl⟩) hS (fun q _ h => hFc q h) hFc (fun u t H locs ht hvm er hB hz1 hk1 hS => ?_)
                  obtain ⟨L_4, f_4⟩ := u
                  obtain ⟨hO_4, hE_4, er⟩ := er
                  obtain ⟨hP, hK1, hD1⟩ := hB
                  rw [ht] at hP
                  have hP : va_P (dC, dI) vwCl (TW ct L_4 f_4) H := hP
                  have hD : va_D A (TW ct L_4 f_4) := hD1.weaken (fun _ q _ h => hFc q.1 h)
                  have hO_4 : Ok L_4 f_4 := hO_4
                  have hE_4 : Ext W_Md_part_t L_3 f_3 L_4 f_4 := hE_4
                  clear hK1 hD1 ht hvm hz1 hk1
                  have hA_4 := hA_3.trans hE_4
                  have hQ := hQ L_4 f_4 hO_4 hE_4
                  clear er
                  refine lv_aload_n hx hb d_Md_minutes_82 rfl (lv_at hl 0 rfl) ?_
                  refine vp_callSi (va_Run.run (va_runV (As := []) (rest := []) ⟨hx, hb, hml, hown, htb⟩ (c_Md_today_w l dC dI ct L_4 f_4 hO_4 q0 (hA_4.m m0) _ hQ) (cwV 0 htb (gd_V tw_499 tw_500 tw_501 tw_479 tw_498) rfl rfl rfl (by decide +kernel) ⟨Nat.le_of_ble_eq_true rfl, Nat.le_of_ble_eq_true rfl⟩) ⟨pr_blind, tw_recv hK hP (hA_4.m m0) rfl rfl, pr_pre hP hK hN⟩ rfl rfl hl.1 rfl (lv_room (Nat.le_of_ble_eq_true rfl)) d_Md_minutes_83 ⟨Nat.le_of_ble_eq_true rfl, Nat.le_of_ble_eq_true rfl⟩)) (fun r_39 er_39 => ?_)
                  obtain ⟨er_39, hQ⟩ := er_39
                  obtain ⟨po_40, po_41, po_42, po_43, -⟩ := er_39
                  rw [show ti f_4 q0 1 = ((ti f_1 q0 1) + 1) from ((hE_4.ei (hA_3.m m0) rfl).trans ((hE_3.ei (hA_2.m m0) rfl).trans w_9))] at po_42
                  rw [show ti f_4 q0 1 = ((ti f_1 q0 1) + 1) from ((hE_4.ei (hA_3.m m0) rfl).trans ((hE_3.ei (hA_2.m m0) rfl).trans w_9))] at po_43
                  refine lv_bipush (v := 100) hx hb d_Md_minutes_86 (by decide +kernel) ?_
                  refine lv_irem hx hb d_Md_minutes_88 (by decide) ?_
                  refine hb_remn (c := 100) (C1 := 99) (K := 2147483547) (by decide +kernel) (by decide +kernel) (by decide +kernel) po_40 (show ¬ (2147483547 < r_39) from by have e0 := po_40; rw [Int32.lt_iff_toInt_lt] at e0; have e1 := po_41; rw [Int32.lt_iff_toInt_lt] at e1; have z0 : (0 : Int32).toInt = 0 := (by decide +kernel); have z1 : (499 : Int32).toInt = 499 := (by decide +kernel); have z2 : (2147483547 : Int32).toInt = 2147483547 := (by decide +kernel); rw [Int32.lt_iff_toInt_lt]; omega) (fun y_44 qu_44 g1_44 g2_44 g3_44 g4_44 g5_44 g9_44 => ?_)
                  have hQ := hQ y_44 g9_44
                  refine lv_if_ne (tgt := 100) hx hb d_Md_minutes_89 (by decide) (fun c_45 => ?_) (fun c_45 => ?_)
                  · have hQ := hQ.2 c_45
                    refine lv_iinc (v := (v2_6 + 1)) (lv' := [(2, .int (v2_6 + 1)), (0, .ref q0), (1, .int p_0)]) hx hb d_Md_minutes_100 hl (k := 2) rfl rfl (by decide) rfl (fun ls hl => ?_)
                    refine lv_goto (tgt := 27) hx hb d_Md_minutes_103 (by decide) ?_
                    exact ih_6 (n_6 - 1) (ms_1 ((fun (a_0 : Int32) (a_1 : Int32) (k_0 : ¬ (a_0 ≤ a_1)) (k_1 : ¬ (1440 < a_0)) => (show 1 ≤ (1440 : Int32).toInt - (a_1).toInt ∧ (1440 : Int32).toInt - ((a_1) + (1 : Int32)).toInt + 1 ≤ (1440 : Int32).toInt - (a_1).toInt from by have z0 : (1 : Int32).toInt = 1 := (by decide +kernel); have z1 : (1440 : Int32).toInt = 1440 := (by decide +kernel); have r0 := fb_rng (a_0); have r1 := fb_rng (a_1); have e0 := k_0; rw [Int32.le_iff_toInt_le] at e0; have e1 := k_1; rw [Int32.lt_iff_toInt_lt, z1] at e1; obtain ⟨n_0, hn_0, s0⟩ := nd_add (x := (a_1)) (y := (1 : Int32)) (by (try rw [z0]); omega) (by (try rw [z0]); omega); rw [z0] at s0; rw [hn_0]; (try rw [z1]); omega)) p_0 v2_6 c_8 c_4) hm_6) (v2_6 + 1) _ _ _ _ _ hP hD hS hO_4 ((((hE_1.trans hE_2).trans hE_3).trans hE_4).mono (by decide +kernel)) (show ¬ ((v2_6 + 1) < 0) from by have e0 := iv0_6; rw [Int32.lt_iff_toInt_lt] at e0; have e1 := iv1_6; rw [Int32.lt_iff_toInt_lt] at e1; have z0 : (0 : Int32).toInt = 0 := (by decide +kernel); have z1 : (1 : Int32).toInt = 1 := (by decide +kernel); have z2 : (1440 : Int32).toInt = 1440 := (by decide +kernel); have ss := fb_addI (x := v2_6) (y := 1) (by omega) (by omega); rw [Int32.lt_iff_toInt_lt]; omega) (show ¬ (1440 < (v2_6 + 1)) from ((fun (a_0 : Int32) (a_1 : Int32) (k_0 : ¬ (a_0 ≤ a_1)) (k_1 : ¬ (1440 < a_0)) => (show ¬ (1440 < (a_1 + 1)) from by have z0 : (1 : Int32).toInt = 1 := (by decide +kernel); have z1 : (1440 : Int32).toInt = 1440 := (by decide +kernel); have r0 := fb_rng (a_0); have r1 := fb_rng (a_1); have e0 := k_0; rw [Int32.le_iff_toInt_le] at e0; have e1 := k_1; rw [Int32.lt_iff_toInt_lt, z1] at e1; obtain ⟨n_0, hn_0, s0⟩ := nd_add (x := (a_1)) (y := (1 : Int32)) (by (try rw [z0]); omega) (by (try rw [z0]); omega); rw [z0] at s0; rw [hn_0, Int32.lt_iff_toInt_lt, z1]; omega)) p_0 v2_6 c_8 c_4)) (by rw [show ti f_4 q0 1 = ((ti f_1 q0 1) + 1) from ((hE_4.ei (hA_3.m m0) rfl).trans ((hE_3.ei (hA_2.m m0) rfl).trans w_9))]; first | done | exact (show ((ti f_1 q0 1) + 1) = ((ti f q0 1) + (v2_6 + 1)) from ((fun (a_0 : Int32) (a_1 : Int32) (a_2 : Int32) (a_3 : Int32) (k_0 : ¬ (359999 < a_1)) (k_1 : ¬ (a_3 < 0)) (k_2 : ¬ (a_0 ≤ a_3)) (k_3 : ¬ (1440 < a_0)) (k_4 : a_2 = (a_1 + a_3)) => (show (a_2 + 1) = (a_1 + (a_3 + 1)) from by have z0 : (0 : Int32).toInt = 0 := (by decide +kernel); have z1 : (1 : Int32).toInt = 1 := (by decide +kernel); have z2 : (1440 : Int32).toInt = 1440 := (by decide +kernel); have z3 : (359999 : Int32).toInt = 359999 := (by decide +kernel); have r0 := fb_rng (a_0); have r1 := fb_rng (a_1); have r2 := fb_rng (a_2); have r3 := fb_rng (a_3); have e0 := k_0; rw [Int32.lt_iff_toInt_lt, z3] at e0; have e1 := k_1; rw [Int32.lt_iff_toInt_lt, z0] at e1; have e2 := k_2; rw [Int32.le_iff_toInt_le] at e2; have e3 := k_3; rw [Int32.lt_iff_toInt_lt, z2] at e3; obtain ⟨n_0, hn_0, s0⟩ := nd_add (x := a_1) (y := (a_3)) (by omega) (by omega); have e4 := k_4; rw [hn_0, ← Int32.toInt_inj] at e4; obtain ⟨n_1, hn_1, s1⟩ := nd_add (x := a_2) (y := (1 : Int32)) (by (try rw [z1]); omega) (by (try rw [z1]); omega); rw [z1] at s1; obtain ⟨n_2, hn_2, s2⟩ := nd_add (x := (a_3)) (y := (1 : Int32)) (by (try rw [z1]); omega) (by (try rw [z1]); omega); rw [z1] at s2; obtain ⟨n_3, hn_3, s3⟩ := nd_add (x := a_1) (y := n_2) (by omega) (by omega); rw [hn_1, hn_2, hn_3, ← Int32.toInt_inj]; omega)) p_0 (ti f q0 1) (ti f_1 q0 1) v2_6 bs_1.2 iv0_6 c_8 c_4 iv2_6))) (by exact ms_2 ((fun (a_0 : Int32) (a_1 : Int32) (k_0 : ¬ (a_0 ≤ a_1)) (k_1 : ¬ (1440 < a_0)) => (show 1 ≤ (1440 : Int32).toInt - (a_1).toInt ∧ (1440 : Int32).toInt - ((a_1) + (1 : Int32)).toInt + 1 ≤ (1440 : Int32).toInt - (a_1).toInt from by have z0 : (1 : Int32).toInt = 1 := (by decide +kernel); have z1 : (1440 : Int32).toInt = 1440 := (by decide +kernel); have r0 := fb_rng (a_0); have r1 := fb_rng (a_1); have e0 := k_0; rw [Int32.le_iff_toInt_le] at e0; have e1 := k_1; rw [Int32.lt_iff_toInt_lt, z1] at e1; obtain ⟨n_0, hn_0, s0⟩ := nd_add (x := (a_1)) (y := (1 : Int32)) (by (try rw [z0]); omega) (by (try rw [z0]); omega); rw [z0] at s0; rw [hn_0]; (try rw [z1]); omega)) p_0 v2_6 c_8 c_4) hm_6) (by rw [← hrec_6, wpR_Md_minutes_w_27_6_pos (ms_3 ((fun (a_0 : Int32) (a_1 : Int32) (k_0 : ¬ (a_0 ≤ a_1)) (k_1 : ¬ (1440 < a_0)) => (show 1 ≤ (1440 : Int32).toInt - (a_1).toInt ∧ (1440 : Int32).toInt - ((a_1) + (1 : Int32)).toInt + 1 ≤ (1440 : Int32).toInt - (a_1).toInt from by have z0 : (1 : Int32).toInt = 1 := (by decide +kernel); have z1 : (1440 : Int32).toInt = 1440 := (by decide +kernel); have r0 := fb_rng (a_0); have r1 := fb_rng (a_1); have e0 := k_0; rw [Int32.le_iff_toInt_le] at e0; have e1 := k_1; rw [Int32.lt_iff_toInt_lt, z1] at e1; obtain ⟨n_0, hn_0, s0⟩ := nd_add (x := (a_1)) (y := (1 : Int32)) (by (try rw [z0]); omega) (by (try rw [z0]); omega); rw [z0] at s0; rw [hn_0]; (try rw [z1]); omega)) p_0 v2_6 c_8 c_4) hm_6)] at hQ; exact hQ) (lv_sub hl [1, 2, 0] rfl)
                  · have hQ := hQ.1 c_45
                    refine lv_aload_n hx hb d_Md_minutes_92 rfl (lv_at hl 0 rfl) ?_
                    refine lv_aload_n hx hb d_Md_minutes_93 rfl (lv_at hl 0 rfl) ?_
                    refine vp_callSi (va_Run.run (va_runV (As := []) (rest := [.ref q0]) ⟨hx, hb, hml, hown, htb⟩ (c_Md_today_w l dC dI ct L_4 f_4 hO_4 q0 (hA_4.m m0) _ hQ) (cwV 0 htb (gd_V tw_499 tw_500 tw_501 tw_479 tw_498) rfl rfl rfl (by decide +kernel) ⟨Nat.le_of_ble_eq_true rfl, Nat.le_of_ble_eq_true rfl⟩) ⟨pr_blind, tw_recv hK hP (hA_4.m m0) rfl rfl, pr_pre hP hK hN⟩ rfl rfl hl.1 rfl (lv_room (Nat.le_of_ble_eq_true rfl)) d_Md_minutes_94 ⟨Nat.le_of_ble_eq_true rfl, Nat.le_of_ble_eq_true rfl⟩)) (fun r_46 er_46 => ?_)
                    obtain ⟨er_46, hQ⟩ := er_46
                    obtain ⟨po_47, po_48, po_49, po_50, -⟩ := er_46
                    rw [show ti f_4 q0 1 = ((ti f_1 q0 1) + 1) from ((hE_4.ei (hA_3.m m0) rfl).trans ((hE_3.ei (hA_2.m m0) rfl).trans w_9))] at po_49
                    rw [show ti f_4 q0 1 = ((ti f_1 q0 1) + 1) from ((hE_4.ei (hA_3.m m0) rfl).trans ((hE_3.ei (hA_2.m m0) rfl).trans w_9))] at po_50
                    have hFc := hb_free hD hS hA
                    refine va_callv (va_runV (As := [.int r_46]) (rest := []) ⟨hx, hb, hml, hown, htb⟩ (c_Md_pay_t l dC dI ct L_4 f_4 hO_4 q0 (hA_4.m m0) _ r_46) (cwV 1 htb (gd_V tw_663 tw_664 tw_665 tw_479 tw_662) rfl rfl rfl (by decide +kernel) ⟨Nat.le_of_ble_eq_true rfl, Nat.le_of_ble_eq_true rfl⟩) ⟨pc_blind, tw_recv hK hP (hA_4.m m0) rfl rfl, pc_pre hP hK hD hN⟩ rfl rfl hl.1 rfl (lv_room (Nat.le_of_ble_eq_true rfl)) d_Md_minutes_97 ⟨Nat.le_of_ble_eq_true rfl, Nat.le_of_ble_eq_true rfl⟩) hS (fun q _ h => hFc q h) hFc (fun u t H locs ht hvm er hB hz1 hk1 hS => ?_)
                    obtain ⟨L_5, f_5⟩ := u
                    obtain ⟨hO_5, hE_5, er⟩ := er
                    obtain ⟨hP, hK1, hD1⟩ := hB
                    rw [ht] at hP
                    have hP : va_P (dC, dI) vwCl (TW ct L_5 f_5) H := hP
                    have hD : va_D A (TW ct L_5 f_5) := hD1.weaken (fun _ q _ h => hFc q.1 h)
                    have hO_5 : Ok L_5 f_5 := hO_5
                    have hE_5 : Ext W_Md_pay_t L_4 f_4 L_5 f_5 := hE_5
                    clear hK1 hD1 ht hvm hz1 hk1
                    have hA_5 := hA_4.trans hE_5
                    have hQ := hQ L_5 f_5 hO_5 hE_5
                    clear er
                    refine lv_iinc (v := (v2_6 + 1)) (lv' := [(2, .int (v2_6 + 1)), (0, .ref q0), (1, .int p_0)]) hx hb d_Md_minutes_100 hl (k := 2) rfl rfl (by decide) rfl (fun ls hl => ?_)
                    refine lv_goto (tgt := 27) hx hb d_Md_minutes_103 (by decide) ?_
                    exact ih_6 (n_6 - 1) (ms_1 ((fun (a_0 : Int32) (a_1 : Int32) (k_0 : ¬ (a_0 ≤ a_1)) (k_1 : ¬ (1440 < a_0)) => (show 1 ≤ (1440 : Int32).toInt - (a_1).toInt ∧ (1440 : Int32).toInt - ((a_1) + (1 : Int32)).toInt + 1 ≤ (1440 : Int32).toInt - (a_1).toInt from by have z0 : (1 : Int32).toInt = 1 := (by decide +kernel); have z1 : (1440 : Int32).toInt = 1440 := (by decide +kernel); have r0 := fb_rng (a_0); have r1 := fb_rng (a_1); have e0 := k_0; rw [Int32.le_iff_toInt_le] at e0; have e1 := k_1; rw [Int32.lt_iff_toInt_lt, z1] at e1; obtain ⟨n_0, hn_0, s0⟩ := nd_add (x := (a_1)) (y := (1 : Int32)) (by (try rw [z0]); omega) (by (try rw [z0]); omega); rw [z0] at s0; rw [hn_0]; (try rw [z1]); omega)) p_0 v2_6 c_8 c_4) hm_6) (v2_6 + 1) _ _ _ _ _ hP hD hS hO_5 (((((hE_1.trans hE_2).trans hE_3).trans hE_4).trans hE_5).mono (by decide +kernel)) (show ¬ ((v2_6 + 1) < 0) from by have e0 := iv0_6; rw [Int32.lt_iff_toInt_lt] at e0; have e1 := iv1_6; rw [Int32.lt_iff_toInt_lt] at e1; have z0 : (0 : Int32).toInt = 0 := (by decide +kernel); have z1 : (1 : Int32).toInt = 1 := (by decide +kernel); have z2 : (1440 : Int32).toInt = 1440 := (by decide +kernel); have ss := fb_addI (x := v2_6) (y := 1) (by omega) (by omega); rw [Int32.lt_iff_toInt_lt]; omega) (show ¬ (1440 < (v2_6 + 1)) from ((fun (a_0 : Int32) (a_1 : Int32) (k_0 : ¬ (a_0 ≤ a_1)) (k_1 : ¬ (1440 < a_0)) => (show ¬ (1440 < (a_1 + 1)) from by have z0 : (1 : Int32).toInt = 1 := (by decide +kernel); have z1 : (1440 : Int32).toInt = 1440 := (by decide +kernel); have r0 := fb_rng (a_0); have r1 := fb_rng (a_1); have e0 := k_0; rw [Int32.le_iff_toInt_le] at e0; have e1 := k_1; rw [Int32.lt_iff_toInt_lt, z1] at e1; obtain ⟨n_0, hn_0, s0⟩ := nd_add (x := (a_1)) (y := (1 : Int32)) (by (try rw [z0]); omega) (by (try rw [z0]); omega); rw [z0] at s0; rw [hn_0, Int32.lt_iff_toInt_lt, z1]; omega)) p_0 v2_6 c_8 c_4)) (by rw [show ti f_5 q0 1 = ((ti f_1 q0 1) + 1) from ((hE_5.ei (hA_4.m m0) rfl).trans ((hE_4.ei (hA_3.m m0) rfl).trans ((hE_3.ei (hA_2.m m0) rfl).trans w_9)))]; first | done | exact (show ((ti f_1 q0 1) + 1) = ((ti f q0 1) + (v2_6 + 1)) from ((fun (a_0 : Int32) (a_1 : Int32) (a_2 : Int32) (a_3 : Int32) (k_0 : ¬ (359999 < a_1)) (k_1 : ¬ (a_3 < 0)) (k_2 : ¬ (a_0 ≤ a_3)) (k_3 : ¬ (1440 < a_0)) (k_4 : a_2 = (a_1 + a_3)) => (show (a_2 + 1) = (a_1 + (a_3 + 1)) from by have z0 : (0 : Int32).toInt = 0 := (by decide +kernel); have z1 : (1 : Int32).toInt = 1 := (by decide +kernel); have z2 : (1440 : Int32).toInt = 1440 := (by decide +kernel); have z3 : (359999 : Int32).toInt = 359999 := (by decide +kernel); have r0 := fb_rng (a_0); have r1 := fb_rng (a_1); have r2 := fb_rng (a_2); have r3 := fb_rng (a_3); have e0 := k_0; rw [Int32.lt_iff_toInt_lt, z3] at e0; have e1 := k_1; rw [Int32.lt_iff_toInt_lt, z0] at e1; have e2 := k_2; rw [Int32.le_iff_toInt_le] at e2; have e3 := k_3; rw [Int32.lt_iff_toInt_lt, z2] at e3; obtain ⟨n_0, hn_0, s0⟩ := nd_add (x := a_1) (y := (a_3)) (by omega) (by omega); have e4 := k_4; rw [hn_0, ← Int32.toInt_inj] at e4; obtain ⟨n_1, hn_1, s1⟩ := nd_add (x := a_2) (y := (1 : Int32)) (by (try rw [z1]); omega) (by (try rw [z1]); omega); rw [z1] at s1; obtain ⟨n_2, hn_2, s2⟩ := nd_add (x := (a_3)) (y := (1 : Int32)) (by (try rw [z1]); omega) (by (try rw [z1]); omega); rw [z1] at s2; obtain ⟨n_3, hn_3, s3⟩ := nd_add (x := a_1) (y := n_2) (by omega) (by omega); rw [hn_1, hn_2, hn_3, ← Int32.toInt_inj]; omega)) p_0 (ti f q0 1) (ti f_1 q0 1) v2_6 bs_1.2 iv0_6 c_8 c_4 iv2_6))) (by exact ms_2 ((fun (a_0 : Int32) (a_1 : Int32) (k_0 : ¬ (a_0 ≤ a_1)) (k_1 : ¬ (1440 < a_0)) => (show 1 ≤ (1440 : Int32).toInt - (a_1).toInt ∧ (1440 : Int32).toInt - ((a_1) + (1 : Int32)).toInt + 1 ≤ (1440 : Int32).toInt - (a_1).toInt from by have z0 : (1 : Int32).toInt = 1 := (by decide +kernel); have z1 : (1440 : Int32).toInt = 1440 := (by decide +kernel); have r0 := fb_rng (a_0); have r1 := fb_rng (a_1); have e0 := k_0; rw [Int32.le_iff_toInt_le] at e0; have e1 := k_1; rw [Int32.lt_iff_toInt_lt, z1] at e1; obtain ⟨n_0, hn_0, s0⟩ := nd_add (x := (a_1)) (y := (1 : Int32)) (by (try rw [z0]); omega) (by (try rw [z0]); omega); rw [z0] at s0; rw [hn_0]; (try rw [z1]); omega)) p_0 v2_6 c_8 c_4) hm_6) (by rw [← hrec_6, wpR_Md_minutes_w_27_6_pos (ms_3 ((fun (a_0 : Int32) (a_1 : Int32) (k_0 : ¬ (a_0 ≤ a_1)) (k_1 : ¬ (1440 < a_0)) => (show 1 ≤ (1440 : Int32).toInt - (a_1).toInt ∧ (1440 : Int32).toInt - ((a_1) + (1 : Int32)).toInt + 1 ≤ (1440 : Int32).toInt - (a_1).toInt from by have z0 : (1 : Int32).toInt = 1 := (by decide +kernel); have z1 : (1440 : Int32).toInt = 1440 := (by decide +kernel); have r0 := fb_rng (a_0); have r1 := fb_rng (a_1); have e0 := k_0; rw [Int32.le_iff_toInt_le] at e0; have e1 := k_1; rw [Int32.lt_iff_toInt_lt, z1] at e1; obtain ⟨n_0, hn_0, s0⟩ := nd_add (x := (a_1)) (y := (1 : Int32)) (by (try rw [z0]); omega) (by (try rw [z0]); omega); rw [z0] at s0; rw [hn_0]; (try rw [z1]); omega)) p_0 v2_6 c_8 c_4) hm_6)] at hQ; exact hQ) (lv_sub hl [1, 2, 0] rfl)
              · have hQ := hQ.2 c_12
                refine lv_goto (tgt := 100) hx hb d_Md_minutes_57 (by decide) ?_
                refine lv_iinc (v := (v2_6 + 1)) (lv' := [(2, .int (v2_6 + 1)), (0, .ref q0), (1, .int p_0)]) hx hb d_Md_minutes_100 hl (k := 2) rfl rfl (by decide) rfl (fun ls hl => ?_)
                refine lv_goto (tgt := 27) hx hb d_Md_minutes_103 (by decide) ?_
                exact ih_6 (n_6 - 1) (ms_1 ((fun (a_0 : Int32) (a_1 : Int32) (k_0 : ¬ (a_0 ≤ a_1)) (k_1 : ¬ (1440 < a_0)) => (show 1 ≤ (1440 : Int32).toInt - (a_1).toInt ∧ (1440 : Int32).toInt - ((a_1) + (1 : Int32)).toInt + 1 ≤ (1440 : Int32).toInt - (a_1).toInt from by have z0 : (1 : Int32).toInt = 1 := (by decide +kernel); have z1 : (1440 : Int32).toInt = 1440 := (by decide +kernel); have r0 := fb_rng (a_0); have r1 := fb_rng (a_1); have e0 := k_0; rw [Int32.le_iff_toInt_le] at e0; have e1 := k_1; rw [Int32.lt_iff_toInt_lt, z1] at e1; obtain ⟨n_0, hn_0, s0⟩ := nd_add (x := (a_1)) (y := (1 : Int32)) (by (try rw [z0]); omega) (by (try rw [z0]); omega); rw [z0] at s0; rw [hn_0]; (try rw [z1]); omega)) p_0 v2_6 c_8 c_4) hm_6) (v2_6 + 1) _ _ _ _ _ hP hD hS hO_3 (((hE_1.trans hE_2).trans hE_3).mono (by decide +kernel)) (show ¬ ((v2_6 + 1) < 0) from by have e0 := iv0_6; rw [Int32.lt_iff_toInt_lt] at e0; have e1 := iv1_6; rw [Int32.lt_iff_toInt_lt] at e1; have z0 : (0 : Int32).toInt = 0 := (by decide +kernel); have z1 : (1 : Int32).toInt = 1 := (by decide +kernel); have z2 : (1440 : Int32).toInt = 1440 := (by decide +kernel); have ss := fb_addI (x := v2_6) (y := 1) (by omega) (by omega); rw [Int32.lt_iff_toInt_lt]; omega) (show ¬ (1440 < (v2_6 + 1)) from ((fun (a_0 : Int32) (a_1 : Int32) (k_0 : ¬ (a_0 ≤ a_1)) (k_1 : ¬ (1440 < a_0)) => (show ¬ (1440 < (a_1 + 1)) from by have z0 : (1 : Int32).toInt = 1 := (by decide +kernel); have z1 : (1440 : Int32).toInt = 1440 := (by decide +kernel); have r0 := fb_rng (a_0); have r1 := fb_rng (a_1); have e0 := k_0; rw [Int32.le_iff_toInt_le] at e0; have e1 := k_1; rw [Int32.lt_iff_toInt_lt, z1] at e1; obtain ⟨n_0, hn_0, s0⟩ := nd_add (x := (a_1)) (y := (1 : Int32)) (by (try rw [z0]); omega) (by (try rw [z0]); omega); rw [z0] at s0; rw [hn_0, Int32.lt_iff_toInt_lt, z1]; omega)) p_0 v2_6 c_8 c_4)) (by rw [show ti f_3 q0 1 = ((ti f_1 q0 1) + 1) from ((hE_3.ei (hA_2.m m0) rfl).trans w_9)]; first | done | exact (show ((ti f_1 q0 1) + 1) = ((ti f q0 1) + (v2_6 + 1)) from ((fun (a_0 : Int32) (a_1 : Int32) (a_2 : Int32) (a_3 : Int32) (k_0 : ¬ (359999 < a_1)) (k_1 : ¬ (a_3 < 0)) (k_2 : ¬ (a_0 ≤ a_3)) (k_3 : ¬ (1440 < a_0)) (k_4 : a_2 = (a_1 + a_3)) => (show (a_2 + 1) = (a_1 + (a_3 + 1)) from by have z0 : (0 : Int32).toInt = 0 := (by decide +kernel); have z1 : (1 : Int32).toInt = 1 := (by decide +kernel); have z2 : (1440 : Int32).toInt = 1440 := (by decide +kernel); have z3 : (359999 : Int32).toInt = 359999 := (by decide +kernel); have r0 := fb_rng (a_0); have r1 := fb_rng (a_1); have r2 := fb_rng (a_2); have r3 := fb_rng (a_3); have e0 := k_0; rw [Int32.lt_iff_toInt_lt, z3] at e0; have e1 := k_1; rw [Int32.lt_iff_toInt_lt, z0] at e1; have e2 := k_2; rw [Int32.le_iff_toInt_le] at e2; have e3 := k_3; rw [Int32.lt_iff_toInt_lt, z2] at e3; obtain ⟨n_0, hn_0, s0⟩ := nd_add (x := a_1) (y := (a_3)) (by omega) (by omega); have e4 := k_4; rw [hn_0, ← Int32.toInt_inj] at e4; obtain ⟨n_1, hn_1, s1⟩ := nd_add (x := a_2) (y := (1 : Int32)) (by (try rw [z1]); omega) (by (try rw [z1]); omega); rw [z1] at s1; obtain ⟨n_2, hn_2, s2⟩ := nd_add (x := (a_3)) (y := (1 : Int32)) (by (try rw [z1]); omega) (by (try rw [z1]); omega); rw [z1] at s2; obtain ⟨n_3, hn_3, s3⟩ := nd_add (x := a_1) (y := n_2) (by omega) (by omega); rw [hn_1, hn_2, hn_3, ← Int32.toInt_inj]; omega)) p_0 (ti f q0 1) (ti f_1 q0 1) v2_6 bs_1.2 iv0_6 c_8 c_4 iv2_6))) (by exact ms_2 ((fun (a_0 : Int32) (a_1 : Int32) (k_0 : ¬ (a_0 ≤ a_1)) (k_1 : ¬ (1440 < a_0)) => (show 1 ≤ (1440 : Int32).toInt - (a_1).toInt ∧ (1440 : Int32).toInt - ((a_1) + (1 : Int32)).toInt + 1 ≤ (1440 : Int32).toInt - (a_1).toInt from by have z0 : (1 : Int32).toInt = 1 := (by decide +kernel); have z1 : (1440 : Int32).toInt = 1440 := (by decide +kernel); have r0 := fb_rng (a_0); have r1 := fb_rng (a_1); have e0 := k_0; rw [Int32.le_iff_toInt_le] at e0; have e1 := k_1; rw [Int32.lt_iff_toInt_lt, z1] at e1; obtain ⟨n_0, hn_0, s0⟩ := nd_add (x := (a_1)) (y := (1 : Int32)) (by (try rw [z0]); omega) (by (try rw [z0]); omega); rw [z0] at s0; rw [hn_0]; (try rw [z1]); omega)) p_0 v2_6 c_8 c_4) hm_6) (by rw [← hrec_6, wpR_Md_minutes_w_27_6_pos (ms_3 ((fun (a_0 : Int32) (a_1 : Int32) (k_0 : ¬ (a_0 ≤ a_1)) (k_1 : ¬ (1440 < a_0)) => (show 1 ≤ (1440 : Int32).toInt - (a_1).toInt ∧ (1440 : Int32).toInt - ((a_1) + (1 : Int32)).toInt + 1 ≤ (1440 : Int32).toInt - (a_1).toInt from by have z0 : (1 : Int32).toInt = 1 := (by decide +kernel); have z1 : (1440 : Int32).toInt = 1440 := (by decide +kernel); have r0 := fb_rng (a_0); have r1 := fb_rng (a_1); have e0 := k_0; rw [Int32.le_iff_toInt_le] at e0; have e1 := k_1; rw [Int32.lt_iff_toInt_lt, z1] at e1; obtain ⟨n_0, hn_0, s0⟩ := nd_add (x := (a_1)) (y := (1 : Int32)) (by (try rw [z0]); omega) (by (try rw [z0]); omega); rw [z0] at s0; rw [hn_0]; (try rw [z1]); omega)) p_0 v2_6 c_8 c_4) hm_6)] at hQ; exact hQ) (lv_sub hl [1, 2, 0] rfl)
        exact cut_6 ((1440 : Int32).toInt - (0 : Int32).toInt).toNat (0 : Int32) _ _ _ _ _ hP hD hS hO_0 Ext.rf (by decide +kernel) (by decide +kernel) (show (ti f q0 1) = ((ti f q0 1) + 0) from ((fun (a_0 : Int32)  => (show a_0 = (a_0 + 0) from by have z0 : (0 : Int32).toInt = 0 := (by decide +kernel); have r0 := fb_rng (a_0); obtain ⟨n_0, hn_0, s0⟩ := nd_add (x := a_0) (y := (0 : Int32)) (by (try rw [z0]); omega) (by (try rw [z0]); omega); rw [z0] at s0; rw [hn_0, ← Int32.toInt_inj]; omega)) (ti f q0 1) )) (by exact ms_e _ _) hQ (lv_sub hl [1, 2, 0] rfl)
      · have hQ := hQ.2 c_5
        refine lv_iconst (v := (-1)) hx hb d_Md_minutes_23 (by decide +kernel) ?_
        refine W.widen (k := 0) (n := 0) (Nat.le_of_ble_eq_true rfl) (Nat.le_of_ble_eq_true rfl) ?_
        exact W.iret (v := (-1)) hx hb hr (fun t ht hW => ⟨⟨(-1), (L, f), rfl, ⟨hO_0, hA_0.mono (by decide +kernel), trivial, hQ⟩, by rw [ht]; exact hP, va_K.moved hW.alike hK, by rw [hAe]; exact hD⟩, by rw [hAe]; exact hS.F ht⟩) (by rw [hAe]; exact hS.2.2) d_Md_minutes_24
def wp_Tp_hasRoomForFive_w (L : List Nat) (f : TF) (q0 : Nat) (Q : Int32 → Prop) : Prop := ∀ x_1 : Int32, ti f q0 1 = x_1 → ((380 < x_1 → Q 0) ∧ (¬ (380 < x_1) → Q 1))
set_option maxHeartbeats 4000000 in
set_option maxRecDepth 100000 in
theorem c_Tp_hasRoomForFive_w (l : Launch) (dC : Nat → ClassId) (dI : Nat → Nat → Nat) (ct : Nat → ClassId) (L : List Nat) (f : TF) (hO_0 : Ok L f) (q0 : Nat) (m0 : q0 ∈ L ∧ tk f q0 = 10)    (Q : Int32 → Prop) (hQ : wp_Tp_hasRoomForFive_w L f q0 Q) : Met l y_Tp_hasRoomForFive (.code y_Tp_hasRoomForFive b_Tp_hasRoomForFive 1 (some .boolean) :: TB) ({ frames := 0, cells := 0, slots := 0, locals := 0 }) (va_Pc [.ref q0] (PR dC dI (TW ct L f) (TT ct))) (vp_Si (fun r => ((r = 0 ∧ True) ∨ (r = 1 ∧ True)) ∧ Q r)) 0 0 (fun _ => False) := by
  refine Met.ofW (cc := b_Tp_hasRoomForFive) (maxL := 1) (ret := (some .boolean)) (by decide) rfl ?_
  intro p e s m args below meth c s₁ B hml hv
  obtain ⟨rfl, hP, hK, hN⟩ := hv
  have hx := B.exec
  have hb := B.bytes
  have hr := B.returns
  have hts := atoms_spec (ws := (.code y_Tp_hasRoomForFive b_Tp_hasRoomForFive 1 (some .boolean) :: TB)) B.pre
  have htb := fun w (h : w ∈ TB) => hts w (List.mem_cons_of_mem _ h)
  have hown : s.vm.findClass R_Tp = some m.cls := findClass_of_methodNamed B.named
  have hlocks := B.notSynchronized
  have hl := lv_entry ([.ref q0]) (n := 1) (Nat.le_of_ble_eq_true rfl)
  rw [lg_entry_eq]
  generalize (lg_sl ([.ref q0]) ++ List.replicate (1 - (lg_sl ([.ref q0])).length) Slot.unset).toArray = ls at hl ⊢
  have hl : lv_has ls 1 [(0, .ref q0)] := hl
  unfold wp_Tp_hasRoomForFive_w at hQ
  refine lv_aload_n hx hb d_Tp_hasRoomForFive_0 rfl (lv_at hl 0 rfl) ?_
  refine tw_geti (D := (dC, dI)) (C := R_Tp) (T := F_Tp) (N := 6) (ci := 4) (kd := 10) (ct := ct) hx hb htb i_Tp hown hK hP hO_0 m0 rfl rfl 1 (by decide) (htb (.fieldLink R_Tp 15 "WaterMen$Tape" "length" "I") tw_117) (fun _ h9 => h9) rfl d_Tp_hasRoomForFive_1 (fun x_1 e_1 b_1 => ?_)
  have hQ := hQ x_1 e_1
  refine lv_sipush (v := 380) hx hb d_Tp_hasRoomForFive_4 (by decide +kernel) ?_
  refine lv_icmp_gt (tgt := 14) hx hb d_Tp_hasRoomForFive_7 (by decide) (fun c_2 => ?_) (fun c_2 => ?_)
  · have hQ := hQ.1 c_2
    refine lv_iconst (v := 0) hx hb d_Tp_hasRoomForFive_14 (by decide +kernel) ?_
    exact W.zret (v := 0) hx hb hr (by decide +kernel) (fun t ht hW => ⟨0, rfl, ⟨(Or.inl ⟨rfl, trivial⟩), hQ⟩, ht⟩) t_nil d_Tp_hasRoomForFive_15
  · have hQ := hQ.2 c_2
    refine lv_iconst (v := 1) hx hb d_Tp_hasRoomForFive_10 (by decide +kernel) ?_
    refine lv_goto (tgt := 15) hx hb d_Tp_hasRoomForFive_11 (by decide) ?_
    exact W.zret (v := 1) hx hb hr (by decide +kernel) (fun t ht hW => ⟨1, rfl, ⟨(Or.inr ⟨rfl, trivial⟩), hQ⟩, ht⟩) t_nil d_Tp_hasRoomForFive_15
def W_Tp_append_w : List (Nat × Nat) := [(10, 1), (11, 1000)]
def wp_Tp_append_w (L : List Nat) (f : TF) (q0 : Nat) (p_0 : Int32) (Q : List Nat → TF → Prop) : Prop := ∀ x_1 : Int32, ti f q0 1 = x_1 → ((x_1 ≤ 396 → ∀ q_3 : Nat, tr f q0 0 = some q_3 → ∀ f_1 : TF, f_1 = sI f q_3 (x_1 : Int32).toNatClampNeg (vp_nar .byte ((((p_0).toUInt32 >>> ((24 : Int32).toUInt32 &&& Int32.toUInt32 31)).toInt32).toInt8.toInt32)) → Ok L f_1 → ∀ f_2 : TF, f_2 = sI f_1 q_3 ((x_1 + 1) : Int32).toNatClampNeg (vp_nar .byte ((((p_0).toUInt32 >>> ((16 : Int32).toUInt32 &&& Int32.toUInt32 31)).toInt32).toInt8.toInt32)) → Ok L f_2 → ∀ f_3 : TF, f_3 = sI f_2 q_3 ((x_1 + 2) : Int32).toNatClampNeg (vp_nar .byte ((((p_0).toUInt32 >>> ((8 : Int32).toUInt32 &&& Int32.toUInt32 31)).toInt32).toInt8.toInt32)) → Ok L f_3 → ∀ f_4 : TF, f_4 = sI f_3 q_3 ((x_1 + 3) : Int32).toNatClampNeg (vp_nar .byte ((p_0).toInt8.toInt32)) → Ok L f_4 → ∀ f_5 : TF, f_5 = sI f_4 q0 1 (x_1 + 4) → Ok L f_5 → Q L f_5) ∧ (¬ (x_1 ≤ 396) → Q L f))
set_option maxHeartbeats 4000000 in
set_option maxRecDepth 100000 in
theorem c_Tp_append_w (l : Launch) (dC : Nat → ClassId) (dI : Nat → Nat → Nat) (ct : Nat → ClassId) (L : List Nat) (f : TF) (hO_0 : Ok L f) (q0 : Nat) (m0 : q0 ∈ L ∧ tk f q0 = 10) (sz : Nat) (p_0 : Int32)   (Q : List Nat → TF → Prop) (hQ : wp_Tp_append_w L f q0 p_0 Q) : Met l y_Tp_append (.code y_Tp_append b_Tp_append 2 none :: TB) ({ frames := 0, cells := 0, slots := 0, locals := 0 }) (va_Pc [.ref q0, .int p_0] (PC dC dI (TW ct L f) (TT ct) sz)) (va_Qv (fun (u : TSt) => Ok u.1 u.2 ∧ Ext W_Tp_append_w L f u.1 u.2 ∧ (True) ∧ Q u.1 u.2) (fun (u : TSt) t => va_P (dC, dI) vwCl (TW ct u.1 u.2) t.heap ∧ va_K (dC, dI) vwCl (TT ct) t ∧ va_D (va_A (TW ct L f) sz) (TW ct u.1 u.2)) (va_A (TW ct L f) sz)) 0 0 (va_A (TW ct L f) sz) := by
  refine Met.ofW (cc := b_Tp_append) (maxL := 2) (ret := none) (by decide) rfl ?_
  intro p e s m args below meth c s₁ B hml hv
  obtain ⟨rfl, hsz, hP, hK, hD0, hN⟩ := hv
  have hx := B.exec
  have hb := B.bytes
  have hr := B.returns
  have hts := atoms_spec (ws := (.code y_Tp_append b_Tp_append 2 none :: TB)) B.pre
  have htb := fun w (h : w ∈ TB) => hts w (List.mem_cons_of_mem _ h)
  have hown : s.vm.findClass R_Tp = some m.cls := findClass_of_methodNamed B.named
  have hlocks := B.notSynchronized
  have hl := lv_entry ([.ref q0, .int p_0]) (n := 2) (Nat.le_of_ble_eq_true rfl)
  rw [lg_entry_eq]
  generalize (lg_sl ([.ref q0, .int p_0]) ++ List.replicate (2 - (lg_sl ([.ref q0, .int p_0])).length) Slot.unset).toArray = ls at hl ⊢
  have hl : lv_has ls 2 [(0, .ref q0), (1, .int p_0)] := hl
  subst hsz
  have hD := hD0.self (sz := s.heap.size)
  obtain ⟨A, hAe⟩ : ∃ A, va_A (TW ct L f) s.heap.size = A := ⟨_, rfl⟩
  rw [hAe] at hD
  have hA : ∀ q : Nat, s.heap.size ≤ q → A q := fun q h => by rw [← hAe]; exact Or.inr h
  have hS : va_S A s.heap s.heap [] := va_S.rf
  have hA_0 : Ext [] L f L f := Ext.rf
  suffices hGo : ∀ (H : Heap) (locs : List Loc), va_P (dC, dI) vwCl (TW ct L f) H → va_S A s.heap H locs → W p l e (headSpec (.code y_Tp_append b_Tp_append 2 none :: TB) ({ frames := 0, cells := 0, slots := 0, locals := 0 })).room s m [.ref q0, .int p_0].toArray below meth c H locs 0 0 (MQ below (va_Qv (fun (u : TSt) => Ok u.1 u.2 ∧ Ext W_Tp_append_w L f u.1 u.2 ∧ (True) ∧ Q u.1 u.2) (fun (u : TSt) t => va_P (dC, dI) vwCl (TW ct u.1 u.2) t.heap ∧ va_K (dC, dI) vwCl (TT ct) t ∧ va_D (va_A (TW ct L f) s.heap.size) (TW ct u.1 u.2)) (va_A (TW ct L f) s.heap.size)) [.ref q0, .int p_0].toArray s 0 0 (va_A (TW ct L f) s.heap.size)) (F0 m 0 ls []) from hGo _ _ hP hS
  clear hP hS
  intro H locs hP hS
  unfold wp_Tp_append_w at hQ
  refine lv_aload_n hx hb d_Tp_append_0 rfl (lv_at hl 0 rfl) ?_
  refine tw_geti (D := (dC, dI)) (C := R_Tp) (T := F_Tp) (N := 6) (ci := 4) (kd := 10) (ct := ct) hx hb htb i_Tp hown hK hP hO_0 m0 rfl rfl 1 (by decide) (htb (.fieldLink R_Tp 15 "WaterMen$Tape" "length" "I") tw_117) (fun _ h9 => h9) rfl d_Tp_append_1 (fun x_1 e_1 b_1 => ?_)
  have hQ := hQ x_1 e_1
  refine lv_sipush (v := 396) hx hb d_Tp_append_4 (by decide +kernel) ?_
  refine lv_icmp_le (tgt := 11) hx hb d_Tp_append_7 (by decide) (fun c_2 => ?_) (fun c_2 => ?_)
  · have hQ := hQ.1 c_2
    refine lv_aload_n hx hb d_Tp_append_11 rfl (lv_at hl 0 rfl) ?_
    refine tw_getr (D := (dC, dI)) (C := R_Tp) (T := F_Tp) (N := 6) (ci := 4) (kd := 10) (ct := ct) hx hb htb i_Tp hown hK hP hO_0 m0 rfl rfl 0 (by decide) (htb (.fieldLink R_Tp 9 "WaterMen$Tape" "bytes" "[B") tw_118) (fun _ h9 => h9) rfl d_Tp_append_12 (fun q_3 e_3 m_3 => ?_)
    have hQ := hQ q_3 e_3
    refine lv_aload_n hx hb d_Tp_append_15 rfl (lv_at hl 0 rfl) ?_
    refine tw_getI (x := x_1) (D := (dC, dI)) (C := R_Tp) (T := F_Tp) (N := 6) (ci := 4) (kd := 10) (ct := ct) hx hb htb i_Tp hown hK hP m0 rfl rfl 1 e_1 (by decide) (htb (.fieldLink R_Tp 15 "WaterMen$Tape" "length" "I") tw_117) (fun _ h9 => h9) rfl d_Tp_append_16 ?_
    refine lv_iload_n hx hb d_Tp_append_19 rfl (lv_at hl 1 rfl) ?_
    refine lv_bipush (v := 24) hx hb d_Tp_append_20 (by decide +kernel) ?_
    refine lv_iushr hx hb d_Tp_append_22 rfl ?_
    refine lv_i2b hx hb d_Tp_append_23 rfl ?_
    refine tw_astB (ct := ct) (x := (((p_0).toUInt32 >>> ((24 : Int32).toUInt32 &&& Int32.toUInt32 31)).toInt32).toInt8.toInt32) hx hb hK hP hD hS hO_0 m_3 rfl ((fun (a_0 : Int32) (k_0 : ¬ (a_0 < 0)) (k_1 : a_0 ≤ 396) => (show vp_in (a_0) 400 from by have z0 : (0 : Int32).toInt = 0 := (by decide +kernel); have z1 : (396 : Int32).toInt = 396 := (by decide +kernel); have r0 := fb_rng (a_0); have e0 := k_0; rw [Int32.lt_iff_toInt_lt, z0] at e0; have e1 := k_1; rw [Int32.le_iff_toInt_le, z1] at e1; rw [vp_in_iff]; omega)) x_1 b_1.1 c_2) (i32_full _) d_Tp_append_24 (fun f_1 H locs hP hD hS hO_1 hE_1 w_4 ow_4 hF_1 => ?_)
    have hA_1 := hA_0.trans hE_1
    have hQ := hQ f_1 hF_1
    have hQ := hQ hO_1
    refine lv_aload_n hx hb d_Tp_append_25 rfl (lv_at hl 0 rfl) ?_
    refine tw_getR (D := (dC, dI)) (C := R_Tp) (T := F_Tp) (N := 6) (ci := 4) (kd := 10) (ct := ct) hx hb htb i_Tp hown hK hP (hA_1.m m0) rfl rfl 0 ((hA_1.er m0 rfl).trans e_3) (by decide) (htb (.fieldLink R_Tp 9 "WaterMen$Tape" "bytes" "[B") tw_118) (fun _ h9 => h9) rfl d_Tp_append_26 ?_
    refine hb_tv (.ref q_3) rfl ?_
    refine lv_aload_n hx hb d_Tp_append_29 rfl (lv_at hl 0 rfl) ?_
    refine tw_getI (x := x_1) (D := (dC, dI)) (C := R_Tp) (T := F_Tp) (N := 6) (ci := 4) (kd := 10) (ct := ct) hx hb htb i_Tp hown hK hP (hA_1.m m0) rfl rfl 1 ((hA_1.ei m0 rfl).trans e_1) (by decide) (htb (.fieldLink R_Tp 15 "WaterMen$Tape" "length" "I") tw_117) (fun _ h9 => h9) rfl d_Tp_append_30 ?_
    refine lv_iconst (v := 1) hx hb d_Tp_append_33 (by decide +kernel) ?_
    refine lv_iadd hx hb d_Tp_append_34 ?_
    refine lv_iload_n hx hb d_Tp_append_35 rfl (lv_at hl 1 rfl) ?_
    refine lv_bipush (v := 16) hx hb d_Tp_append_36 (by decide +kernel) ?_
    refine lv_iushr hx hb d_Tp_append_38 rfl ?_
    refine lv_i2b hx hb d_Tp_append_39 rfl ?_
    refine tw_astB (ct := ct) (x := (((p_0).toUInt32 >>> ((16 : Int32).toUInt32 &&& Int32.toUInt32 31)).toInt32).toInt8.toInt32) hx hb hK hP hD hS hO_1 (hA_1.m m_3) rfl ((fun (a_0 : Int32) (k_0 : ¬ (a_0 < 0)) (k_1 : a_0 ≤ 396) => (show vp_in ((a_0 + 1)) 400 from by have z0 : (0 : Int32).toInt = 0 := (by decide +kernel); have z1 : (1 : Int32).toInt = 1 := (by decide +kernel); have z2 : (396 : Int32).toInt = 396 := (by decide +kernel); have r0 := fb_rng (a_0); have e0 := k_0; rw [Int32.lt_iff_toInt_lt, z0] at e0; have e1 := k_1; rw [Int32.le_iff_toInt_le, z2] at e1; obtain ⟨n_0, hn_0, s0⟩ := nd_add (x := (a_0)) (y := (1 : Int32)) (by (try rw [z1]); omega) (by (try rw [z1]); omega); rw [z1] at s0; rw [hn_0, vp_in_iff]; omega)) x_1 b_1.1 c_2) (i32_full _) d_Tp_append_40 (fun f_2 H locs hP hD hS hO_2 hE_2 w_5 ow_5 hF_2 => ?_)
    have hA_2 := hA_1.trans hE_2
    have hQ := hQ f_2 hF_2
    have hQ := hQ hO_2
    refine lv_aload_n hx hb d_Tp_append_41 rfl (lv_at hl 0 rfl) ?_
    refine tw_getR (D := (dC, dI)) (C := R_Tp) (T := F_Tp) (N := 6) (ci := 4) (kd := 10) (ct := ct) hx hb htb i_Tp hown hK hP (hA_2.m m0) rfl rfl 0 ((hA_2.er m0 rfl).trans e_3) (by decide) (htb (.fieldLink R_Tp 9 "WaterMen$Tape" "bytes" "[B") tw_118) (fun _ h9 => h9) rfl d_Tp_append_42 ?_
    refine hb_tv (.ref q_3) rfl ?_
    refine lv_aload_n hx hb d_Tp_append_45 rfl (lv_at hl 0 rfl) ?_
    refine tw_getI (x := x_1) (D := (dC, dI)) (C := R_Tp) (T := F_Tp) (N := 6) (ci := 4) (kd := 10) (ct := ct) hx hb htb i_Tp hown hK hP (hA_2.m m0) rfl rfl 1 ((hA_2.ei m0 rfl).trans e_1) (by decide) (htb (.fieldLink R_Tp 15 "WaterMen$Tape" "length" "I") tw_117) (fun _ h9 => h9) rfl d_Tp_append_46 ?_
    refine lv_iconst (v := 2) hx hb d_Tp_append_49 (by decide +kernel) ?_
    refine lv_iadd hx hb d_Tp_append_50 ?_
    refine lv_iload_n hx hb d_Tp_append_51 rfl (lv_at hl 1 rfl) ?_
    refine lv_bipush (v := 8) hx hb d_Tp_append_52 (by decide +kernel) ?_
    refine lv_iushr hx hb d_Tp_append_54 rfl ?_
    refine lv_i2b hx hb d_Tp_append_55 rfl ?_
    refine tw_astB (ct := ct) (x := (((p_0).toUInt32 >>> ((8 : Int32).toUInt32 &&& Int32.toUInt32 31)).toInt32).toInt8.toInt32) hx hb hK hP hD hS hO_2 (hA_2.m m_3) rfl ((fun (a_0 : Int32) (k_0 : ¬ (a_0 < 0)) (k_1 : a_0 ≤ 396) => (show vp_in ((a_0 + 2)) 400 from by have z0 : (0 : Int32).toInt = 0 := (by decide +kernel); have z1 : (2 : Int32).toInt = 2 := (by decide +kernel); have z2 : (396 : Int32).toInt = 396 := (by decide +kernel); have r0 := fb_rng (a_0); have e0 := k_0; rw [Int32.lt_iff_toInt_lt, z0] at e0; have e1 := k_1; rw [Int32.le_iff_toInt_le, z2] at e1; obtain ⟨n_0, hn_0, s0⟩ := nd_add (x := (a_0)) (y := (2 : Int32)) (by (try rw [z1]); omega) (by (try rw [z1]); omega); rw [z1] at s0; rw [hn_0, vp_in_iff]; omega)) x_1 b_1.1 c_2) (i32_full _) d_Tp_append_56 (fun f_3 H locs hP hD hS hO_3 hE_3 w_6 ow_6 hF_3 => ?_)
    have hA_3 := hA_2.trans hE_3
    have hQ := hQ f_3 hF_3
    have hQ := hQ hO_3
    refine lv_aload_n hx hb d_Tp_append_57 rfl (lv_at hl 0 rfl) ?_
    refine tw_getR (D := (dC, dI)) (C := R_Tp) (T := F_Tp) (N := 6) (ci := 4) (kd := 10) (ct := ct) hx hb htb i_Tp hown hK hP (hA_3.m m0) rfl rfl 0 ((hA_3.er m0 rfl).trans e_3) (by decide) (htb (.fieldLink R_Tp 9 "WaterMen$Tape" "bytes" "[B") tw_118) (fun _ h9 => h9) rfl d_Tp_append_58 ?_
    refine hb_tv (.ref q_3) rfl ?_
    refine lv_aload_n hx hb d_Tp_append_61 rfl (lv_at hl 0 rfl) ?_
    refine tw_getI (x := x_1) (D := (dC, dI)) (C := R_Tp) (T := F_Tp) (N := 6) (ci := 4) (kd := 10) (ct := ct) hx hb htb i_Tp hown hK hP (hA_3.m m0) rfl rfl 1 ((hA_3.ei m0 rfl).trans e_1) (by decide) (htb (.fieldLink R_Tp 15 "WaterMen$Tape" "length" "I") tw_117) (fun _ h9 => h9) rfl d_Tp_append_62 ?_
    refine lv_iconst (v := 3) hx hb d_Tp_append_65 (by decide +kernel) ?_
    refine lv_iadd hx hb d_Tp_append_66 ?_
    refine lv_iload_n hx hb d_Tp_append_67 rfl (lv_at hl 1 rfl) ?_
    refine lv_i2b hx hb d_Tp_append_68 rfl ?_
    refine tw_astB (ct := ct) (x := (p_0).toInt8.toInt32) hx hb hK hP hD hS hO_3 (hA_3.m m_3) rfl ((fun (a_0 : Int32) (k_0 : ¬ (a_0 < 0)) (k_1 : a_0 ≤ 396) => (show vp_in ((a_0 + 3)) 400 from by have z0 : (0 : Int32).toInt = 0 := (by decide +kernel); have z1 : (3 : Int32).toInt = 3 := (by decide +kernel); have z2 : (396 : Int32).toInt = 396 := (by decide +kernel); have r0 := fb_rng (a_0); have e0 := k_0; rw [Int32.lt_iff_toInt_lt, z0] at e0; have e1 := k_1; rw [Int32.le_iff_toInt_le, z2] at e1; obtain ⟨n_0, hn_0, s0⟩ := nd_add (x := (a_0)) (y := (3 : Int32)) (by (try rw [z1]); omega) (by (try rw [z1]); omega); rw [z1] at s0; rw [hn_0, vp_in_iff]; omega)) x_1 b_1.1 c_2) (i32_full _) d_Tp_append_69 (fun f_4 H locs hP hD hS hO_4 hE_4 w_7 ow_7 hF_4 => ?_)
    have hA_4 := hA_3.trans hE_4
    have hQ := hQ f_4 hF_4
    have hQ := hQ hO_4
    refine lv_aload_n hx hb d_Tp_append_70 rfl (lv_at hl 0 rfl) ?_
    refine lv_dup hx hb d_Tp_append_71 rfl ?_
    refine tw_getI (x := x_1) (D := (dC, dI)) (C := R_Tp) (T := F_Tp) (N := 6) (ci := 4) (kd := 10) (ct := ct) hx hb htb i_Tp hown hK hP (hA_4.m m0) rfl rfl 1 ((hA_4.ei m0 rfl).trans e_1) (by decide) (htb (.fieldLink R_Tp 15 "WaterMen$Tape" "length" "I") tw_117) (fun _ h9 => h9) rfl d_Tp_append_72 ?_
    refine lv_iconst (v := 4) hx hb d_Tp_append_75 (by decide +kernel) ?_
    refine lv_iadd hx hb d_Tp_append_76 ?_
    refine tw_puti (v := (x_1 + 4)) (D := (dC, dI)) (C := R_Tp) (T := F_Tp) (N := 6) (ci := 4) (kd := 10) (ct := ct) (ty := .int) hx hb htb i_Tp t_Tp t_Tp_ok n_Tp hown hK hP hD hS hO_4 (hA_4.m m0) rfl rfl 1 (by decide) (htb (.fieldLink R_Tp 15 "WaterMen$Tape" "length" "I") tw_117) (fun _ h9 => h9) rfl (by decide +kernel) rfl rfl rfl ⟨(show ¬ ((x_1 + 4) < 0) from by have e0 := b_1.1; rw [Int32.lt_iff_toInt_lt] at e0; have e1 := c_2; rw [Int32.le_iff_toInt_le] at e1; have z0 : (0 : Int32).toInt = 0 := (by decide +kernel); have z1 : (4 : Int32).toInt = 4 := (by decide +kernel); have z2 : (396 : Int32).toInt = 396 := (by decide +kernel); have ss := fb_addI (x := x_1) (y := 4) (by omega) (by omega); rw [Int32.lt_iff_toInt_lt]; omega), (show ¬ (400 < (x_1 + 4)) from by have e0 := b_1.1; rw [Int32.lt_iff_toInt_lt] at e0; have e1 := c_2; rw [Int32.le_iff_toInt_le] at e1; have z0 : (0 : Int32).toInt = 0 := (by decide +kernel); have z1 : (4 : Int32).toInt = 4 := (by decide +kernel); have z2 : (396 : Int32).toInt = 396 := (by decide +kernel); have z3 : (400 : Int32).toInt = 400 := (by decide +kernel); have ss := fb_addI (x := x_1) (y := 4) (by omega) (by omega); rw [Int32.lt_iff_toInt_lt]; omega)⟩ d_Tp_append_77 (fun f_5 H locs hP hD hS hO_5 hE_5 w_8 hF_5 => ?_)
    have hA_5 := hA_4.trans hE_5
    have hQ := hQ f_5 hF_5
    have hQ := hQ hO_5
    refine W.widen (k := 0) (n := 0) (Nat.le_of_ble_eq_true rfl) (Nat.le_of_ble_eq_true rfl) ?_
    exact W.vret hx hb hr (fun t ht hW => ⟨⟨(L, f_5), rfl, ⟨hO_5, hA_5.mono (by decide +kernel), trivial, hQ⟩, by rw [ht]; exact hP, va_K.moved hW.alike hK, by rw [hAe]; exact hD⟩, by rw [hAe]; exact hS.F ht⟩) (by rw [hAe]; exact hS.2.2) d_Tp_append_80
  · have hQ := hQ.2 c_2
    refine W.widen (k := 0) (n := 0) (Nat.le_of_ble_eq_true rfl) (Nat.le_of_ble_eq_true rfl) ?_
    exact W.vret hx hb hr (fun t ht hW => ⟨⟨(L, f), rfl, ⟨hO_0, hA_0.mono (by decide +kernel), trivial, hQ⟩, by rw [ht]; exact hP, va_K.moved hW.alike hK, by rw [hAe]; exact hD⟩, by rw [hAe]; exact hS.F ht⟩) (by rw [hAe]; exact hS.2.2) d_Tp_append_10
