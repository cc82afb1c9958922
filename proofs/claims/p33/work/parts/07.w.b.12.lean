def WL_Tp_readInto_w_15_4 : List (Nat × Nat) := [(10, 2), (10, 3), (10, 4), (10, 5), (15, 5), (15, 6), (15, 7), (15, 8), (16, 1000), (17, 1000), (18, 1000)]
def W_Tp_readInto_w : List (Nat × Nat) := [(10, 2), (10, 3), (10, 4), (10, 5), (15, 5), (15, 6), (15, 7), (15, 8), (16, 1000), (17, 1000), (18, 1000)]
def wpB_Tp_readInto_w_15_4 (L : List Nat) (f : TF) (q0 : Nat) (pq_0 : Nat) (L_1 : List Nat) (f_1 : TF) (f_2 : TF) (L_3 : List Nat) (f_3 : TF) (Q : Int32 → List Nat → TF → Prop) (rec_4 : Int32 → List Nat → TF → Prop) (v2_4 : Int32) (L_4 : List Nat) (f_4 : TF) : Prop := Ok L_4 f_4 → Ext WL_Tp_readInto_w_15_4 L_3 f_3 L_4 f_4 → ((400 < v2_4 → ∀ x_6 : Int32, ti f_4 q0 3 = x_6 → Q x_6 L_4 f_4) ∧ (¬ (400 < v2_4) → wp_Tp_readLine_w L_4 f_4 q0 pq_0 (fun (r_7 : Int32) (L_5 : List Nat) (f_5 : TF) => Ok L_5 f_5 → Ext W_Tp_readLine_w L_4 f_4 L_5 f_5 → ((r_7 = 0 → ∀ x_8 : Int32, ti f_5 q0 3 = x_8 → Q x_8 L_5 f_5) ∧ (r_7 = 1 → ∀ x_9 : Int32, ti f_5 q0 2 = x_9 → ((x_9 = 0 → Q (-1) L_5 f_5) ∧ (¬ (x_9 = 0) → rec_4 (v2_4 + 1) L_5 f_5)))))))
def wpL_Tp_readInto_w_15_4 (L : List Nat) (f : TF) (q0 : Nat) (pq_0 : Nat) (L_1 : List Nat) (f_1 : TF) (f_2 : TF) (L_3 : List Nat) (f_3 : TF) (Q : Int32 → List Nat → TF → Prop) : Nat → Int32 → List Nat → TF → Prop
  | 0 => fun v2_4 L_4 f_4 => wpB_Tp_readInto_w_15_4 L f q0 pq_0 L_1 f_1 f_2 L_3 f_3 Q (fun _ _ _ => True) v2_4 L_4 f_4
  | n + 1 => fun v2_4 L_4 f_4 => wpB_Tp_readInto_w_15_4 L f q0 pq_0 L_1 f_1 f_2 L_3 f_3 Q (wpL_Tp_readInto_w_15_4 L f q0 pq_0 L_1 f_1 f_2 L_3 f_3 Q n) v2_4 L_4 f_4
def wpR_Tp_readInto_w_15_4 (L : List Nat) (f : TF) (q0 : Nat) (pq_0 : Nat) (L_1 : List Nat) (f_1 : TF) (f_2 : TF) (L_3 : List Nat) (f_3 : TF) (Q : Int32 → List Nat → TF → Prop) : Nat → Int32 → List Nat → TF → Prop
  | 0 => fun _ _ _ => True
  | n + 1 => wpL_Tp_readInto_w_15_4 L f q0 pq_0 L_1 f_1 f_2 L_3 f_3 Q n
theorem wpL_Tp_readInto_w_15_4_eq {L : List Nat} {f : TF} {q0 : Nat} {pq_0 : Nat} {L_1 : List Nat} {f_1 : TF} {f_2 : TF} {L_3 : List Nat} {f_3 : TF} {Q : Int32 → List Nat → TF → Prop} {n : Nat} : wpL_Tp_readInto_w_15_4 L f q0 pq_0 L_1 f_1 f_2 L_3 f_3 Q n = wpB_Tp_readInto_w_15_4 L f q0 pq_0 L_1 f_1 f_2 L_3 f_3 Q (wpR_Tp_readInto_w_15_4 L f q0 pq_0 L_1 f_1 f_2 L_3 f_3 Q n) := by cases n <;> rfl
theorem wpR_Tp_readInto_w_15_4_pos {L : List Nat} {f : TF} {q0 : Nat} {pq_0 : Nat} {L_1 : List Nat} {f_1 : TF} {f_2 : TF} {L_3 : List Nat} {f_3 : TF} {Q : Int32 → List Nat → TF → Prop} {n : Nat} (h : 0 < n) : wpR_Tp_readInto_w_15_4 L f q0 pq_0 L_1 f_1 f_2 L_3 f_3 Q n = wpL_Tp_readInto_w_15_4 L f q0 pq_0 L_1 f_1 f_2 L_3 f_3 Q (n - 1) := by
  cases n with
  | zero => omega
  | succ n => rfl
def wp_Tp_readInto_w (L : List Nat) (f : TF) (q0 : Nat) (pq_0 : Nat) (Q : Int32 → List Nat → TF → Prop) : Prop := wp_Or_clear_w L f pq_0 (fun (L_1 : List Nat) (f_1 : TF) => Ok L_1 f_1 → Ext W_Or_clear_w L f L_1 f_1 → ∀ f_2 : TF, f_2 = sI f_1 q0 4 0 → Ok L_1 f_2 → wp_Tp_step_w L_1 f_2 q0 (fun (L_3 : List Nat) (f_3 : TF) => Ok L_3 f_3 → Ext W_Tp_step_w L_1 f_2 L_3 f_3 → wpL_Tp_readInto_w_15_4 L f q0 pq_0 L_1 f_1 f_2 L_3 f_3 Q (((401 : Int32).toInt - (0 : Int32).toInt).toNat) (0 : Int32) L_3 f_3))
set_option maxHeartbeats 4000000 in
set_option maxRecDepth 100000 in
theorem c_Tp_readInto_w (l : Launch) (dC : Nat → ClassId) (dI : Nat → Nat → Nat) (ct : Nat → ClassId) (L : List Nat) (f : TF) (hO_0 : Ok L f) (q0 : Nat) (m0 : q0 ∈ L ∧ tk f q0 = 10) (pq_0 : Nat) (pm_0 : pq_0 ∈ L ∧ tk f pq_0 = 15) (adK adV : Nat → Nat) (sz : Nat)    (Q : Int32 → List Nat → TF → Prop) (hQ : wp_Tp_readInto_w L f q0 pq_0 Q) : Met l y_Tp_readInto (.code y_Tp_readInto b_Tp_readInto 3 (some .int) :: TB) ({ frames := 7, cells := 0, slots := 0, locals := 155 }) (va_Pc [.ref q0, .ref pq_0] (PCs dC dI (TW ct L f) (TT ct) adK adV sz)) (va_Qi (fun r (u : TSt) => Ok u.1 u.2 ∧ Ext W_Tp_readInto_w L f u.1 u.2 ∧ ((True)) ∧ Q r u.1 u.2) (fun (u : TSt) t => va_P (dC, dI) vwCl (TW ct u.1 u.2) t.heap ∧ va_K (dC, dI) vwCl (TT ct) t ∧ va_D (va_A (TW ct L f) sz) (TW ct u.1 u.2)) (va_A (TW ct L f) sz)) 0 0 (va_A (TW ct L f) sz) := by
  refine Met.ofW (cc := b_Tp_readInto) (maxL := 3) (ret := (some .int)) (by decide) rfl ?_
  intro p e s m args below meth c s₁ B hml hv
  obtain ⟨rfl, ⟨hsz, hP, hK, hD0, hN⟩, hW0⟩ := hv
  have hx := B.exec
  have hb := B.bytes
  have hr := B.returns
  have hts := atoms_spec (ws := (.code y_Tp_readInto b_Tp_readInto 3 (some .int) :: TB)) B.pre
  have htb := fun w (h : w ∈ TB) => hts w (List.mem_cons_of_mem _ h)
  have hown : s.vm.findClass R_Tp = some m.cls := findClass_of_methodNamed B.named
  have hlocks := B.notSynchronized
  have hl := lv_entry ([.ref q0, .ref pq_0]) (n := 3) (Nat.le_of_ble_eq_true rfl)
  rw [lg_entry_eq]
  generalize (lg_sl ([.ref q0, .ref pq_0]) ++ List.replicate (3 - (lg_sl ([.ref q0, .ref pq_0])).length) Slot.unset).toArray = ls at hl ⊢
  have hl : lv_has ls 3 [(0, .ref q0), (1, .ref pq_0)] := hl
  subst hsz
  have hD := hD0.self (sz := s.heap.size)
  obtain ⟨A, hAe⟩ : ∃ A, va_A (TW ct L f) s.heap.size = A := ⟨_, rfl⟩
  rw [hAe] at hD
  rw [hAe] at hW0
  have hA : ∀ q : Nat, s.heap.size ≤ q → A q := fun q h => by rw [← hAe]; exact Or.inr h
  have hS : va_S A s.heap s.heap [] := va_S.rf
  have hA_0 : Ext [] L f L f := Ext.rf
  suffices hGo : ∀ (H : Heap) (locs : List Loc), va_P (dC, dI) vwCl (TW ct L f) H → va_S A s.heap H locs → W p l e (headSpec (.code y_Tp_readInto b_Tp_readInto 3 (some .int) :: TB) ({ frames := 7, cells := 0, slots := 0, locals := 155 })).room s m [.ref q0, .ref pq_0].toArray below meth c H locs 0 0 (MQ below (va_Qi (fun r (u : TSt) => Ok u.1 u.2 ∧ Ext W_Tp_readInto_w L f u.1 u.2 ∧ ((True)) ∧ Q r u.1 u.2) (fun (u : TSt) t => va_P (dC, dI) vwCl (TW ct u.1 u.2) t.heap ∧ va_K (dC, dI) vwCl (TT ct) t ∧ va_D (va_A (TW ct L f) s.heap.size) (TW ct u.1 u.2)) (va_A (TW ct L f) s.heap.size)) [.ref q0, .ref pq_0].toArray s 0 0 (va_A (TW ct L f) s.heap.size)) (F0 m 0 ls []) from hGo _ _ hP hS
  clear hP hS
  intro H locs hP hS
  unfold wp_Tp_readInto_w at hQ
  refine lv_aload_n hx hb d_Tp_readInto_0 rfl (lv_at hl 1 rfl) ?_
  have hFc := hb_free hD hS hA
  refine va_callv (va_runV (As := []) (rest := []) ⟨hx, hb, hml, hown, htb⟩ (c_Or_clear_w l dC dI ct L f hO_0 pq_0 pm_0 _ _ hQ) (cwV 0 htb (gd_V tw_251 tw_252 tw_253 tw_250 tw_249) rfl rfl rfl (by decide +kernel) ⟨Nat.le_of_ble_eq_true rfl, Nat.le_of_ble_eq_true rfl⟩) ⟨pc_blind, tw_recv hK hP pm_0 rfl rfl, pc_pre hP hK hD hN⟩ rfl rfl hl.1 rfl (lv_room (Nat.le_of_ble_eq_true rfl)) d_Tp_readInto_1 ⟨Nat.le_of_ble_eq_true rfl, Nat.le_of_ble_eq_true rfl⟩) hS (fun q _ h => hFc q h) hFc (fun u t H locs ht hvm er hB hz1 hk1 hS => ?_)
  obtain ⟨L_1, f_1⟩ := u
  obtain ⟨hO_1, hE_1, er, hQ⟩ := er
  obtain ⟨hP, hK1, hD1⟩ := hB
  rw [ht] at hP
  have hP : va_P (dC, dI) vwCl (TW ct L_1 f_1) H := hP
  have hD : va_D A (TW ct L_1 f_1) := hD1.weaken (fun _ q _ h => hFc q.1 h)
  have hO_1 : Ok L_1 f_1 := hO_1
  have hE_1 : Ext W_Or_clear_w L f L_1 f_1 := hE_1
  clear hK1 hD1 ht hvm hz1 hk1
  have hA_1 := hA_0.trans hE_1
  have hQ := hQ hO_1 hE_1
  clear er
  refine lv_aload_n hx hb d_Tp_readInto_4 rfl (lv_at hl 0 rfl) ?_
  refine lv_iconst (v := 0) hx hb d_Tp_readInto_5 (by decide +kernel) ?_
  refine tw_puti (v := 0) (D := (dC, dI)) (C := R_Tp) (T := F_Tp) (N := 6) (ci := 4) (kd := 10) (ct := ct) (ty := .int) hx hb htb i_Tp t_Tp t_Tp_ok n_Tp hown hK hP hD hS hO_1 (hA_1.m m0) rfl rfl 4 (by decide) (htb (.fieldLink R_Tp 24 "WaterMen$Tape" "behind" "I") tw_254) (fun _ h9 => h9) rfl (by decide +kernel) rfl rfl rfl ⟨by decide +kernel, by decide +kernel⟩ d_Tp_readInto_6 (fun f_2 H locs hP hD hS hO_2 hE_2 w_2 hF_2 => ?_)
  have hA_2 := hA_1.trans hE_2
  have hQ := hQ f_2 hF_2
  have hQ := hQ hO_2
  refine lv_aload_n hx hb d_Tp_readInto_9 rfl (lv_at hl 0 rfl) ?_
  have hFc := hb_free hD hS hA
  refine va_callv (va_runV (As := []) (rest := []) ⟨hx, hb, hml, hown, htb⟩ (c_Tp_step_w l dC dI ct L_1 f_2 hO_2 q0 (hA_2.m m0) _ _ hQ) (cwV 0 htb (gd_V tw_273 tw_274 tw_275 tw_177 tw_272) rfl rfl rfl (by decide +kernel) ⟨Nat.le_of_ble_eq_true rfl, Nat.le_of_ble_eq_true rfl⟩) ⟨pc_blind, tw_recv hK hP (hA_2.m m0) rfl rfl, pc_pre hP hK hD hN⟩ rfl rfl hl.1 rfl (lv_room (Nat.le_of_ble_eq_true rfl)) d_Tp_readInto_10 ⟨Nat.le_of_ble_eq_true rfl, Nat.le_of_ble_eq_true rfl⟩) hS (fun q _ h => hFc q h) hFc (fun u t H locs ht hvm er hB hz1 hk1 hS => ?_)
  obtain ⟨L_3, f_3⟩ := u
  obtain ⟨hO_3, hE_3, er, hQ⟩ := er
  obtain ⟨hP, hK1, hD1⟩ := hB
  rw [ht] at hP
  have hP : va_P (dC, dI) vwCl (TW ct L_3 f_3) H := hP
  have hD : va_D A (TW ct L_3 f_3) := hD1.weaken (fun _ q _ h => hFc q.1 h)
  have hO_3 : Ok L_3 f_3 := hO_3
  have hE_3 : Ext W_Tp_step_w L_1 f_2 L_3 f_3 := hE_3
  clear hK1 hD1 ht hvm hz1 hk1
  have hA_3 := hA_2.trans hE_3
  have hQ := hQ hO_3 hE_3
  clear er
  refine lv_iconst (v := 0) hx hb d_Tp_readInto_13 (by decide +kernel) ?_
  refine lv_istore_n (lv' := [(2, .int 0), (0, .ref q0), (1, .ref pq_0)]) hx hb d_Tp_readInto_14 rfl hl (by decide) rfl (fun ls hl => ?_)
  have cut_4 : ∀ (n_4 : Nat) (v2_4 : Int32) (L_4 : List Nat) (f_4 : TF) (H : Heap) (locs : List Loc) (ls : Array Slot), va_P (dC, dI) vwCl (TW ct L_4 f_4) H → va_D A (TW ct L_4 f_4) → va_S A s.heap H locs → Ok L_4 f_4 → Ext WL_Tp_readInto_w_15_4 L_3 f_3 L_4 f_4 → ¬ (v2_4 < 0) → ¬ (401 < v2_4) → (401 : Int32).toInt - (v2_4 : Int32).toInt ≤ (n_4 : Int) → wpL_Tp_readInto_w_15_4 L f q0 pq_0 L_1 f_1 f_2 L_3 f_3 Q n_4 v2_4 L_4 f_4 → lv_has ls 3 [(0, .ref q0), (1, .ref pq_0), (2, .int v2_4)] → W p l e (headSpec (.code y_Tp_readInto b_Tp_readInto 3 (some .int) :: TB) ({ frames := 7, cells := 0, slots := 0, locals := 155 })).room s m [.ref q0, .ref pq_0].toArray below meth c H locs 0 0 (MQ below (va_Qi (fun r (u : TSt) => Ok u.1 u.2 ∧ Ext W_Tp_readInto_w L f u.1 u.2 ∧ ((True)) ∧ Q r u.1 u.2) (fun (u : TSt) t => va_P (dC, dI) vwCl (TW ct u.1 u.2) t.heap ∧ va_K (dC, dI) vwCl (TT ct) t ∧ va_D (va_A (TW ct L f) s.heap.size) (TW ct u.1 u.2)) (va_A (TW ct L f) s.heap.size)) [.ref q0, .ref pq_0].toArray s 0 0 (va_A (TW ct L f) s.heap.size)) (F0 m 15 ls []) := by
    intro n_4
    induction n_4 using Nat.strongRecOn with
    | _ n_4 ih_4 =>
      intro v2_4 L_4 f_4 H locs ls hP hD hS hO_4 hE_4 iv0_4 iv1_4 hm_4 hQ hl
      have hA_4 := hA_3.trans hE_4
      rw [wpL_Tp_readInto_w_15_4_eq] at hQ
      obtain ⟨rec_4, hrec_4⟩ : ∃ g, wpR_Tp_readInto_w_15_4 L f q0 pq_0 L_1 f_1 f_2 L_3 f_3 Q n_4 = g := ⟨_, rfl⟩
      rw [hrec_4] at hQ
      unfold wpB_Tp_readInto_w_15_4 at hQ
      have hQ := hQ hO_4 hE_4
      refine lv_iload_n hx hb d_Tp_readInto_15 rfl (lv_at hl 2 rfl) ?_
      refine lv_sipush (v := 400) hx hb d_Tp_readInto_16 (by decide +kernel) ?_
      refine lv_icmp_gt (tgt := 50) hx hb d_Tp_readInto_19 (by decide) (fun c_5 => ?_) (fun c_5 => ?_)
      · have hQ := hQ.1 c_5
        refine lv_aload_n hx hb d_Tp_readInto_50 rfl (lv_at hl 0 rfl) ?_
        refine tw_geti (D := (dC, dI)) (C := R_Tp) (T := F_Tp) (N := 6) (ci := 4) (kd := 10) (ct := ct) hx hb htb i_Tp hown hK hP hO_4 (hA_4.m m0) rfl rfl 3 (by decide) (htb (.fieldLink R_Tp 34 "WaterMen$Tape" "start" "I") tw_255) (fun _ h9 => h9) rfl d_Tp_readInto_51 (fun x_6 e_6 b_6 => ?_)
        have hQ := hQ x_6 e_6
        refine W.widen (k := 0) (n := 0) (Nat.le_of_ble_eq_true rfl) (Nat.le_of_ble_eq_true rfl) ?_
        exact W.iret (v := x_6) hx hb hr (fun t ht hW => ⟨⟨x_6, (L_4, f_4), rfl, ⟨hO_4, hA_4.mono (by decide +kernel), trivial, hQ⟩, by rw [ht]; exact hP, va_K.moved hW.alike hK, by rw [hAe]; exact hD⟩, by rw [hAe]; exact hS.F ht⟩) (by rw [hAe]; exact hS.2.2) d_Tp_readInto_54
      · have hQ := hQ.2 c_5
        refine lv_aload_n hx hb d_Tp_readInto_22 rfl (lv_at hl 0 rfl) ?_
        refine lv_aload_n hx hb d_Tp_readInto_23 rfl (lv_at hl 1 rfl) ?_
        have hFc := hb_free hD hS hA
        refine va_calli (va_runV (As := [.ref pq_0]) (rest := []) ⟨hx, hb, hml, hown, htb⟩ (c_Tp_readLine_w l dC dI ct L_4 f_4 hO_4 q0 (hA_4.m m0) pq_0 (hA_4.m pm_0) adK adV _ _ hQ) (cwV 1 htb (gd_V tw_316 tw_317 tw_318 tw_177 tw_315) rfl rfl rfl (by decide +kernel) ⟨Nat.le_of_ble_eq_true rfl, Nat.le_of_ble_eq_true rfl⟩) ⟨pcs_blind, tw_recv hK hP (hA_4.m m0) rfl rfl, pcs_pre hP hK hD hN hS hW0 hFc⟩ rfl rfl hl.1 rfl (lv_room (Nat.le_of_ble_eq_true rfl)) d_Tp_readInto_24 ⟨Nat.le_of_ble_eq_true rfl, Nat.le_of_ble_eq_true rfl⟩) hS (fun q _ h => hFc q h) hFc (fun r_7 u t H locs ht hvm er hB hz1 hk1 hS => ?_)
        obtain ⟨L_5, f_5⟩ := u
        obtain ⟨hO_5, hE_5, er, hQ⟩ := er
        obtain ⟨hP, hK1, hD1⟩ := hB
        rw [ht] at hP
        have hP : va_P (dC, dI) vwCl (TW ct L_5 f_5) H := hP
        have hD : va_D A (TW ct L_5 f_5) := hD1.weaken (fun _ q _ h => hFc q.1 h)
        have hO_5 : Ok L_5 f_5 := hO_5
        have hE_5 : Ext W_Tp_readLine_w L_4 f_4 L_5 f_5 := hE_5
        clear hK1 hD1 ht hvm hz1 hk1
        have hA_5 := hA_4.trans hE_5
        have hQ := hQ hO_5 hE_5
        rcases er with ⟨rfl, -⟩ | ⟨rfl, -⟩
        · have hQ := hQ.1 rfl
          refine lv_if_ne (tgt := 35) hx hb d_Tp_readInto_27 (by decide) (fun h => absurd (by decide +kernel) h) (fun _ => ?_)
          refine lv_aload_n hx hb d_Tp_readInto_30 rfl (lv_at hl 0 rfl) ?_
          refine tw_geti (D := (dC, dI)) (C := R_Tp) (T := F_Tp) (N := 6) (ci := 4) (kd := 10) (ct := ct) hx hb htb i_Tp hown hK hP hO_5 (hA_5.m m0) rfl rfl 3 (by decide) (htb (.fieldLink R_Tp 34 "WaterMen$Tape" "start" "I") tw_255) (fun _ h9 => h9) rfl d_Tp_readInto_31 (fun x_8 e_8 b_8 => ?_)
          have hQ := hQ x_8 e_8
          refine W.widen (k := 0) (n := 0) (Nat.le_of_ble_eq_true rfl) (Nat.le_of_ble_eq_true rfl) ?_
          exact W.iret (v := x_8) hx hb hr (fun t ht hW => ⟨⟨x_8, (L_5, f_5), rfl, ⟨hO_5, hA_5.mono (by decide +kernel), trivial, hQ⟩, by rw [ht]; exact hP, va_K.moved hW.alike hK, by rw [hAe]; exact hD⟩, by rw [hAe]; exact hS.F ht⟩) (by rw [hAe]; exact hS.2.2) d_Tp_readInto_34
        · have hQ := hQ.2 rfl
          refine lv_if_ne (tgt := 35) hx hb d_Tp_readInto_27 (by decide) (fun _ => ?_) (fun h => absurd h (by decide +kernel))
          refine lv_aload_n hx hb d_Tp_readInto_35 rfl (lv_at hl 0 rfl) ?_
          refine tw_geti (D := (dC, dI)) (C := R_Tp) (T := F_Tp) (N := 6) (ci := 4) (kd := 10) (ct := ct) hx hb htb i_Tp hown hK hP hO_5 (hA_5.m m0) rfl rfl 2 (by decide) (htb (.fieldLink R_Tp 37 "WaterMen$Tape" "sort" "I") tw_257) (fun _ h9 => h9) rfl d_Tp_readInto_36 (fun x_9 e_9 b_9 => ?_)
          have hQ := hQ x_9 e_9
          refine lv_if_ne (tgt := 44) hx hb d_Tp_readInto_39 (by decide) (fun c_10 => ?_) (fun c_10 => ?_)
          · have hQ := hQ.2 c_10
            refine lv_iinc (v := (v2_4 + 1)) (lv' := [(2, .int (v2_4 + 1)), (0, .ref q0), (1, .ref pq_0)]) hx hb d_Tp_readInto_44 hl (k := 2) rfl rfl (by decide) rfl (fun ls hl => ?_)
            refine lv_goto (tgt := 15) hx hb d_Tp_readInto_47 (by decide) ?_
            exact ih_4 (n_4 - 1) (ms_1 ((fun (a_0 : Int32) (k_0 : ¬ (400 < a_0)) => (show 1 ≤ (401 : Int32).toInt - (a_0).toInt ∧ (401 : Int32).toInt - ((a_0) + (1 : Int32)).toInt + 1 ≤ (401 : Int32).toInt - (a_0).toInt from by have z0 : (1 : Int32).toInt = 1 := (by decide +kernel); have z1 : (400 : Int32).toInt = 400 := (by decide +kernel); have z2 : (401 : Int32).toInt = 401 := (by decide +kernel); have r0 := fb_rng (a_0); have e0 := k_0; rw [Int32.lt_iff_toInt_lt, z1] at e0; obtain ⟨n_0, hn_0, s0⟩ := nd_add (x := (a_0)) (y := (1 : Int32)) (by (try rw [z0]); omega) (by (try rw [z0]); omega); rw [z0] at s0; rw [hn_0]; (try rw [z2]); omega)) v2_4 c_5) hm_4) (v2_4 + 1) _ _ _ _ _ hP hD hS hO_5 ((hE_4.trans hE_5).mono (by decide +kernel)) (show ¬ ((v2_4 + 1) < 0) from by have e0 := iv0_4; rw [Int32.lt_iff_toInt_lt] at e0; have e1 := c_5; rw [Int32.lt_iff_toInt_lt] at e1; have z0 : (0 : Int32).toInt = 0 := (by decide +kernel); have z1 : (1 : Int32).toInt = 1 := (by decide +kernel); have z2 : (400 : Int32).toInt = 400 := (by decide +kernel); have ss := fb_addI (x := v2_4) (y := 1) (by omega) (by omega); rw [Int32.lt_iff_toInt_lt]; omega) (show ¬ (401 < (v2_4 + 1)) from by have e0 := iv0_4; rw [Int32.lt_iff_toInt_lt] at e0; have e1 := c_5; rw [Int32.lt_iff_toInt_lt] at e1; have z0 : (0 : Int32).toInt = 0 := (by decide +kernel); have z1 : (1 : Int32).toInt = 1 := (by decide +kernel); have z2 : (400 : Int32).toInt = 400 := (by decide +kernel); have z3 : (401 : Int32).toInt = 401 := (by decide +kernel); have ss := fb_addI (x := v2_4) (y := 1) (by omega) (by omega); rw [Int32.lt_iff_toInt_lt]; omega) (by exact ms_2 ((fun (a_0 : Int32) (k_0 : ¬ (400 < a_0)) => (show 1 ≤ (401 : Int32).toInt - (a_0).toInt ∧ (401 : Int32).toInt - ((a_0) + (1 : Int32)).toInt + 1 ≤ (401 : Int32).toInt - (a_0).toInt from by have z0 : (1 : Int32).toInt = 1 := (by decide +kernel); have z1 : (400 : Int32).toInt = 400 := (by decide +kernel); have z2 : (401 : Int32).toInt = 401 := (by decide +kernel); have r0 := fb_rng (a_0); have e0 := k_0; rw [Int32.lt_iff_toInt_lt, z1] at e0; obtain ⟨n_0, hn_0, s0⟩ := nd_add (x := (a_0)) (y := (1 : Int32)) (by (try rw [z0]); omega) (by (try rw [z0]); omega); rw [z0] at s0; rw [hn_0]; (try rw [z2]); omega)) v2_4 c_5) hm_4) (by rw [← hrec_4, wpR_Tp_readInto_w_15_4_pos (ms_3 ((fun (a_0 : Int32) (k_0 : ¬ (400 < a_0)) => (show 1 ≤ (401 : Int32).toInt - (a_0).toInt ∧ (401 : Int32).toInt - ((a_0) + (1 : Int32)).toInt + 1 ≤ (401 : Int32).toInt - (a_0).toInt from by have z0 : (1 : Int32).toInt = 1 := (by decide +kernel); have z1 : (400 : Int32).toInt = 400 := (by decide +kernel); have z2 : (401 : Int32).toInt = 401 := (by decide +kernel); have r0 := fb_rng (a_0); have e0 := k_0; rw [Int32.lt_iff_toInt_lt, z1] at e0; obtain ⟨n_0, hn_0, s0⟩ := nd_add (x := (a_0)) (y := (1 : Int32)) (by (try rw [z0]); omega) (by (try rw [z0]); omega); rw [z0] at s0; rw [hn_0]; (try rw [z2]); omega)) v2_4 c_5) hm_4)] at hQ; exact hQ) (lv_sub hl [1, 2, 0] rfl)
          · have hQ := hQ.1 c_10
            refine lv_iconst (v := (-1)) hx hb d_Tp_readInto_42 (by decide +kernel) ?_
            refine W.widen (k := 0) (n := 0) (Nat.le_of_ble_eq_true rfl) (Nat.le_of_ble_eq_true rfl) ?_
            exact W.iret (v := (-1)) hx hb hr (fun t ht hW => ⟨⟨(-1), (L_5, f_5), rfl, ⟨hO_5, hA_5.mono (by decide +kernel), trivial, hQ⟩, by rw [ht]; exact hP, va_K.moved hW.alike hK, by rw [hAe]; exact hD⟩, by rw [hAe]; exact hS.F ht⟩) (by rw [hAe]; exact hS.2.2) d_Tp_readInto_43
  exact cut_4 ((401 : Int32).toInt - (0 : Int32).toInt).toNat (0 : Int32) _ _ _ _ _ hP hD hS hO_3 Ext.rf (by decide +kernel) (by decide +kernel) (by exact ms_e _ _) hQ (lv_sub hl [1, 2, 0] rfl)
def W_Or_init_w : List (Nat × Nat) := [(76, 2), (76, 3), (76, 4)]
def wp_Or_init_w (L : List Nat) (f : TF) (q0 : Nat) (Q : List Nat → TF → Prop) : Prop := ∀ (q_n1 : Nat) (L_1 : List Nat) (f_1 : TF), q_n1 ∉ L → L_1 = L ++ [q_n1] → f_1 = nC f q_n1 16 → Ok L_1 f_1 → ∀ f_2 : TF, f_2 = sR f_1 q0 2 q_n1 → Ok L_1 f_2 → ∀ (q_n3 : Nat) (L_3 : List Nat) (f_3 : TF), q_n3 ∉ L_1 → L_3 = L_1 ++ [q_n3] → f_3 = nC f_2 q_n3 17 → Ok L_3 f_3 → ∀ f_4 : TF, f_4 = sR f_3 q0 3 q_n3 → Ok L_3 f_4 → ∀ (q_n5 : Nat) (L_5 : List Nat) (f_5 : TF), q_n5 ∉ L_3 → L_5 = L_3 ++ [q_n5] → f_5 = nC f_4 q_n5 18 → Ok L_5 f_5 → ∀ f_6 : TF, f_6 = sR f_5 q0 4 q_n5 → Ok L_5 f_6 → Q L_5 f_6
set_option maxHeartbeats 4000000 in
set_option maxRecDepth 100000 in
theorem c_Or_init_w (l : Launch) (dC : Nat → ClassId) (dI : Nat → Nat → Nat) (ct : Nat → ClassId) (L : List Nat) (f : TF) (hO_0 : Ok L f) (q0 : Nat) (m0 : q0 ∈ L ∧ tk f q0 = 76) (sz : Nat)    (Q : List Nat → TF → Prop) (hQ : wp_Or_init_w L f q0 Q) : Met l y_Or_init (.code y_Or_init b_Or_init 1 none :: TB) ({ frames := 1, cells := 3, slots := 81, locals := 12 }) (va_Pc [.ref q0] (PC dC dI (TW ct L f) (TT ct) sz)) (va_Qv (fun (u : TSt) => Ok u.1 u.2 ∧ Ext W_Or_init_w L f u.1 u.2 ∧ tr u.2 q0 2 ≠ none ∧ tr u.2 q0 3 ≠ none ∧ tr u.2 q0 4 ≠ none ∧ (True) ∧ Q u.1 u.2) (fun (u : TSt) t => va_P (dC, dI) vwCl (TW ct u.1 u.2) t.heap ∧ va_K (dC, dI) vwCl (TT ct) t ∧ va_D (va_A (TW ct L f) sz) (TW ct u.1 u.2)) (va_A (TW ct L f) sz)) 3 81 (va_A (TW ct L f) sz) := by
  refine Met.ofW (cc := b_Or_init) (maxL := 1) (ret := none) (by decide) rfl ?_
  intro p e s m args below meth c s₁ B hml hv
  obtain ⟨rfl, hsz, hP, hK, hD0, hN⟩ := hv
  have hx := B.exec
  have hb := B.bytes
  have hr := B.returns
  have hts := atoms_spec (ws := (.code y_Or_init b_Or_init 1 none :: TB)) B.pre
  have htb := fun w (h : w ∈ TB) => hts w (List.mem_cons_of_mem _ h)
  have hown : s.vm.findClass R_Or = some m.cls := findClass_of_methodNamed B.named
  have hlocks := B.notSynchronized
  have hin : meth.name = "<init>" := (name_of_methodNamed B.named B.method).1
  have hl := lv_entry ([.ref q0]) (n := 1) (Nat.le_of_ble_eq_true rfl)
  rw [lg_entry_eq]
  generalize (lg_sl ([.ref q0]) ++ List.replicate (1 - (lg_sl ([.ref q0])).length) Slot.unset).toArray = ls at hl ⊢
  have hl : lv_has ls 1 [(0, .ref q0)] := hl
  subst hsz
  have hD := hD0.self (sz := s.heap.size)
  obtain ⟨A, hAe⟩ : ∃ A, va_A (TW ct L f) s.heap.size = A := ⟨_, rfl⟩
  rw [hAe] at hD
  have hA : ∀ q : Nat, s.heap.size ≤ q → A q := fun q h => by rw [← hAe]; exact Or.inr h
  have hS : va_S A s.heap s.heap [] := va_S.rf
  have hA_0 : Ext [] L f L f := Ext.rf
  suffices hGo : ∀ (H : Heap) (locs : List Loc), va_P (dC, dI) vwCl (TW ct L f) H → va_S A s.heap H locs → W p l e (headSpec (.code y_Or_init b_Or_init 1 none :: TB) ({ frames := 1, cells := 3, slots := 81, locals := 12 })).room s m [.ref q0].toArray below meth c H locs 0 0 (MQ below (va_Qv (fun (u : TSt) => Ok u.1 u.2 ∧ Ext W_Or_init_w L f u.1 u.2 ∧ tr u.2 q0 2 ≠ none ∧ tr u.2 q0 3 ≠ none ∧ tr u.2 q0 4 ≠ none ∧ (True) ∧ Q u.1 u.2) (fun (u : TSt) t => va_P (dC, dI) vwCl (TW ct u.1 u.2) t.heap ∧ va_K (dC, dI) vwCl (TT ct) t ∧ va_D (va_A (TW ct L f) s.heap.size) (TW ct u.1 u.2)) (va_A (TW ct L f) s.heap.size)) [.ref q0].toArray s 3 81 (va_A (TW ct L f) s.heap.size)) (F0 m 0 ls []) from hGo _ _ hP hS
  clear hP hS
  intro H locs hP hS
  unfold wp_Or_init_w at hQ
  refine lv_aload_n hx hb d_Or_init_0 rfl (lv_at hl 0 rfl) ?_
  refine W.objInit hx hb hown (htb (.methodLink R_Or 3 objectInit) tw_328) (htb (.instanceMethod objectInit) tw_329) (htb (.code objectInit ⟨#[0xb1]⟩ 1 none) tw_330) rfl (by rw [hml]; exact hl.1) rfl d_Or_init_1 (Nat.le_of_ble_eq_true rfl) (Nat.le_of_ble_eq_true rfl) ?_
  refine W.eq (g2 := F0 m 4 ls []) rfl ?_
  refine lv_aload_n hx hb d_Or_init_4 rfl (lv_at hl 0 rfl) ?_
  refine lv_bipush (v := 36) hx hb d_Or_init_5 (by decide +kernel) ?_
  refine tw_newI (ct := ct) (N' := 36) hx hb (htb (.arrayClass .int) tw_137) hK hP hD hS hA hO_0 16 rfl ⟨by decide +kernel, by decide +kernel⟩ (by decide +kernel) (by decide +kernel) (by decide +kernel) (Nat.le_of_ble_eq_true rfl) (Nat.le_of_ble_eq_true rfl) d_Or_init_7 (fun q_n1 L_1 f_1 H hP hD hS hO_1 hE_1 m_n1 nq_1 hL_1 hF_1 => ?_)
  have hA_1 := hA_0.trans hE_1
  have hQ := hQ q_n1 L_1 f_1 nq_1 hL_1 hF_1 hO_1
  refine tw_putFr (b := q_n1) (D := (dC, dI)) (C := R_Or) (T := F_Or) (N := 9) (ci := 3) (kd := 76) (ct := ct) (ty := .array (.int)) hx hb htb i_Or t_Or t_Or_ok n_Or hown hK hP hD hS hO_1 (hA_1.m m0) rfl rfl 2 (by decide) (htb (.fieldLink R_Or 9 "WaterMen$Order" "fares" "[I") tw_304) (fun _ h9 => h9) rfl hin rfl (by decide +kernel) rfl rfl rfl m_n1 d_Or_init_9 (fun f_2 H locs hP hD hS hO_2 hE_2 w_1 hF_2 => ?_)
  have hA_2 := hA_1.trans hE_2
  have hQ := hQ f_2 hF_2
  have hQ := hQ hO_2
  refine lv_aload_n hx hb d_Or_init_12 rfl (lv_at hl 0 rfl) ?_
  refine lv_bipush (v := 36) hx hb d_Or_init_13 (by decide +kernel) ?_
  refine tw_newI (ct := ct) (N' := 36) hx hb (htb (.arrayClass .int) tw_137) hK hP hD hS hA hO_2 17 rfl ⟨by decide +kernel, by decide +kernel⟩ (by decide +kernel) (by decide +kernel) (by decide +kernel) (Nat.le_of_ble_eq_true rfl) (Nat.le_of_ble_eq_true rfl) d_Or_init_15 (fun q_n3 L_3 f_3 H hP hD hS hO_3 hE_3 m_n3 nq_3 hL_3 hF_3 => ?_)
  have hA_3 := hA_2.trans hE_3
  have hQ := hQ q_n3 L_3 f_3 nq_3 hL_3 hF_3 hO_3
  refine tw_putFr (b := q_n3) (D := (dC, dI)) (C := R_Or) (T := F_Or) (N := 9) (ci := 3) (kd := 76) (ct := ct) (ty := .array (.int)) hx hb htb i_Or t_Or t_Or_ok n_Or hown hK hP hD hS hO_3 (hA_3.m m0) rfl rfl 3 (by decide) (htb (.fieldLink R_Or 15 "WaterMen$Order" "hours" "[I") tw_312) (fun _ h9 => h9) rfl hin rfl (by decide +kernel) rfl rfl rfl m_n3 d_Or_init_17 (fun f_4 H locs hP hD hS hO_4 hE_4 w_2 hF_4 => ?_)
  have hA_4 := hA_3.trans hE_4
  have hQ := hQ f_4 hF_4
  have hQ := hQ hO_4
  refine lv_aload_n hx hb d_Or_init_20 rfl (lv_at hl 0 rfl) ?_
  refine lv_bipush (v := 9) hx hb d_Or_init_21 (by decide +kernel) ?_
  refine tw_newI (ct := ct) (N' := 9) hx hb (htb (.arrayClass .int) tw_137) hK hP hD hS hA hO_4 18 rfl ⟨by decide +kernel, by decide +kernel⟩ (by decide +kernel) (by decide +kernel) (by decide +kernel) (Nat.le_of_ble_eq_true rfl) (Nat.le_of_ble_eq_true rfl) d_Or_init_23 (fun q_n5 L_5 f_5 H hP hD hS hO_5 hE_5 m_n5 nq_5 hL_5 hF_5 => ?_)
  have hA_5 := hA_4.trans hE_5
  have hQ := hQ q_n5 L_5 f_5 nq_5 hL_5 hF_5 hO_5
  refine tw_putFr (b := q_n5) (D := (dC, dI)) (C := R_Or) (T := F_Or) (N := 9) (ci := 3) (kd := 76) (ct := ct) (ty := .array (.int)) hx hb htb i_Or t_Or t_Or_ok n_Or hown hK hP hD hS hO_5 (hA_5.m m0) rfl rfl 4 (by decide) (htb (.fieldLink R_Or 20 "WaterMen$Order" "single" "[I") tw_248) (fun _ h9 => h9) rfl hin rfl (by decide +kernel) rfl rfl rfl m_n5 d_Or_init_25 (fun f_6 H locs hP hD hS hO_6 hE_6 w_3 hF_6 => ?_)
  have hA_6 := hA_5.trans hE_6
  have hQ := hQ f_6 hF_6
  have hQ := hQ hO_6
  refine W.widen (k := 3) (n := 81) (Nat.le_of_ble_eq_true rfl) (Nat.le_of_ble_eq_true rfl) ?_
  exact W.vret hx hb hr (fun t ht hW => ⟨⟨(L_5, f_6), rfl, ⟨hO_6, hA_6.mono (by decide +kernel), (by rw [show tr f_6 q0 2 = some q_n1 from ((hE_6.er (hA_5.m m0) rfl).trans ((hE_5.er (hA_4.m m0) rfl).trans ((hE_4.er (hA_3.m m0) rfl).trans ((hE_3.er (hA_2.m m0) rfl).trans w_1))))]; exact Option.some_ne_none _), (by rw [show tr f_6 q0 3 = some q_n3 from ((hE_6.er (hA_5.m m0) rfl).trans ((hE_5.er (hA_4.m m0) rfl).trans w_2))]; exact Option.some_ne_none _), (by rw [show tr f_6 q0 4 = some q_n5 from w_3]; exact Option.some_ne_none _), trivial, hQ⟩, by rw [ht]; exact hP, va_K.moved hW.alike hK, by rw [hAe]; exact hD⟩, by rw [hAe]; exact hS.F ht⟩) (by rw [hAe]; exact hS.2.2) d_Or_init_28
def W_WM_order_w : List (Nat × Nat) := [(0, 8), (0, 12), (8, 1000), (10, 1), (10, 2), (10, 3), (10, 4), (10, 5), (15, 0), (15, 1), (15, 5), (15, 6), (15, 7), (15, 8), (16, 1000), (17, 1000), (18, 1000), (76, 2), (76, 3), (76, 4)]
def wp_WM_order_w (L : List Nat) (f : TF) (q0 : Nat) (p_0 : Int32) (Q : Int32 → List Nat → TF → Prop) : Prop := ((p_0 < 0 → Q (-1) L f) ∧ (¬ (p_0 < 0) → ((500 ≤ p_0 → Q (-1) L f) ∧ (¬ (500 ≤ p_0) → ∀ x_4 : Int32, ti f q0 8 = x_4 → ((x_4 < 20 → ∀ q_6 : Nat, tr f q0 5 = some q_6 → ∀ q_7 : Nat, tr f q0 12 = some q_7 → wp_Tp_readInto_w L f q_6 q_7 (fun (r_8 : Int32) (L_1 : List Nat) (f_1 : TF) => Ok L_1 f_1 → Ext W_Tp_readInto_w L f L_1 f_1 → (∀ f_2 : TF, f_2 = sI f_1 q_6 1 0 → Ok L_1 f_2 → ((r_8 = (-1) → ∀ f_3 : TF, f_3 = sI f_2 q_7 1 p_0 → Ok L_1 f_3 → wp_WM_today_w L_1 f_3 q0 (fun (r_12 : Int32) => (∀ f_4 : TF, f_4 = sI f_3 q_7 0 r_12 → Ok L_1 f_4 → ∀ q_16 : Nat, tr f_4 q0 3 = some q_16 → ∀ f_5 : TF, f_5 = sR f_4 q_16 (x_4 : Int32).toNatClampNeg q_7 → Ok L_1 f_5 → ∀ f_6 : TF, f_6 = sI f_5 q0 8 (x_4 + 1) → Ok L_1 f_6 → ∀ (q_n7 : Nat) (L_7 : List Nat) (f_7 : TF), q_n7 ∉ L_1 → L_7 = L_1 ++ [q_n7] → f_7 = nC f_6 q_n7 76 → Ok L_7 f_7 → wp_Or_init_w L_7 f_7 q_n7 (fun (L_8 : List Nat) (f_8 : TF) => Ok L_8 f_8 → Ext W_Or_init_w L_7 f_7 L_8 f_8 → ∀ f_9 : TF, f_9 = kC f_8 q_n7 15 → Ok L_8 f_9 → ∀ f_10 : TF, f_10 = sR f_9 q0 12 q_n7 → Ok L_8 f_10 → Q ((x_4 + 1) - 1) L_8 f_10)))) ∧ (¬ (r_8 = (-1)) → Q ((-100) - r_8) L_1 f_2))))) ∧ (¬ (x_4 < 20) → Q (-3) L f))))))
set_option maxHeartbeats 4000000 in
set_option maxRecDepth 100000 in
theorem c_WM_order_w (l : Launch) (dC : Nat → ClassId) (dI : Nat → Nat → Nat) (ct : Nat → ClassId) (L : List Nat) (f : TF) (hO_0 : Ok L f) (q0 : Nat) (m0 : q0 ∈ L ∧ tk f q0 = 0) (adK adV : Nat → Nat) (sz : Nat) (p_0 : Int32)   (Q : Int32 → List Nat → TF → Prop) (hQ : wp_WM_order_w L f q0 p_0 Q) : Met l y_WM_order (.code y_WM_order b_WM_order 3 (some .int) :: TB) ({ frames := 8, cells := 4, slots := 90, locals := 177 }) (va_Pc [.ref q0, .int p_0] (PCs dC dI (TW ct L f) (TT ct) adK adV sz)) (va_Qi (fun r (u : TSt) => Ok u.1 u.2 ∧ Ext W_WM_order_w L f u.1 u.2 ∧ (True) ∧ Q r u.1 u.2) (fun (u : TSt) t => va_P (dC, dI) vwCl (TW ct u.1 u.2) t.heap ∧ va_K (dC, dI) vwCl (TT ct) t ∧ va_D (va_A (TW ct L f) sz) (TW ct u.1 u.2)) (va_A (TW ct L f) sz)) 4 90 (va_A (TW ct L f) sz) := by
  refine Met.ofW (cc := b_WM_order) (maxL := 3) (ret := (some .int)) (by decide) rfl ?_
  intro p e s m args below meth c s₁ B hml hv
  obtain ⟨rfl, ⟨hsz, hP, hK, hD0, hN⟩, hW0⟩ := hv
  have hx := B.exec
  have hb := B.bytes
  have hr := B.returns
  have hts := atoms_spec (ws := (.code y_WM_order b_WM_order 3 (some .int) :: TB)) B.pre
  have htb := fun w (h : w ∈ TB) => hts w (List.mem_cons_of_mem _ h)
  have hown : s.vm.findClass R_WM = some m.cls := findClass_of_methodNamed B.named
  have hlocks := B.notSynchronized
  have hl := lv_entry ([.ref q0, .int p_0]) (n := 3) (Nat.le_of_ble_eq_true rfl)
  rw [lg_entry_eq]
  generalize (lg_sl ([.ref q0, .int p_0]) ++ List.replicate (3 - (lg_sl ([.ref q0, .int p_0])).length) Slot.unset).toArray = ls at hl ⊢
  have hl : lv_has ls 3 [(0, .ref q0), (1, .int p_0)] := hl
  subst hsz
  have hD := hD0.self (sz := s.heap.size)
  obtain ⟨A, hAe⟩ : ∃ A, va_A (TW ct L f) s.heap.size = A := ⟨_, rfl⟩
  rw [hAe] at hD
  rw [hAe] at hW0
  have hA : ∀ q : Nat, s.heap.size ≤ q → A q := fun q h => by rw [← hAe]; exact Or.inr h
  have hS : va_S A s.heap s.heap [] := va_S.rf
  have hA_0 : Ext [] L f L f := Ext.rf
  suffices hGo : ∀ (H : Heap) (locs : List Loc), va_P (dC, dI) vwCl (TW ct L f) H → va_S A s.heap H locs → W p l e (headSpec (.code y_WM_order b_WM_order 3 (some .int) :: TB) ({ frames := 8, cells := 4, slots := 90, locals := 177 })).room s m [.ref q0, .int p_0].toArray below meth c H locs 0 0 (MQ below (va_Qi (fun r (u : TSt) => Ok u.1 u.2 ∧ Ext W_WM_order_w L f u.1 u.2 ∧ (True) ∧ Q r u.1 u.2) (fun (u : TSt) t => va_P (dC, dI) vwCl (TW ct u.1 u.2) t.heap ∧ va_K (dC, dI) vwCl (TT ct) t ∧ va_D (va_A (TW ct L f) s.heap.size) (TW ct u.1 u.2)) (va_A (TW ct L f) s.heap.size)) [.ref q0, .int p_0].toArray s 4 90 (va_A (TW ct L f) s.heap.size)) (F0 m 0 ls []) from hGo _ _ hP hS
  clear hP hS
  intro H locs hP hS
  unfold wp_WM_order_w at hQ
  refine lv_iload_n hx hb d_WM_order_0 rfl (lv_at hl 1 rfl) ?_
  refine vp_callSi (va_Run.run (va_runS (As := [.int p_0]) (rest := []) ⟨hx, hb, hml, hown, htb⟩ (c_WM_isDay l p_0) (cwS 1 htb (gd_S tw_127 tw_128 tw_26 tw_126) rfl rfl rfl (by decide +kernel) ⟨Nat.le_of_ble_eq_true rfl, Nat.le_of_ble_eq_true rfl⟩) ⟨fun _ _ _ _ h => h, fun U _ _ => ⟨rfl, trivial⟩⟩ rfl rfl hl.1 rfl (lv_room (Nat.le_of_ble_eq_true rfl)) d_WM_order_1 ⟨Nat.le_of_ble_eq_true rfl, Nat.le_of_ble_eq_true rfl⟩)) (fun r er => ?_)
  subst er
  by_cases c_2 : p_0 < 0
  · have hQ := hQ.1 c_2
    refine hb_ti 0 (by unfold f_WM_isDay; rw [if_pos c_2]; first | done | rfl) ?_
    refine lv_if_ne (tgt := 9) hx hb d_WM_order_4 (by decide) (fun h => absurd (by decide +kernel) h) (fun _ => ?_)
    refine lv_iconst (v := (-1)) hx hb d_WM_order_7 (by decide +kernel) ?_
    refine W.widen (k := 4) (n := 90) (Nat.le_of_ble_eq_true rfl) (Nat.le_of_ble_eq_true rfl) ?_
    exact W.iret (v := (-1)) hx hb hr (fun t ht hW => ⟨⟨(-1), (L, f), rfl, ⟨hO_0, hA_0.mono (by decide +kernel), trivial, hQ⟩, by rw [ht]; exact hP, va_K.moved hW.alike hK, by rw [hAe]; exact hD⟩, by rw [hAe]; exact hS.F ht⟩) (by rw [hAe]; exact hS.2.2) d_WM_order_8
  · have hQ := hQ.2 c_2
    by_cases c_3 : 500 ≤ p_0
    · have hQ := hQ.1 c_3
      refine hb_ti 0 (by unfold f_WM_isDay; rw [if_neg c_2, if_pos c_3]; first | done | rfl) ?_
      refine lv_if_ne (tgt := 9) hx hb d_WM_order_4 (by decide) (fun h => absurd (by decide +kernel) h) (fun _ => ?_)
      refine lv_iconst (v := (-1)) hx hb d_WM_order_7 (by decide +kernel) ?_
      refine W.widen (k := 4) (n := 90) (Nat.le_of_ble_eq_true rfl) (Nat.le_of_ble_eq_true rfl) ?_
      exact W.iret (v := (-1)) hx hb hr (fun t ht hW => ⟨⟨(-1), (L, f), rfl, ⟨hO_0, hA_0.mono (by decide +kernel), trivial, hQ⟩, by rw [ht]; exact hP, va_K.moved hW.alike hK, by rw [hAe]; exact hD⟩, by rw [hAe]; exact hS.F ht⟩) (by rw [hAe]; exact hS.2.2) d_WM_order_8
    · have hQ := hQ.2 c_3
      refine hb_ti 1 (by unfold f_WM_isDay; rw [if_neg c_2, if_neg c_3]; first | done | rfl) ?_
      refine lv_if_ne (tgt := 9) hx hb d_WM_order_4 (by decide) (fun _ => ?_) (fun h => absurd h (by decide +kernel))
      refine lv_aload_n hx hb d_WM_order_9 rfl (lv_at hl 0 rfl) ?_
      refine tw_geti (D := (dC, dI)) (C := R_WM) (T := F_WM) (N := 13) (ci := 0) (kd := 0) (ct := ct) hx hb htb i_WM hown hK hP hO_0 m0 rfl rfl 8 (by decide) (htb (.fieldLink R_WM 210 "WaterMen" "orderCount" "I") tw_244) (fun _ h9 => h9) rfl d_WM_order_10 (fun x_4 e_4 b_4 => ?_)
      have hQ := hQ x_4 e_4
      refine lv_bipush (v := 20) hx hb d_WM_order_13 (by decide +kernel) ?_
      refine lv_icmp_lt (tgt := 21) hx hb d_WM_order_15 (by decide) (fun c_5 => ?_) (fun c_5 => ?_)
      · have hQ := hQ.1 c_5
        refine lv_aload_n hx hb d_WM_order_21 rfl (lv_at hl 0 rfl) ?_
        refine tw_getr (D := (dC, dI)) (C := R_WM) (T := F_WM) (N := 13) (ci := 0) (kd := 0) (ct := ct) hx hb htb i_WM hown hK hP hO_0 m0 rfl rfl 5 (by decide) (htb (.fieldLink R_WM 43 "WaterMen" "tape" "LWaterMen$Tape;") tw_174) (fun _ h9 => h9) rfl d_WM_order_22 (fun q_6 e_6 m_6 => ?_)
        have hQ := hQ q_6 e_6
        refine lv_aload_n hx hb d_WM_order_25 rfl (lv_at hl 0 rfl) ?_
        refine tw_getr (D := (dC, dI)) (C := R_WM) (T := F_WM) (N := 13) (ci := 0) (kd := 0) (ct := ct) hx hb htb i_WM hown hK hP hO_0 m0 rfl rfl 12 (by decide) (htb (.fieldLink R_WM 55 "WaterMen" "draft" "LWaterMen$Order;") tw_245) (fun _ h9 => h9) rfl d_WM_order_26 (fun q_7 e_7 m_7 => ?_)
        have hQ := hQ q_7 e_7
        have hFc := hb_free hD hS hA
        refine va_calli (va_runV (As := [.ref q_7]) (rest := []) ⟨hx, hb, hml, hown, htb⟩ (c_Tp_readInto_w l dC dI ct L f hO_0 q_6 m_6 q_7 m_7 adK adV _ _ hQ) (cwV 1 htb (gd_V tw_320 tw_321 tw_322 tw_177 tw_319) rfl rfl rfl (by decide +kernel) ⟨Nat.le_of_ble_eq_true rfl, Nat.le_of_ble_eq_true rfl⟩) ⟨pcs_blind, tw_recv hK hP m_6 rfl rfl, pcs_pre hP hK hD hN hS hW0 hFc⟩ rfl rfl hl.1 rfl (lv_room (Nat.le_of_ble_eq_true rfl)) d_WM_order_29 ⟨Nat.le_of_ble_eq_true rfl, Nat.le_of_ble_eq_true rfl⟩) hS (fun q _ h => hFc q h) hFc (fun r_8 u t H locs ht hvm er hB hz1 hk1 hS => ?_)
        obtain ⟨L_1, f_1⟩ := u
        obtain ⟨hO_1, hE_1, er, hQ⟩ := er
        obtain ⟨hP, hK1, hD1⟩ := hB
        rw [ht] at hP
        have hP : va_P (dC, dI) vwCl (TW ct L_1 f_1) H := hP
        have hD : va_D A (TW ct L_1 f_1) := hD1.weaken (fun _ q _ h => hFc q.1 h)
        have hO_1 : Ok L_1 f_1 := hO_1
        have hE_1 : Ext W_Tp_readInto_w L f L_1 f_1 := hE_1
        clear hK1 hD1 ht hvm hz1 hk1
        have hA_1 := hA_0.trans hE_1
        have hQ := hQ hO_1 hE_1
        clear er
        refine lv_istore_n (lv' := [(2, .int r_8), (0, .ref q0), (1, .int p_0)]) hx hb d_WM_order_32 rfl hl (by decide) rfl (fun ls hl => ?_)
        refine lv_aload_n hx hb d_WM_order_33 rfl (lv_at hl 1 rfl) ?_
        refine tw_getR (D := (dC, dI)) (C := R_WM) (T := F_WM) (N := 13) (ci := 0) (kd := 0) (ct := ct) hx hb htb i_WM hown hK hP (hA_1.m m0) rfl rfl 5 ((hA_1.er m0 rfl).trans e_6) (by decide) (htb (.fieldLink R_WM 43 "WaterMen" "tape" "LWaterMen$Tape;") tw_174) (fun _ h9 => h9) rfl d_WM_order_34 ?_
        refine hb_tv (.ref q_6) rfl ?_
        refine lv_iconst (v := 0) hx hb d_WM_order_37 (by decide +kernel) ?_
        refine tw_puti (v := 0) (D := (dC, dI)) (C := R_Tp) (T := F_Tp) (N := 6) (ci := 4) (kd := 10) (ct := ct) (ty := .int) hx hb htb i_Tp t_Tp t_Tp_ok n_Tp hown hK hP hD hS hO_1 (hA_1.m m_6) rfl rfl 1 (by decide) (htb (.fieldLink R_WM 207 "WaterMen$Tape" "length" "I") tw_186) (fun _ h9 => h9) rfl (by decide +kernel) rfl rfl rfl ⟨by decide +kernel, by decide +kernel⟩ d_WM_order_38 (fun f_2 H locs hP hD hS hO_2 hE_2 w_9 hF_2 => ?_)
        have hA_2 := hA_1.trans hE_2
        have hQ := hQ f_2 hF_2
        have hQ := hQ hO_2
        refine lv_iload_n hx hb d_WM_order_41 rfl (lv_at hl 0 rfl) ?_
        refine lv_iconst (v := (-1)) hx hb d_WM_order_42 (by decide +kernel) ?_
        refine lv_icmp_eq (tgt := 51) hx hb d_WM_order_43 (by decide) (fun c_10 => ?_) (fun c_10 => ?_)
        · have hQ := hQ.1 c_10
          refine lv_aload_n hx hb d_WM_order_51 rfl (lv_at hl 1 rfl) ?_
          refine tw_getR (D := (dC, dI)) (C := R_WM) (T := F_WM) (N := 13) (ci := 0) (kd := 0) (ct := ct) hx hb htb i_WM hown hK hP (hA_2.m m0) rfl rfl 12 ((hA_2.er m0 rfl).trans e_7) (by decide) (htb (.fieldLink R_WM 55 "WaterMen" "draft" "LWaterMen$Order;") tw_245) (fun _ h9 => h9) rfl d_WM_order_52 ?_
          refine hb_tv (.ref q_7) rfl ?_
          refine lv_iload_n hx hb d_WM_order_55 rfl (lv_at hl 2 rfl) ?_
          refine tw_puti (v := p_0) (D := (dC, dI)) (C := R_Or) (T := F_Or) (N := 9) (ci := 3) (kd := 15) (ct := ct) (ty := .int) hx hb htb i_Or t_Or t_Or_ok n_Or hown hK hP hD hS hO_2 (hA_2.m m_7) rfl rfl 1 (by decide) (htb (.fieldLink R_WM 217 "WaterMen$Order" "inForceFrom" "I") tw_323) (fun _ h9 => h9) rfl (by decide +kernel) rfl rfl rfl (i32_full _) d_WM_order_56 (fun f_3 H locs hP hD hS hO_3 hE_3 w_11 hF_3 => ?_)
          have hA_3 := hA_2.trans hE_3
          have hQ := hQ f_3 hF_3
          have hQ := hQ hO_3
          refine lv_aload_n hx hb d_WM_order_59 rfl (lv_at hl 1 rfl) ?_
          refine tw_getR (D := (dC, dI)) (C := R_WM) (T := F_WM) (N := 13) (ci := 0) (kd := 0) (ct := ct) hx hb htb i_WM hown hK hP (hA_3.m m0) rfl rfl 12 ((hA_3.er m0 rfl).trans e_7) (by decide) (htb (.fieldLink R_WM 55 "WaterMen" "draft" "LWaterMen$Order;") tw_245) (fun _ h9 => h9) rfl d_WM_order_60 ?_
          refine hb_tv (.ref q_7) rfl ?_
          refine lv_aload_n hx hb d_WM_order_63 rfl (lv_at hl 1 rfl) ?_
          refine vp_callSi (va_Run.run (va_runV (As := []) (rest := [.ref q_7]) ⟨hx, hb, hml, hown, htb⟩ (c_WM_today_w l dC dI ct L_1 f_3 hO_3 q0 (hA_3.m m0) _ hQ) (cwV 0 htb (gd_V tw_50 tw_51 tw_52 tw_26 tw_49) rfl rfl rfl (by decide +kernel) ⟨Nat.le_of_ble_eq_true rfl, Nat.le_of_ble_eq_true rfl⟩) ⟨pr_blind, tw_recv hK hP (hA_3.m m0) rfl rfl, pr_pre hP hK hN⟩ rfl rfl hl.1 rfl (lv_room (Nat.le_of_ble_eq_true rfl)) d_WM_order_64 ⟨Nat.le_of_ble_eq_true rfl, Nat.le_of_ble_eq_true rfl⟩)) (fun r_12 er_12 => ?_)
          obtain ⟨er_12, hQ⟩ := er_12
          obtain ⟨po_13, po_14, -⟩ := er_12
          refine tw_puti (v := r_12) (D := (dC, dI)) (C := R_Or) (T := F_Or) (N := 9) (ci := 3) (kd := 15) (ct := ct) (ty := .int) hx hb htb i_Or t_Or t_Or_ok n_Or hown hK hP hD hS hO_3 (hA_3.m m_7) rfl rfl 0 (by decide) (htb (.fieldLink R_WM 220 "WaterMen$Order" "madeOn" "I") tw_324) (fun _ h9 => h9) rfl (by decide +kernel) rfl rfl rfl (i32_full _) d_WM_order_67 (fun f_4 H locs hP hD hS hO_4 hE_4 w_15 hF_4 => ?_)
          have hA_4 := hA_3.trans hE_4
          have hQ := hQ f_4 hF_4
          have hQ := hQ hO_4
          refine lv_aload_n hx hb d_WM_order_70 rfl (lv_at hl 1 rfl) ?_
          refine tw_getr (D := (dC, dI)) (C := R_WM) (T := F_WM) (N := 13) (ci := 0) (kd := 0) (ct := ct) hx hb htb i_WM hown hK hP hO_4 (hA_4.m m0) rfl rfl 3 (by decide) (htb (.fieldLink R_WM 30 "WaterMen" "orders" "[LWaterMen$Order;") tw_325) (fun _ h9 => h9) rfl d_WM_order_71 (fun q_16 e_16 m_16 => ?_)
          have hQ := hQ q_16 e_16
          refine lv_aload_n hx hb d_WM_order_74 rfl (lv_at hl 1 rfl) ?_
          refine tw_getI (x := x_4) (D := (dC, dI)) (C := R_WM) (T := F_WM) (N := 13) (ci := 0) (kd := 0) (ct := ct) hx hb htb i_WM hown hK hP (hA_4.m m0) rfl rfl 8 ((hA_4.ei m0 rfl).trans e_4) (by decide) (htb (.fieldLink R_WM 210 "WaterMen" "orderCount" "I") tw_244) (fun _ h9 => h9) rfl d_WM_order_75 ?_
          refine lv_aload_n hx hb d_WM_order_78 rfl (lv_at hl 1 rfl) ?_
          refine tw_getR (D := (dC, dI)) (C := R_WM) (T := F_WM) (N := 13) (ci := 0) (kd := 0) (ct := ct) hx hb htb i_WM hown hK hP (hA_4.m m0) rfl rfl 12 ((hA_4.er m0 rfl).trans e_7) (by decide) (htb (.fieldLink R_WM 55 "WaterMen" "draft" "LWaterMen$Order;") tw_245) (fun _ h9 => h9) rfl d_WM_order_79 ?_
          refine hb_tv (.ref q_7) rfl ?_
          refine tw_astq (ct := ct) hx hb hK hP hD hS hO_4 m_16 rfl rfl (hA_4.m m_7) rfl rfl (hb_inp b_4.1 c_5 (by decide +kernel)) d_WM_order_82 (fun f_5 H locs hP hD hS hO_5 hE_5 w_17 hF_5 => ?_)
          have hA_5 := hA_4.trans hE_5
          have hQ := hQ f_5 hF_5
          have hQ := hQ hO_5
          refine lv_aload_n hx hb d_WM_order_83 rfl (lv_at hl 1 rfl) ?_
          refine lv_dup hx hb d_WM_order_84 rfl ?_
          refine tw_getI (x := x_4) (D := (dC, dI)) (C := R_WM) (T := F_WM) (N := 13) (ci := 0) (kd := 0) (ct := ct) hx hb htb i_WM hown hK hP (hA_5.m m0) rfl rfl 8 ((hA_5.ei m0 rfl).trans e_4) (by decide) (htb (.fieldLink R_WM 210 "WaterMen" "orderCount" "I") tw_244) (fun _ h9 => h9) rfl d_WM_order_85 ?_
          refine lv_iconst (v := 1) hx hb d_WM_order_88 (by decide +kernel) ?_
          refine lv_iadd hx hb d_WM_order_89 ?_
          refine tw_puti (v := (x_4 + 1)) (D := (dC, dI)) (C := R_WM) (T := F_WM) (N := 13) (ci := 0) (kd := 0) (ct := ct) (ty := .int) hx hb htb i_WM t_WM t_WM_ok n_WM hown hK hP hD hS hO_5 (hA_5.m m0) rfl rfl 8 (by decide) (htb (.fieldLink R_WM 210 "WaterMen" "orderCount" "I") tw_244) (fun _ h9 => h9) rfl (by decide +kernel) rfl rfl rfl ⟨(show ¬ ((x_4 + 1) < 0) from by have e0 := b_4.1; rw [Int32.lt_iff_toInt_lt] at e0; have e1 := c_5; rw [Int32.lt_iff_toInt_lt] at e1; have z0 : (0 : Int32).toInt = 0 := (by decide +kernel); have z1 : (1 : Int32).toInt = 1 := (by decide +kernel); have z2 : (20 : Int32).toInt = 20 := (by decide +kernel); have ss := fb_addI (x := x_4) (y := 1) (by omega) (by omega); rw [Int32.lt_iff_toInt_lt]; omega), (show ¬ (20 < (x_4 + 1)) from by have e0 := b_4.1; rw [Int32.lt_iff_toInt_lt] at e0; have e1 := c_5; rw [Int32.lt_iff_toInt_lt] at e1; have z0 : (0 : Int32).toInt = 0 := (by decide +kernel); have z1 : (1 : Int32).toInt = 1 := (by decide +kernel); have z2 : (20 : Int32).toInt = 20 := (by decide +kernel); have ss := fb_addI (x := x_4) (y := 1) (by omega) (by omega); rw [Int32.lt_iff_toInt_lt]; omega)⟩ d_WM_order_90 (fun f_6 H locs hP hD hS hO_6 hE_6 w_18 hF_6 => ?_)
          have hA_6 := hA_5.trans hE_6
          have hQ := hQ f_6 hF_6
          have hQ := hQ hO_6
          refine lv_aload_n hx hb d_WM_order_93 rfl (lv_at hl 1 rfl) ?_
          refine tw_newO (D := (dC, dI)) (ci := 3) (fs := [.int 0, .int 0, .null, .null, .null, .int 0, .int 0, .int 0, .int 0]) (C := R_Or) (T := F_Or) (N := 9) (ct := ct) hx hb htb i_Or t_Or t_Or_ok hown (htb (.classLink R_WM 28 R_Or) tw_326) (htb (.instantiable R_Or 9) tw_327) (htb (.initialized R_Or) tw_250) hK hP hD hS hA hO_6 76 rfl rfl rfl (by decide +kernel) (df_Or) (Nat.le_of_ble_eq_true rfl) (Nat.le_of_ble_eq_true rfl) d_WM_order_94 (fun q_n7 L_7 f_7 H hP hD hS hO_7 hE_7 m_n7 nq_7 hL_7 hF_7 => ?_)
          have hA_7 := hA_6.trans hE_7
          have hQ := hQ q_n7 L_7 f_7 nq_7 hL_7 hF_7 hO_7
          refine lv_dup hx hb d_WM_order_97 rfl ?_
          have hFc := hb_free hD hS hA
          refine va_callv (va_runIN (As := []) (rest := [.ref q_n7, .ref q0]) ⟨hx, hb, hml, hown, htb⟩ (c_Or_init_w l dC dI ct L_7 f_7 hO_7 q_n7 m_n7 _ _ hQ) ⟨va_cnB 0 htb (gd_I tw_331) rfl rfl rfl (hN.1 _ nw_3) (htb (.initialized R_Or) tw_250) (by decide +kernel) ⟨Nat.le_of_ble_eq_true rfl, Nat.le_of_ble_eq_true rfl⟩, rfl, (htb (.instanceMethod y_Or_init) tw_332)⟩ ⟨pc_blind, pc_pre hP hK hD hN⟩ rfl rfl hl.1 rfl (lv_room (Nat.le_of_ble_eq_true rfl)) d_WM_order_98 ⟨Nat.le_of_ble_eq_true rfl, Nat.le_of_ble_eq_true rfl⟩) hS (fun q _ h => hFc q h) hFc (fun u t H locs ht hvm er hB hz1 hk1 hS => ?_)
          obtain ⟨L_8, f_8⟩ := u
          obtain ⟨hO_8, hE_8, nn_2, nn_3, nn_4, er, hQ⟩ := er
          obtain ⟨hP, hK1, hD1⟩ := hB
          rw [ht] at hP
          have hP : va_P (dC, dI) vwCl (TW ct L_8 f_8) H := hP
          have hD : va_D A (TW ct L_8 f_8) := hD1.weaken (fun _ q _ h => hFc q.1 h)
          have hO_8 : Ok L_8 f_8 := hO_8
          have hE_8 : Ext W_Or_init_w L_7 f_7 L_8 f_8 := hE_8
          clear hK1 hD1 ht hvm hz1 hk1
          have hA_8 := hA_7.trans hE_8
          have hQ := hQ hO_8 hE_8
          clear er
          have hcast : ∀ (j : Nat) (d : FD), FL_15[j]? = some d → okF L_8 f_8 d (f_8 q_n7) j := by
            intro j d hd
            match j, hd with
            | 0, hd => cases hd; exact hO_8 _ (hE_8.m m_n7).1 0 _ (by rw [show (f_8 q_n7).1 = 76 from (hE_8.m m_n7).2]; rfl)
            | 1, hd => cases hd; exact hO_8 _ (hE_8.m m_n7).1 1 _ (by rw [show (f_8 q_n7).1 = 76 from (hE_8.m m_n7).2]; rfl)
            | 2, hd => cases hd; exact ok_nn (hO_8 _ (hE_8.m m_n7).1 2 _ (by rw [show (f_8 q_n7).1 = 76 from (hE_8.m m_n7).2]; rfl)) nn_2
            | 3, hd => cases hd; exact ok_nn (hO_8 _ (hE_8.m m_n7).1 3 _ (by rw [show (f_8 q_n7).1 = 76 from (hE_8.m m_n7).2]; rfl)) nn_3
            | 4, hd => cases hd; exact ok_nn (hO_8 _ (hE_8.m m_n7).1 4 _ (by rw [show (f_8 q_n7).1 = 76 from (hE_8.m m_n7).2]; rfl)) nn_4
            | 5, hd => cases hd; exact hO_8 _ (hE_8.m m_n7).1 5 _ (by rw [show (f_8 q_n7).1 = 76 from (hE_8.m m_n7).2]; rfl)
            | 6, hd => cases hd; exact hO_8 _ (hE_8.m m_n7).1 6 _ (by rw [show (f_8 q_n7).1 = 76 from (hE_8.m m_n7).2]; rfl)
            | 7, hd => cases hd; exact hO_8 _ (hE_8.m m_n7).1 7 _ (by rw [show (f_8 q_n7).1 = 76 from (hE_8.m m_n7).2]; rfl)
            | 8, hd => cases hd; exact hO_8 _ (hE_8.m m_n7).1 8 _ (by rw [show (f_8 q_n7).1 = 76 from (hE_8.m m_n7).2]; rfl)
            | j + 9, hd => exact absurd hd (by simp [FL_15])
          obtain ⟨f_9, hO_9, hTW, hk_9, ho_9, hq_9, hF_9⟩ := tw_cast (ct := ct) (kd := 15) hO_8 (hE_8.m m_n7) rfl rfl (by decide +kernel) (by decide +kernel) hcast
          have hQ := hQ f_9 hF_9
          have hQ := hQ hO_9
          have hE_9 := ext_cast (hE_7.trans hE_8) nq_7 ho_9
          have hA_9 := hA_6.trans hE_9
          rw [← hTW] at hP hD
          have m_n9 : q_n7 ∈ L_8 ∧ tk f_9 q_n7 = 15 := ⟨(hE_8.m m_n7).1, hk_9⟩
          refine tw_putr (b := q_n7) (D := (dC, dI)) (C := R_WM) (T := F_WM) (N := 13) (ci := 0) (kd := 0) (ct := ct) (ty := .object "WaterMen$Order") hx hb htb i_WM t_WM t_WM_ok n_WM hown hK hP hD hS hO_9 (hA_9.m m0) rfl rfl 12 (by decide) (htb (.fieldLink R_WM 55 "WaterMen" "draft" "LWaterMen$Order;") tw_245) (fun _ h9 => h9) rfl (by decide +kernel) rfl rfl rfl m_n9 d_WM_order_101 (fun f_10 H locs hP hD hS hO_10 hE_10 w_20 hF_10 => ?_)
          have hA_10 := hA_9.trans hE_10
          have hQ := hQ f_10 hF_10
          have hQ := hQ hO_10
          refine lv_aload_n hx hb d_WM_order_104 rfl (lv_at hl 1 rfl) ?_
          refine tw_getI (x := (x_4 + 1)) (D := (dC, dI)) (C := R_WM) (T := F_WM) (N := 13) (ci := 0) (kd := 0) (ct := ct) hx hb htb i_WM hown hK hP (hA_10.m m0) rfl rfl 8 ((hE_10.ei (hA_9.m m0) rfl).trans ((hE_9.ei (hA_6.m m0) rfl).trans w_18)) (by decide) (htb (.fieldLink R_WM 210 "WaterMen" "orderCount" "I") tw_244) (fun _ h9 => h9) rfl d_WM_order_105 ?_
          refine lv_iconst (v := 1) hx hb d_WM_order_108 (by decide +kernel) ?_
          refine lv_isub hx hb d_WM_order_109 ?_
          refine W.widen (k := 4) (n := 90) (Nat.le_of_ble_eq_true rfl) (Nat.le_of_ble_eq_true rfl) ?_
          exact W.iret (v := ((x_4 + 1) - 1)) hx hb hr (fun t ht hW => ⟨⟨((x_4 + 1) - 1), (L_8, f_10), rfl, ⟨hO_10, hA_10.mono (by decide +kernel), trivial, hQ⟩, by rw [ht]; exact hP, va_K.moved hW.alike hK, by rw [hAe]; exact hD⟩, by rw [hAe]; exact hS.F ht⟩) (by rw [hAe]; exact hS.2.2) d_WM_order_110
        · have hQ := hQ.2 c_10
          refine lv_bipush (v := (-100)) hx hb d_WM_order_46 (by decide +kernel) ?_
          refine lv_iload_n hx hb d_WM_order_48 rfl (lv_at hl 0 rfl) ?_
          refine lv_isub hx hb d_WM_order_49 ?_
          refine W.widen (k := 4) (n := 90) (Nat.le_of_ble_eq_true rfl) (Nat.le_of_ble_eq_true rfl) ?_
          exact W.iret (v := ((-100) - r_8)) hx hb hr (fun t ht hW => ⟨⟨((-100) - r_8), (L_1, f_2), rfl, ⟨hO_2, hA_2.mono (by decide +kernel), trivial, hQ⟩, by rw [ht]; exact hP, va_K.moved hW.alike hK, by rw [hAe]; exact hD⟩, by rw [hAe]; exact hS.F ht⟩) (by rw [hAe]; exact hS.2.2) d_WM_order_50
      · have hQ := hQ.2 c_5
        refine lv_bipush (v := (-3)) hx hb d_WM_order_18 (by decide +kernel) ?_
        refine W.widen (k := 4) (n := 90) (Nat.le_of_ble_eq_true rfl) (Nat.le_of_ble_eq_true rfl) ?_
        exact W.iret (v := (-3)) hx hb hr (fun t ht hW => ⟨⟨(-3), (L, f), rfl, ⟨hO_0, hA_0.mono (by decide +kernel), trivial, hQ⟩, by rw [ht]; exact hP, va_K.moved hW.alike hK, by rw [hAe]; exact hD⟩, by rw [hAe]; exact hS.F ht⟩) (by rw [hAe]; exact hS.2.2) d_WM_order_20
def f_Md_isLetter  (p_0 : Int32) : Int32 := if p_0 < 97 then (0) else (if 122 < p_0 then (0) else (1))
set_option maxHeartbeats 4000000 in
set_option maxRecDepth 100000 in
theorem c_Md_isLetter (l : Launch)  (p_0 : Int32)  : Met l y_Md_isLetter (.code y_Md_isLetter b_Md_isLetter 1 (some .boolean) :: TB) ({ frames := 0, cells := 0, slots := 0, locals := 0 }) (va_Pc [.int p_0] (fun _ => True)) (vp_Si (fun r => r = f_Md_isLetter p_0)) 0 0 (fun _ => False) := by
  refine Met.ofW (cc := b_Md_isLetter) (maxL := 1) (ret := (some .boolean)) (by decide) rfl ?_
  intro p e s m args below meth c s₁ B hml hv
  obtain ⟨rfl, -⟩ := hv
  have hx := B.exec
  have hb := B.bytes
  have hr := B.returns
  have hts := atoms_spec (ws := (.code y_Md_isLetter b_Md_isLetter 1 (some .boolean) :: TB)) B.pre
  have htb := fun w (h : w ∈ TB) => hts w (List.mem_cons_of_mem _ h)
  have hown : s.vm.findClass R_Md = some m.cls := findClass_of_methodNamed B.named
  have hlocks := B.notSynchronized
  have hl := lv_entry ([.int p_0]) (n := 1) (Nat.le_of_ble_eq_true rfl)
  rw [lg_entry_eq]
  generalize (lg_sl ([.int p_0]) ++ List.replicate (1 - (lg_sl ([.int p_0])).length) Slot.unset).toArray = ls at hl ⊢
  have hl : lv_has ls 1 [(0, .int p_0)] := hl
  refine lv_iload_n hx hb d_Md_isLetter_0 rfl (lv_at hl 0 rfl) ?_
  refine lv_bipush (v := 97) hx hb d_Md_isLetter_1 (by decide +kernel) ?_
  refine lv_icmp_lt (tgt := 16) hx hb d_Md_isLetter_3 (by decide) (fun c_1 => ?_) (fun c_1 => ?_)
  · refine lv_iconst (v := 0) hx hb d_Md_isLetter_16 (by decide +kernel) ?_
    exact W.zret (v := 0) hx hb hr (by decide +kernel) (fun t ht hW => ⟨0, rfl, (by unfold f_Md_isLetter; rw [if_pos c_1]), ht⟩) t_nil d_Md_isLetter_17
  · refine lv_iload_n hx hb d_Md_isLetter_6 rfl (lv_at hl 0 rfl) ?_
    refine lv_bipush (v := 122) hx hb d_Md_isLetter_7 (by decide +kernel) ?_
    refine lv_icmp_gt (tgt := 16) hx hb d_Md_isLetter_9 (by decide) (fun c_2 => ?_) (fun c_2 => ?_)
    · refine lv_iconst (v := 0) hx hb d_Md_isLetter_16 (by decide +kernel) ?_
      exact W.zret (v := 0) hx hb hr (by decide +kernel) (fun t ht hW => ⟨0, rfl, (by unfold f_Md_isLetter; rw [if_neg c_1, if_pos c_2]), ht⟩) t_nil d_Md_isLetter_17
    · refine lv_iconst (v := 1) hx hb d_Md_isLetter_12 (by decide +kernel) ?_
      refine lv_goto (tgt := 17) hx hb d_Md_isLetter_13 (by decide) ?_
      exact W.zret (v := 1) hx hb hr (by decide +kernel) (fun t ht hW => ⟨1, rfl, (by unfold f_Md_isLetter; rw [if_neg c_1, if_neg c_2]), ht⟩) t_nil d_Md_isLetter_17
def f_Md_isDigit  (p_0 : Int32) : Int32 := if p_0 < 48 then (0) else (if 57 < p_0 then (0) else (1))
set_option maxHeartbeats 4000000 in
set_option maxRecDepth 100000 in
theorem c_Md_isDigit (l : Launch)  (p_0 : Int32)  : Met l y_Md_isDigit (.code y_Md_isDigit b_Md_isDigit 1 (some .boolean) :: TB) ({ frames := 0, cells := 0, slots := 0, locals := 0 }) (va_Pc [.int p_0] (fun _ => True)) (vp_Si (fun r => r = f_Md_isDigit p_0)) 0 0 (fun _ => False) := by
  refine Met.ofW (cc := b_Md_isDigit) (maxL := 1) (ret := (some .boolean)) (by decide) rfl ?_
  intro p e s m args below meth c s₁ B hml hv
  obtain ⟨rfl, -⟩ := hv
  have hx := B.exec
  have hb := B.bytes
  have hr := B.returns
  have hts := atoms_spec (ws := (.code y_Md_isDigit b_Md_isDigit 1 (some .boolean) :: TB)) B.pre
  have htb := fun w (h : w ∈ TB) => hts w (List.mem_cons_of_mem _ h)
  have hown : s.vm.findClass R_Md = some m.cls := findClass_of_methodNamed B.named
  have hlocks := B.notSynchronized
  have hl := lv_entry ([.int p_0]) (n := 1) (Nat.le_of_ble_eq_true rfl)
  rw [lg_entry_eq]
  generalize (lg_sl ([.int p_0]) ++ List.replicate (1 - (lg_sl ([.int p_0])).length) Slot.unset).toArray = ls at hl ⊢
  have hl : lv_has ls 1 [(0, .int p_0)] := hl
  refine lv_iload_n hx hb d_Md_isDigit_0 rfl (lv_at hl 0 rfl) ?_
  refine lv_bipush (v := 48) hx hb d_Md_isDigit_1 (by decide +kernel) ?_
  refine lv_icmp_lt (tgt := 16) hx hb d_Md_isDigit_3 (by decide) (fun c_1 => ?_) (fun c_1 => ?_)
  · refine lv_iconst (v := 0) hx hb d_Md_isDigit_16 (by decide +kernel) ?_
    exact W.zret (v := 0) hx hb hr (by decide +kernel) (fun t ht hW => ⟨0, rfl, (by unfold f_Md_isDigit; rw [if_pos c_1]), ht⟩) t_nil d_Md_isDigit_17
  · refine lv_iload_n hx hb d_Md_isDigit_6 rfl (lv_at hl 0 rfl) ?_
    refine lv_bipush (v := 57) hx hb d_Md_isDigit_7 (by decide +kernel) ?_
    refine lv_icmp_gt (tgt := 16) hx hb d_Md_isDigit_9 (by decide) (fun c_2 => ?_) (fun c_2 => ?_)
    · refine lv_iconst (v := 0) hx hb d_Md_isDigit_16 (by decide +kernel) ?_
      exact W.zret (v := 0) hx hb hr (by decide +kernel) (fun t ht hW => ⟨0, rfl, (by unfold f_Md_isDigit; rw [if_neg c_1, if_pos c_2]), ht⟩) t_nil d_Md_isDigit_17
    · refine lv_iconst (v := 1) hx hb d_Md_isDigit_12 (by decide +kernel) ?_
      refine lv_goto (tgt := 17) hx hb d_Md_isDigit_13 (by decide) ?_
      exact W.zret (v := 1) hx hb hr (by decide +kernel) (fun t ht hW => ⟨1, rfl, (by unfold f_Md_isDigit; rw [if_neg c_1, if_neg c_2]), ht⟩) t_nil d_Md_isDigit_17
