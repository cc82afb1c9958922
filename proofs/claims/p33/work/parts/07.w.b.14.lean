def W_Md_takes_w : List (Nat × Nat) := [(27, 42), (27, 43), (27, 44), (27, 45), (27, 46)]
def wp_Md_takes_w (L : List Nat) (f : TF) (q0 : Nat) (p_0 : Int32) (Q : Int32 → List Nat → TF → Prop) : Prop := (((ti f q0 43) = p_0 → ∀ x_3 : Int32, ti f q0 45 = x_3 → ∀ f_1 : TF, f_1 = sI f q0 46 x_3 → Ok L f_1 → wp_Md_advance_w L f_1 q0 (fun (L_2 : List Nat) (f_2 : TF) => Ok L_2 f_2 → Ext W_Md_advance_w L f_1 L_2 f_2 → (Q 1 L_2 f_2 ∧ Q 1 L_2 f_2))) ∧ (¬ ((ti f q0 43) = p_0) → Q 0 L f))
set_option maxHeartbeats 4000000 in
set_option maxRecDepth 100000 in
theorem c_Md_takes_w (l : Launch) (dC : Nat → ClassId) (dI : Nat → Nat → Nat) (ct : Nat → ClassId) (L : List Nat) (f : TF) (hO_0 : Ok L f) (q0 : Nat) (m0 : q0 ∈ L ∧ tk f q0 = 27) (sz : Nat) (p_0 : Int32)  (as_0 : ¬ ((ti f q0 28) < (ti f q0 42))) (Q : Int32 → List Nat → TF → Prop) (hQ : wp_Md_takes_w L f q0 p_0 Q) : Met l y_Md_takes (.code y_Md_takes b_Md_takes 2 (some .boolean) :: TB) ({ frames := 2, cells := 0, slots := 0, locals := 45 }) (va_Pc [.ref q0, .int p_0] (PC dC dI (TW ct L f) (TT ct) sz)) (va_Qi (fun r (u : TSt) => Ok u.1 u.2 ∧ Ext W_Md_takes_w L f u.1 u.2 ∧ ((r = 0 ∧ ¬ ((ti u.2 q0 42) < (ti f q0 42)) ∧ ¬ ((ti f q0 28) < (ti u.2 q0 42)) ∧ True) ∨ (r = 1 ∧ (ti f q0 43) = p_0 ∧ ¬ ((ti u.2 q0 42) < (ti f q0 42)) ∧ ¬ ((ti f q0 28) < (ti u.2 q0 42)) ∧ True)) ∧ Q r u.1 u.2) (fun (u : TSt) t => va_P (dC, dI) vwCl (TW ct u.1 u.2) t.heap ∧ va_K (dC, dI) vwCl (TT ct) t ∧ va_D (va_A (TW ct L f) sz) (TW ct u.1 u.2)) (va_A (TW ct L f) sz)) 0 0 (va_A (TW ct L f) sz) := by
  refine Met.ofW (cc := b_Md_takes) (maxL := 2) (ret := (some .boolean)) (by decide) rfl ?_
  intro p e s m args below meth c s₁ B hml hv
  obtain ⟨rfl, hsz, hP, hK, hD0, hN⟩ := hv
  have hx := B.exec
  have hb := B.bytes
  have hr := B.returns
  have hts := atoms_spec (ws := (.code y_Md_takes b_Md_takes 2 (some .boolean) :: TB)) B.pre
  have htb := fun w (h : w ∈ TB) => hts w (List.mem_cons_of_mem _ h)
  have hown : s.vm.findClass R_Md = some m.cls := findClass_of_methodNamed B.named
  have hlocks := B.notSynchronized
  have hl := lv_entry ([.ref q0, .int p_0]) (n := 2) (Nat.le_of_ble_eq_true rfl)
  rw [lg_entry_eq]
  generalize (lg_sl ([.ref q0, .int p_0]) ++ List.replicate (2 - (lg_sl ([.ref q0, .int p_0])).length) Slot.unset).toArray = ls at hl ⊢
  have hl : lv_has ls 2 [(0, .ref q0), (1, .int p_0)] := hl
  subst hsz
  have hD := hD0.self (sz := s.heap.size)
  obtain ⟨A, hAe⟩ : ∃ A, va_A (TW ct L f) s.heap.size = A := ⟨_, rfl⟩
  rw [hAe] at hD
  have hA : ∀ q : Nat, s.heap.size ≤ q → A q := fun q h => by rw [← hAe]; exact Or.inr h
  have hS : va_S A s.heap s.heap [] := va_S.rf
  have hA_0 : Ext [] L f L f := Ext.rf
  suffices hGo : ∀ (H : Heap) (locs : List Loc), va_P (dC, dI) vwCl (TW ct L f) H → va_S A s.heap H locs → W p l e (headSpec (.code y_Md_takes b_Md_takes 2 (some .boolean) :: TB) ({ frames := 2, cells := 0, slots := 0, locals := 45 })).room s m [.ref q0, .int p_0].toArray below meth c H locs 0 0 (MQ below (va_Qi (fun r (u : TSt) => Ok u.1 u.2 ∧ Ext W_Md_takes_w L f u.1 u.2 ∧ ((r = 0 ∧ ¬ ((ti u.2 q0 42) < (ti f q0 42)) ∧ ¬ ((ti f q0 28) < (ti u.2 q0 42)) ∧ True) ∨ (r = 1 ∧ (ti f q0 43) = p_0 ∧ ¬ ((ti u.2 q0 42) < (ti f q0 42)) ∧ ¬ ((ti f q0 28) < (ti u.2 q0 42)) ∧ True)) ∧ Q r u.1 u.2) (fun (u : TSt) t => va_P (dC, dI) vwCl (TW ct u.1 u.2) t.heap ∧ va_K (dC, dI) vwCl (TT ct) t ∧ va_D (va_A (TW ct L f) s.heap.size) (TW ct u.1 u.2)) (va_A (TW ct L f) s.heap.size)) [.ref q0, .int p_0].toArray s 0 0 (va_A (TW ct L f) s.heap.size)) (F0 m 0 ls []) from hGo _ _ hP hS
  clear hP hS
  intro H locs hP hS
  unfold wp_Md_takes_w at hQ
  have bp_28 := hO_0.i m0 (show slotD 27 28 = some (.inl (0, 400)) from rfl)
  have bp_42 := hO_0.i m0 (show slotD 27 42 = some (.inl (0, 400)) from rfl)
  have bs_1 := hO_0.i m0 (show slotD 27 43 = some (.inl (0, 18)) from rfl)
  refine lv_aload_n hx hb d_Md_takes_0 rfl (lv_at hl 0 rfl) ?_
  refine tw_getI (x := (ti f q0 43)) (D := (dC, dI)) (C := R_Md) (T := F_Md) (N := 64) (ci := 7) (kd := 27) (ct := ct) hx hb htb i_Md hown hK hP m0 rfl rfl 43 rfl (by decide) (htb (.fieldLink R_Md 224 "WaterMenModel" "tk" "I") tw_338) (fun _ h9 => h9) rfl d_Md_takes_1 ?_
  refine lv_iload_n hx hb d_Md_takes_4 rfl (lv_at hl 1 rfl) ?_
  refine lv_icmp_eq (tgt := 10) hx hb d_Md_takes_5 (by decide) (fun c_2 => ?_) (fun c_2 => ?_)
  · have hQ := hQ.1 c_2
    refine lv_aload_n hx hb d_Md_takes_10 rfl (lv_at hl 0 rfl) ?_
    refine lv_aload_n hx hb d_Md_takes_11 rfl (lv_at hl 0 rfl) ?_
    refine tw_geti (D := (dC, dI)) (C := R_Md) (T := F_Md) (N := 64) (ci := 7) (kd := 27) (ct := ct) hx hb htb i_Md hown hK hP hO_0 m0 rfl rfl 45 (by decide) (htb (.fieldLink R_Md 241 "WaterMenModel" "tkNumber" "I") tw_345) (fun _ h9 => h9) rfl d_Md_takes_12 (fun x_3 e_3 b_3 => ?_)
    have hQ := hQ x_3 e_3
    refine tw_puti (v := x_3) (D := (dC, dI)) (C := R_Md) (T := F_Md) (N := 64) (ci := 7) (kd := 27) (ct := ct) (ty := .int) hx hb htb i_Md t_Md t_Md_ok n_Md hown hK hP hD hS hO_0 m0 rfl rfl 46 (by decide) (htb (.fieldLink R_Md 266 "WaterMenModel" "got" "I") tw_369) (fun _ h9 => h9) rfl (by decide +kernel) rfl rfl rfl (i32_full _) d_Md_takes_15 (fun f_1 H locs hP hD hS hO_1 hE_1 w_4 hF_1 => ?_)
    have hA_1 := hA_0.trans hE_1
    have hQ := hQ f_1 hF_1
    have hQ := hQ hO_1
    refine lv_aload_n hx hb d_Md_takes_18 rfl (lv_at hl 0 rfl) ?_
    have hFc := hb_free hD hS hA
    refine va_callv (va_runV (As := []) (rest := []) ⟨hx, hb, hml, hown, htb⟩ (c_Md_advance_w l dC dI ct L f_1 hO_1 q0 (hA_1.m m0) _ (by rw [show ti f_1 q0 28 = (ti f q0 28) from ((hA_1.ei m0 rfl).trans rfl)]; rw [show ti f_1 q0 42 = (ti f q0 42) from ((hA_1.ei m0 rfl).trans rfl)]; first | done | exact as_0) _ hQ) (cwV 0 htb (gd_V tw_363 tw_364 tw_365 tw_89 tw_362) rfl rfl rfl (by decide +kernel) ⟨Nat.le_of_ble_eq_true rfl, Nat.le_of_ble_eq_true rfl⟩) ⟨pc_blind, tw_recv hK hP (hA_1.m m0) rfl rfl, pc_pre hP hK hD hN⟩ rfl rfl hl.1 rfl (lv_room (Nat.le_of_ble_eq_true rfl)) d_Md_takes_19 ⟨Nat.le_of_ble_eq_true rfl, Nat.le_of_ble_eq_true rfl⟩) hS (fun q _ h => hFc q h) hFc (fun u t H locs ht hvm er hB hz1 hk1 hS => ?_)
    obtain ⟨L_2, f_2⟩ := u
    obtain ⟨hO_2, hE_2, er, hQ⟩ := er
    obtain ⟨hP, hK1, hD1⟩ := hB
    rw [ht] at hP
    have hP : va_P (dC, dI) vwCl (TW ct L_2 f_2) H := hP
    have hD : va_D A (TW ct L_2 f_2) := hD1.weaken (fun _ q _ h => hFc q.1 h)
    have hO_2 : Ok L_2 f_2 := hO_2
    have hE_2 : Ext W_Md_advance_w L f_1 L_2 f_2 := hE_2
    clear hK1 hD1 ht hvm hz1 hk1
    have hA_2 := hA_1.trans hE_2
    have hQ := hQ hO_2 hE_2
    rcases er with ⟨po_6, po_7, po_8, -⟩ | ⟨po_9, po_10, -⟩
    · have hQ := hQ.1
      rw [show ti f_1 q0 42 = (ti f q0 42) from ((hA_1.ei m0 rfl).trans rfl)] at po_7
      rw [show ti f_1 q0 28 = (ti f q0 28) from ((hA_1.ei m0 rfl).trans rfl)] at po_8
      refine lv_iconst (v := 1) hx hb d_Md_takes_22 (by decide +kernel) ?_
      refine W.widen (k := 0) (n := 0) (Nat.le_of_ble_eq_true rfl) (Nat.le_of_ble_eq_true rfl) ?_
      exact W.zret (v := 1) hx hb hr (by decide +kernel) (fun t ht hW => ⟨⟨1, (L_2, f_2), rfl, ⟨hO_2, hA_2.mono (by decide +kernel), (Or.inr ⟨rfl, c_2, (by show ¬ ((ti f_2 q0 42) < (ti f q0 42)); rw [show ti f_2 q0 42 = (ti f_2 q0 42) from rfl]; first | done | exact po_7), (by show ¬ ((ti f q0 28) < (ti f_2 q0 42)); rw [show ti f_2 q0 42 = (ti f_2 q0 42) from rfl]; first | done | exact po_8), trivial⟩), hQ⟩, by rw [ht]; exact hP, va_K.moved hW.alike hK, by rw [hAe]; exact hD⟩, by rw [hAe]; exact hS.F ht⟩) (by rw [hAe]; exact hS.2.2) d_Md_takes_23
    · have hQ := hQ.2
      rw [show ti f_1 q0 42 = (ti f q0 42) from ((hA_1.ei m0 rfl).trans rfl)] at po_9
      rw [show ti f_1 q0 28 = (ti f q0 28) from ((hA_1.ei m0 rfl).trans rfl)] at po_10
      refine lv_iconst (v := 1) hx hb d_Md_takes_22 (by decide +kernel) ?_
      refine W.widen (k := 0) (n := 0) (Nat.le_of_ble_eq_true rfl) (Nat.le_of_ble_eq_true rfl) ?_
      exact W.zret (v := 1) hx hb hr (by decide +kernel) (fun t ht hW => ⟨⟨1, (L_2, f_2), rfl, ⟨hO_2, hA_2.mono (by decide +kernel), (Or.inr ⟨rfl, c_2, (by show ¬ ((ti f_2 q0 42) < (ti f q0 42)); rw [show ti f_2 q0 42 = (ti f_2 q0 42) from rfl]; first | done | exact (show ¬ ((ti f_2 q0 42) < (ti f q0 42)) from ((fun (a_0 : Int32) (a_1 : Int32) (k_0 : ¬ (400 < a_0)) (k_1 : ¬ (a_1 < (a_0 + 1))) => (show ¬ (a_1 < a_0) from by have z0 : (1 : Int32).toInt = 1 := (by decide +kernel); have z1 : (400 : Int32).toInt = 400 := (by decide +kernel); have r0 := fb_rng (a_0); have r1 := fb_rng (a_1); have e0 := k_0; rw [Int32.lt_iff_toInt_lt, z1] at e0; obtain ⟨n_0, hn_0, s0⟩ := nd_add (x := a_0) (y := (1 : Int32)) (by (try rw [z0]); omega) (by (try rw [z0]); omega); rw [z0] at s0; have e1 := k_1; rw [hn_0, Int32.lt_iff_toInt_lt] at e1; rw [Int32.lt_iff_toInt_lt]; omega)) (ti f q0 42) (ti f_2 q0 42) bp_42.2 po_9))), (by show ¬ ((ti f q0 28) < (ti f_2 q0 42)); rw [show ti f_2 q0 42 = (ti f_2 q0 42) from rfl]; first | done | exact po_10), trivial⟩), hQ⟩, by rw [ht]; exact hP, va_K.moved hW.alike hK, by rw [hAe]; exact hD⟩, by rw [hAe]; exact hS.F ht⟩) (by rw [hAe]; exact hS.2.2) d_Md_takes_23
  · have hQ := hQ.2 c_2
    refine lv_iconst (v := 0) hx hb d_Md_takes_8 (by decide +kernel) ?_
    refine W.widen (k := 0) (n := 0) (Nat.le_of_ble_eq_true rfl) (Nat.le_of_ble_eq_true rfl) ?_
    exact W.zret (v := 0) hx hb hr (by decide +kernel) (fun t ht hW => ⟨⟨0, (L, f), rfl, ⟨hO_0, hA_0.mono (by decide +kernel), (Or.inl ⟨rfl, (by show ¬ ((ti f q0 42) < (ti f q0 42)); rw [show ti f q0 42 = (ti f q0 42) from rfl]; first | done | exact (show ¬ ((ti f q0 42) < (ti f q0 42)) from ((fun (a_0 : Int32)  => (show ¬ (a_0 < a_0) from by have r0 := fb_rng (a_0); rw [Int32.lt_iff_toInt_lt]; omega)) (ti f q0 42) ))), (by show ¬ ((ti f q0 28) < (ti f q0 42)); rw [show ti f q0 42 = (ti f q0 42) from rfl]; first | done | exact as_0), trivial⟩), hQ⟩, by rw [ht]; exact hP, va_K.moved hW.alike hK, by rw [hAe]; exact hD⟩, by rw [hAe]; exact hS.F ht⟩) (by rw [hAe]; exact hS.2.2) d_Md_takes_9
def W_Md_line_w : List (Nat × Nat) := [(27, 42), (27, 43), (27, 44), (27, 45), (27, 46), (53, 1000), (54, 1000), (55, 1000), (56, 1000), (57, 1000), (58, 1000), (59, 1000), (60, 1000), (61, 1000), (62, 1000)]
def wp_Md_line_w (L : List Nat) (f : TF) (q0 : Nat) (p_0 : Int32) (Q : Int32 → List Nat → TF → Prop) : Prop := ((10 ≤ (ti f q0 43) → (((ti f q0 43) = 10 → ∀ q_125 : Nat, tr f q0 32 = some q_125 → ∀ x_126 : Int32, ti f q_125 (p_0 : Int32).toNatClampNeg = x_126 → ((x_126 = 12 → Q 0 L f) ∧ (¬ (x_126 = 12) → wp_Md_advance_w L f q0 (fun (L_1 : List Nat) (f_1 : TF) => Ok L_1 f_1 → Ext W_Md_advance_w L f L_1 f_1 → (wp_Md_takes_w L_1 f_1 q0 (1 : Int32) (fun (r_134 : Int32) (L_2 : List Nat) (f_2 : TF) => Ok L_2 f_2 → Ext W_Md_takes_w L_1 f_1 L_2 f_2 → ((r_134 = 0 → Q 0 L_2 f_2) ∧ (r_134 = 1 → True))) ∧ wp_Md_takes_w L_1 f_1 q0 (1 : Int32) (fun (r_140 : Int32) (L_2 : List Nat) (f_2 : TF) => Ok L_2 f_2 → Ext W_Md_takes_w L_1 f_1 L_2 f_2 → ((r_140 = 0 → Q 0 L_2 f_2) ∧ (r_140 = 1 → ∀ x_146 : Int32, ti f_2 q0 46 = x_146 → wp_Md_takes_w L_2 f_2 q0 (4 : Int32) (fun (r_147 : Int32) (L_3 : List Nat) (f_3 : TF) => Ok L_3 f_3 → Ext W_Md_takes_w L_2 f_2 L_3 f_3 → ((r_147 = 0 → Q 0 L_3 f_3) ∧ (r_147 = 1 → wp_Md_takes_w L_3 f_3 q0 (1 : Int32) (fun (r_153 : Int32) (L_4 : List Nat) (f_4 : TF) => Ok L_4 f_4 → Ext W_Md_takes_w L_3 f_3 L_4 f_4 → ((r_153 = 0 → Q 0 L_4 f_4) ∧ (r_153 = 1 → ∀ x_159 : Int32, ti f_4 q0 46 = x_159 → wp_Md_takes_w L_4 f_4 q0 (5 : Int32) (fun (r_160 : Int32) (L_5 : List Nat) (f_5 : TF) => Ok L_5 f_5 → Ext W_Md_takes_w L_4 f_4 L_5 f_5 → ((r_160 = 0 → Q 0 L_5 f_5) ∧ (r_160 = 1 → wp_Md_takes_w L_5 f_5 q0 (1 : Int32) (fun (r_166 : Int32) (L_6 : List Nat) (f_6 : TF) => Ok L_6 f_6 → Ext W_Md_takes_w L_5 f_5 L_6 f_6 → ((r_166 = 0 → Q 0 L_6 f_6) ∧ (r_166 = 1 → ∀ x_172 : Int32, ti f_6 q0 46 = x_172 → wp_Md_takes_w L_6 f_6 q0 (2 : Int32) (fun (r_173 : Int32) (L_7 : List Nat) (f_7 : TF) => Ok L_7 f_7 → Ext W_Md_takes_w L_6 f_6 L_7 f_7 → ((r_173 = 0 → Q 0 L_7 f_7) ∧ (r_173 = 1 → ∀ q_179 : Nat, tr f_7 q0 33 = some q_179 → ∀ f_8 : TF, f_8 = sI f_7 q_179 (((12 * p_0) + x_126) : Int32).toNatClampNeg x_146 → Ok L_7 f_8 → ∀ q_182 : Nat, tr f_8 q0 34 = some q_182 → ∀ f_9 : TF, f_9 = sI f_8 q_182 (((12 * p_0) + x_126) : Int32).toNatClampNeg x_159 → Ok L_7 f_9 → ∀ q_185 : Nat, tr f_9 q0 35 = some q_185 → ∀ f_10 : TF, f_10 = sI f_9 q_185 (((12 * p_0) + x_126) : Int32).toNatClampNeg x_172 → Ok L_7 f_10 → ∀ f_11 : TF, f_11 = sI f_10 q_125 (p_0 : Int32).toNatClampNeg (x_126 + 1) → Ok L_7 f_11 → Q 1 L_7 f_11))))))))))))))))))))))) ∧ (¬ ((ti f q0 43) = 10) → (((ti f q0 43) = 11 → ∀ q_60 : Nat, tr f q0 36 = some q_60 → ∀ x_61 : Int32, ti f q_60 (p_0 : Int32).toNatClampNeg = x_61 → ((x_61 = 12 → Q 0 L f) ∧ (¬ (x_61 = 12) → wp_Md_advance_w L f q0 (fun (L_1 : List Nat) (f_1 : TF) => Ok L_1 f_1 → Ext W_Md_advance_w L f L_1 f_1 → (wp_Md_takes_w L_1 f_1 q0 (1 : Int32) (fun (r_69 : Int32) (L_2 : List Nat) (f_2 : TF) => Ok L_2 f_2 → Ext W_Md_takes_w L_1 f_1 L_2 f_2 → ((r_69 = 0 → Q 0 L_2 f_2) ∧ (r_69 = 1 → True))) ∧ wp_Md_takes_w L_1 f_1 q0 (1 : Int32) (fun (r_75 : Int32) (L_2 : List Nat) (f_2 : TF) => Ok L_2 f_2 → Ext W_Md_takes_w L_1 f_1 L_2 f_2 → ((r_75 = 0 → Q 0 L_2 f_2) ∧ (r_75 = 1 → ∀ x_81 : Int32, ti f_2 q0 46 = x_81 → wp_Md_takes_w L_2 f_2 q0 (4 : Int32) (fun (r_82 : Int32) (L_3 : List Nat) (f_3 : TF) => Ok L_3 f_3 → Ext W_Md_takes_w L_2 f_2 L_3 f_3 → ((r_82 = 0 → Q 0 L_3 f_3) ∧ (r_82 = 1 → wp_Md_takes_w L_3 f_3 q0 (1 : Int32) (fun (r_88 : Int32) (L_4 : List Nat) (f_4 : TF) => Ok L_4 f_4 → Ext W_Md_takes_w L_3 f_3 L_4 f_4 → ((r_88 = 0 → Q 0 L_4 f_4) ∧ (r_88 = 1 → ∀ x_94 : Int32, ti f_4 q0 46 = x_94 → wp_Md_takes_w L_4 f_4 q0 (5 : Int32) (fun (r_95 : Int32) (L_5 : List Nat) (f_5 : TF) => Ok L_5 f_5 → Ext W_Md_takes_w L_4 f_4 L_5 f_5 → ((r_95 = 0 → Q 0 L_5 f_5) ∧ (r_95 = 1 → wp_Md_takes_w L_5 f_5 q0 (1 : Int32) (fun (r_101 : Int32) (L_6 : List Nat) (f_6 : TF) => Ok L_6 f_6 → Ext W_Md_takes_w L_5 f_5 L_6 f_6 → ((r_101 = 0 → Q 0 L_6 f_6) ∧ (r_101 = 1 → ∀ x_107 : Int32, ti f_6 q0 46 = x_107 → wp_Md_takes_w L_6 f_6 q0 (2 : Int32) (fun (r_108 : Int32) (L_7 : List Nat) (f_7 : TF) => Ok L_7 f_7 → Ext W_Md_takes_w L_6 f_6 L_7 f_7 → ((r_108 = 0 → Q 0 L_7 f_7) ∧ (r_108 = 1 → ∀ q_114 : Nat, tr f_7 q0 37 = some q_114 → ∀ f_8 : TF, f_8 = sI f_7 q_114 (((12 * p_0) + x_61) : Int32).toNatClampNeg x_81 → Ok L_7 f_8 → ∀ q_117 : Nat, tr f_8 q0 38 = some q_117 → ∀ f_9 : TF, f_9 = sI f_8 q_117 (((12 * p_0) + x_61) : Int32).toNatClampNeg x_94 → Ok L_7 f_9 → ∀ q_120 : Nat, tr f_9 q0 39 = some q_120 → ∀ f_10 : TF, f_10 = sI f_9 q_120 (((12 * p_0) + x_61) : Int32).toNatClampNeg x_107 → Ok L_7 f_10 → ∀ f_11 : TF, f_11 = sI f_10 q_60 (p_0 : Int32).toNatClampNeg (x_61 + 1) → Ok L_7 f_11 → Q 1 L_7 f_11))))))))))))))))))))))) ∧ (¬ ((ti f q0 43) = 11) → ∀ q_5 : Nat, tr f q0 40 = some q_5 → ∀ x_6 : Int32, ti f q_5 ((((9 * p_0) + (ti f q0 43)) - 10) : Int32).toNatClampNeg = x_6 → ((x_6 < 0 → wp_Md_advance_w L f q0 (fun (L_1 : List Nat) (f_1 : TF) => Ok L_1 f_1 → Ext W_Md_advance_w L f L_1 f_1 → (wp_Md_takes_w L_1 f_1 q0 (1 : Int32) (fun (r_14 : Int32) (L_2 : List Nat) (f_2 : TF) => Ok L_2 f_2 → Ext W_Md_takes_w L_1 f_1 L_2 f_2 → ((r_14 = 0 → Q 0 L_2 f_2) ∧ (r_14 = 1 → True))) ∧ wp_Md_takes_w L_1 f_1 q0 (1 : Int32) (fun (r_20 : Int32) (L_2 : List Nat) (f_2 : TF) => Ok L_2 f_2 → Ext W_Md_takes_w L_1 f_1 L_2 f_2 → ((r_20 = 0 → Q 0 L_2 f_2) ∧ (r_20 = 1 → ∀ x_26 : Int32, ti f_2 q0 46 = x_26 → (((ti f q0 43) = 16 → wp_Md_takes_w L_2 f_2 q0 (4 : Int32) (fun (r_38 : Int32) (L_3 : List Nat) (f_3 : TF) => Ok L_3 f_3 → Ext W_Md_takes_w L_2 f_2 L_3 f_3 → ((r_38 = 0 → Q 0 L_3 f_3) ∧ (r_38 = 1 → wp_Md_takes_w L_3 f_3 q0 (1 : Int32) (fun (r_44 : Int32) (L_4 : List Nat) (f_4 : TF) => Ok L_4 f_4 → Ext W_Md_takes_w L_3 f_3 L_4 f_4 → ((r_44 = 0 → Q 0 L_4 f_4) ∧ (r_44 = 1 → ∀ x_50 : Int32, ti f_4 q0 46 = x_50 → wp_Md_takes_w L_4 f_4 q0 (2 : Int32) (fun (r_51 : Int32) (L_5 : List Nat) (f_5 : TF) => Ok L_5 f_5 → Ext W_Md_takes_w L_4 f_4 L_5 f_5 → ((r_51 = 0 → Q 0 L_5 f_5) ∧ (r_51 = 1 → ∀ f_6 : TF, f_6 = sI f_5 q_5 ((((9 * p_0) + (ti f q0 43)) - 10) : Int32).toNatClampNeg x_26 → Ok L_5 f_6 → ∀ q_58 : Nat, tr f_6 q0 41 = some q_58 → ∀ f_7 : TF, f_7 = sI f_6 q_58 (p_0 : Int32).toNatClampNeg x_50 → Ok L_5 f_7 → Q 1 L_5 f_7)))))))))) ∧ (¬ ((ti f q0 43) = 16) → wp_Md_takes_w L_2 f_2 q0 (2 : Int32) (fun (r_28 : Int32) (L_3 : List Nat) (f_3 : TF) => Ok L_3 f_3 → Ext W_Md_takes_w L_2 f_2 L_3 f_3 → ((r_28 = 0 → Q 0 L_3 f_3) ∧ (r_28 = 1 → ∀ f_4 : TF, f_4 = sI f_3 q_5 ((((9 * p_0) + (ti f q0 43)) - 10) : Int32).toNatClampNeg x_26 → Ok L_3 f_4 → ∀ q_35 : Nat, tr f_4 q0 41 = some q_35 → ∀ x_36 : Int32, ti f_4 q_35 (p_0 : Int32).toNatClampNeg = x_36 → ∀ f_5 : TF, f_5 = sI f_4 q_35 (p_0 : Int32).toNatClampNeg x_36 → Ok L_3 f_5 → Q 1 L_3 f_5))))))))))) ∧ (¬ (x_6 < 0) → Q 0 L f))))))) ∧ (¬ (10 ≤ (ti f q0 43)) → Q 0 L f))
set_option maxHeartbeats 4000000 in
set_option maxRecDepth 100000 in
theorem c_Md_line_w (l : Launch) (dC : Nat → ClassId) (dI : Nat → Nat → Nat) (ct : Nat → ClassId) (L : List Nat) (f : TF) (hO_0 : Ok L f) (q0 : Nat) (m0 : q0 ∈ L ∧ tk f q0 = 27) (sz : Nat) (p_0 : Int32)  (as_0 : ¬ ((ti f q0 28) < (ti f q0 42))) (as_1 : ¬ (p_0 < 0)) (as_2 : ¬ (19 < p_0)) (Q : Int32 → List Nat → TF → Prop) (hQ : wp_Md_line_w L f q0 p_0 Q) : Met l y_Md_line (.code y_Md_line b_Md_line 6 (some .boolean) :: TB) ({ frames := 3, cells := 0, slots := 0, locals := 66 }) (va_Pc [.ref q0, .int p_0] (PC dC dI (TW ct L f) (TT ct) sz)) (va_Qi (fun r (u : TSt) => Ok u.1 u.2 ∧ Ext W_Md_line_w L f u.1 u.2 ∧ ((r = 0 ∧ ¬ ((ti u.2 q0 42) < (ti f q0 42)) ∧ ¬ ((ti f q0 28) < (ti u.2 q0 42)) ∧ True) ∨ (r = 1 ∧ ¬ ((ti u.2 q0 42) < ((ti f q0 42) + 1)) ∧ ¬ ((ti f q0 28) < (ti u.2 q0 42)) ∧ True)) ∧ Q r u.1 u.2) (fun (u : TSt) t => va_P (dC, dI) vwCl (TW ct u.1 u.2) t.heap ∧ va_K (dC, dI) vwCl (TT ct) t ∧ va_D (va_A (TW ct L f) sz) (TW ct u.1 u.2)) (va_A (TW ct L f) sz)) 0 0 (va_A (TW ct L f) sz) := by
  refine Met.ofW (cc := b_Md_line) (maxL := 6) (ret := (some .boolean)) (by decide) rfl ?_
  intro p e s m args below meth c s₁ B hml hv
  obtain ⟨rfl, hsz, hP, hK, hD0, hN⟩ := hv
  have hx := B.exec
  have hb := B.bytes
  have hr := B.returns
  have hts := atoms_spec (ws := (.code y_Md_line b_Md_line 6 (some .boolean) :: TB)) B.pre
  have htb := fun w (h : w ∈ TB) => hts w (List.mem_cons_of_mem _ h)
  have hown : s.vm.findClass R_Md = some m.cls := findClass_of_methodNamed B.named
  have hlocks := B.notSynchronized
  have hl := lv_entry ([.ref q0, .int p_0]) (n := 6) (Nat.le_of_ble_eq_true rfl)
  rw [lg_entry_eq]
  generalize (lg_sl ([.ref q0, .int p_0]) ++ List.replicate (6 - (lg_sl ([.ref q0, .int p_0])).length) Slot.unset).toArray = ls at hl ⊢
  have hl : lv_has ls 6 [(0, .ref q0), (1, .int p_0)] := hl
  subst hsz
  have hD := hD0.self (sz := s.heap.size)
  obtain ⟨A, hAe⟩ : ∃ A, va_A (TW ct L f) s.heap.size = A := ⟨_, rfl⟩
  rw [hAe] at hD
  have hA : ∀ q : Nat, s.heap.size ≤ q → A q := fun q h => by rw [← hAe]; exact Or.inr h
  have hS : va_S A s.heap s.heap [] := va_S.rf
  have hA_0 : Ext [] L f L f := Ext.rf
  suffices hGo : ∀ (H : Heap) (locs : List Loc), va_P (dC, dI) vwCl (TW ct L f) H → va_S A s.heap H locs → W p l e (headSpec (.code y_Md_line b_Md_line 6 (some .boolean) :: TB) ({ frames := 3, cells := 0, slots := 0, locals := 66 })).room s m [.ref q0, .int p_0].toArray below meth c H locs 0 0 (MQ below (va_Qi (fun r (u : TSt) => Ok u.1 u.2 ∧ Ext W_Md_line_w L f u.1 u.2 ∧ ((r = 0 ∧ ¬ ((ti u.2 q0 42) < (ti f q0 42)) ∧ ¬ ((ti f q0 28) < (ti u.2 q0 42)) ∧ True) ∨ (r = 1 ∧ ¬ ((ti u.2 q0 42) < ((ti f q0 42) + 1)) ∧ ¬ ((ti f q0 28) < (ti u.2 q0 42)) ∧ True)) ∧ Q r u.1 u.2) (fun (u : TSt) t => va_P (dC, dI) vwCl (TW ct u.1 u.2) t.heap ∧ va_K (dC, dI) vwCl (TT ct) t ∧ va_D (va_A (TW ct L f) s.heap.size) (TW ct u.1 u.2)) (va_A (TW ct L f) s.heap.size)) [.ref q0, .int p_0].toArray s 0 0 (va_A (TW ct L f) s.heap.size)) (F0 m 0 ls []) from hGo _ _ hP hS
  clear hP hS
  intro H locs hP hS
  unfold wp_Md_line_w at hQ
  have bp_28 := hO_0.i m0 (show slotD 27 28 = some (.inl (0, 400)) from rfl)
  have bp_42 := hO_0.i m0 (show slotD 27 42 = some (.inl (0, 400)) from rfl)
  have bs_1 := hO_0.i m0 (show slotD 27 43 = some (.inl (0, 18)) from rfl)
  refine lv_aload_n hx hb d_Md_line_0 rfl (lv_at hl 0 rfl) ?_
  refine tw_getI (x := (ti f q0 43)) (D := (dC, dI)) (C := R_Md) (T := F_Md) (N := 64) (ci := 7) (kd := 27) (ct := ct) hx hb htb i_Md hown hK hP m0 rfl rfl 43 rfl (by decide) (htb (.fieldLink R_Md 224 "WaterMenModel" "tk" "I") tw_338) (fun _ h9 => h9) rfl d_Md_line_1 ?_
  refine lv_istore_n (lv' := [(2, .int (ti f q0 43)), (0, .ref q0), (1, .int p_0)]) hx hb d_Md_line_4 rfl hl (by decide) rfl (fun ls hl => ?_)
  refine lv_iload_n hx hb d_Md_line_5 rfl (lv_at hl 0 rfl) ?_
  refine lv_bipush (v := 10) hx hb d_Md_line_6 (by decide +kernel) ?_
  refine lv_icmp_ge (tgt := 13) hx hb d_Md_line_8 (by decide) (fun c_2 => ?_) (fun c_2 => ?_)
  · have hQ := hQ.1 c_2
    refine lv_iload_n hx hb d_Md_line_13 rfl (lv_at hl 0 rfl) ?_
    refine lv_bipush (v := 10) hx hb d_Md_line_14 (by decide +kernel) ?_
    refine lv_icmp_ne (tgt := 33) hx hb d_Md_line_16 (by decide) (fun c_3 => ?_) (fun c_3 => ?_)
    · have hQ := hQ.2 c_3
      refine lv_iload_n hx hb d_Md_line_33 rfl (lv_at hl 0 rfl) ?_
      refine lv_bipush (v := 11) hx hb d_Md_line_34 (by decide +kernel) ?_
      refine lv_icmp_ne (tgt := 53) hx hb d_Md_line_36 (by decide) (fun c_4 => ?_) (fun c_4 => ?_)
      · have hQ := hQ.2 c_4
        refine lv_aload_n hx hb d_Md_line_53 rfl (lv_at hl 1 rfl) ?_
        refine tw_getr (D := (dC, dI)) (C := R_Md) (T := F_Md) (N := 64) (ci := 7) (kd := 27) (ct := ct) hx hb htb i_Md hown hK hP hO_0 m0 rfl rfl 40 (by decide) (htb (.fieldLink R_Md 143 "WaterMenModel" "single" "[I") tw_368) (fun _ h9 => h9) rfl d_Md_line_54 (fun q_5 e_5 m_5 => ?_)
        have hQ := hQ q_5 e_5
        refine lv_bipush (v := 9) hx hb d_Md_line_57 (by decide +kernel) ?_
        refine lv_iload_n hx hb d_Md_line_59 rfl (lv_at hl 2 rfl) ?_
        refine lv_imul hx hb d_Md_line_60 ?_
        refine lv_iload_n hx hb d_Md_line_61 rfl (lv_at hl 0 rfl) ?_
        refine lv_iadd hx hb d_Md_line_62 ?_
        refine lv_bipush (v := 10) hx hb d_Md_line_63 (by decide +kernel) ?_
        refine lv_isub hx hb d_Md_line_65 ?_
        refine tw_aldI (ct := ct) hx hb hK hP hO_0 m_5 rfl ((fun (a_0 : Int32) (a_1 : Int32) (k_0 : ¬ (a_0 < 0)) (k_1 : ¬ (19 < a_0)) (k_2 : ¬ (18 < a_1)) (k_3 : 10 ≤ a_1) => (show vp_in ((((9 * a_0) + a_1) - 10)) 180 from by have z0 : (0 : Int32).toInt = 0 := (by decide +kernel); have z1 : (9 : Int32).toInt = 9 := (by decide +kernel); have z2 : (10 : Int32).toInt = 10 := (by decide +kernel); have z3 : (18 : Int32).toInt = 18 := (by decide +kernel); have z4 : (19 : Int32).toInt = 19 := (by decide +kernel); have r0 := fb_rng (a_0); have r1 := fb_rng (a_1); have e0 := k_0; rw [Int32.lt_iff_toInt_lt, z0] at e0; have e1 := k_1; rw [Int32.lt_iff_toInt_lt, z4] at e1; have e2 := k_2; rw [Int32.lt_iff_toInt_lt, z3] at e2; have e3 := k_3; rw [Int32.le_iff_toInt_le, z2] at e3; obtain ⟨n_0, hn_0, s0⟩ := nd_mul (x := (9 : Int32)) (y := (a_0)) (by (try rw [z1]); omega) (by (try rw [z1]); omega); rw [z1] at s0; obtain ⟨n_1, hn_1, s1⟩ := nd_add (x := n_0) (y := a_1) (by omega) (by omega); obtain ⟨n_2, hn_2, s2⟩ := nd_sub (x := n_1) (y := (10 : Int32)) (by (try rw [z2]); omega) (by (try rw [z2]); omega); rw [z2] at s2; rw [hn_0, hn_1, hn_2, vp_in_iff]; omega)) p_0 (ti f q0 43) as_1 as_2 bs_1.2 c_2) d_Md_line_66 (fun x_6 e_6 b_6 => ?_)
        have hQ := hQ x_6 e_6
        refine lv_if_lt (tgt := 72) hx hb d_Md_line_67 (by decide) (fun c_7 => ?_) (fun c_7 => ?_)
        · have hQ := hQ.1 c_7
          refine lv_aload_n hx hb d_Md_line_72 rfl (lv_at hl 1 rfl) ?_
          have hFc := hb_free hD hS hA
          refine va_callv (va_runV (As := []) (rest := []) ⟨hx, hb, hml, hown, htb⟩ (c_Md_advance_w l dC dI ct L f hO_0 q0 m0 _ (by rw [show ti f q0 28 = (ti f q0 28) from rfl]; rw [show ti f q0 42 = (ti f q0 42) from rfl]; first | done | exact as_0) _ hQ) (cwV 0 htb (gd_V tw_363 tw_364 tw_365 tw_89 tw_362) rfl rfl rfl (by decide +kernel) ⟨Nat.le_of_ble_eq_true rfl, Nat.le_of_ble_eq_true rfl⟩) ⟨pc_blind, tw_recv hK hP m0 rfl rfl, pc_pre hP hK hD hN⟩ rfl rfl hl.1 rfl (lv_room (Nat.le_of_ble_eq_true rfl)) d_Md_line_73 ⟨Nat.le_of_ble_eq_true rfl, Nat.le_of_ble_eq_true rfl⟩) hS (fun q _ h => hFc q h) hFc (fun u t H locs ht hvm er hB hz1 hk1 hS => ?_)
          obtain ⟨L_1, f_1⟩ := u
          obtain ⟨hO_1, hE_1, er, hQ⟩ := er
          obtain ⟨hP, hK1, hD1⟩ := hB
          rw [ht] at hP
          have hP : va_P (dC, dI) vwCl (TW ct L_1 f_1) H := hP
          have hD : va_D A (TW ct L_1 f_1) := hD1.weaken (fun _ q _ h => hFc q.1 h)
          have hO_1 : Ok L_1 f_1 := hO_1
          have hE_1 : Ext W_Md_advance_w L f L_1 f_1 := hE_1
          clear hK1 hD1 ht hvm hz1 hk1
          have hA_1 := hA_0.trans hE_1
          have hQ := hQ hO_1 hE_1
          rcases er with ⟨po_9, po_10, po_11, -⟩ | ⟨po_12, po_13, -⟩
          · have hQ := hQ.1
            refine lv_aload_n hx hb d_Md_line_76 rfl (lv_at hl 1 rfl) ?_
            refine lv_iconst (v := 1) hx hb d_Md_line_77 (by decide +kernel) ?_
            have hFc := hb_free hD hS hA
            refine va_calli (va_runV (As := [.int 1]) (rest := []) ⟨hx, hb, hml, hown, htb⟩ (c_Md_takes_w l dC dI ct L_1 f_1 hO_1 q0 (hA_1.m m0) _ (1 : Int32) (by rw [show ti f_1 q0 28 = (ti f q0 28) from ((hA_1.ei m0 rfl).trans rfl)]; rw [show ti f_1 q0 42 = (ti f_1 q0 42) from rfl]; first | done | exact po_11) _ hQ) (cwV 1 htb (gd_V tw_371 tw_372 tw_373 tw_89 tw_370) rfl rfl rfl (by decide +kernel) ⟨Nat.le_of_ble_eq_true rfl, Nat.le_of_ble_eq_true rfl⟩) ⟨pc_blind, tw_recv hK hP (hA_1.m m0) rfl rfl, pc_pre hP hK hD hN⟩ rfl rfl hl.1 rfl (lv_room (Nat.le_of_ble_eq_true rfl)) d_Md_line_78 ⟨Nat.le_of_ble_eq_true rfl, Nat.le_of_ble_eq_true rfl⟩) hS (fun q _ h => hFc q h) hFc (fun r_14 u t H locs ht hvm er hB hz1 hk1 hS => ?_)
            obtain ⟨L_2, f_2⟩ := u
            obtain ⟨hO_2, hE_2, er, hQ⟩ := er
            obtain ⟨hP, hK1, hD1⟩ := hB
            rw [ht] at hP
            have hP : va_P (dC, dI) vwCl (TW ct L_2 f_2) H := hP
            have hD : va_D A (TW ct L_2 f_2) := hD1.weaken (fun _ q _ h => hFc q.1 h)
            have hO_2 : Ok L_2 f_2 := hO_2
            have hE_2 : Ext W_Md_takes_w L_1 f_1 L_2 f_2 := hE_2
            clear hK1 hD1 ht hvm hz1 hk1
            have hA_2 := hA_1.trans hE_2
            have hQ := hQ hO_2 hE_2
            rcases er with ⟨rfl, po_15, po_16, -⟩ | ⟨rfl, po_17, po_18, po_19, -⟩
            · have hQ := hQ.1 rfl
              rw [show ti f_1 q0 28 = (ti f q0 28) from ((hA_1.ei m0 rfl).trans rfl)] at po_16
              refine lv_if_ne (tgt := 86) hx hb d_Md_line_81 (by decide) (fun h => absurd (by decide +kernel) h) (fun _ => ?_)
              refine lv_iconst (v := 0) hx hb d_Md_line_84 (by decide +kernel) ?_
              refine W.widen (k := 0) (n := 0) (Nat.le_of_ble_eq_true rfl) (Nat.le_of_ble_eq_true rfl) ?_
              exact W.zret (v := 0) hx hb hr (by decide +kernel) (fun t ht hW => ⟨⟨0, (L_2, f_2), rfl, ⟨hO_2, hA_2.mono (by decide +kernel), (Or.inl ⟨rfl, (by show ¬ ((ti f_2 q0 42) < (ti f q0 42)); rw [show ti f_2 q0 42 = (ti f_2 q0 42) from rfl]; first | done | exact (show ¬ ((ti f_2 q0 42) < (ti f q0 42)) from ((fun (a_0 : Int32) (a_1 : Int32) (a_2 : Int32) (k_0 : ¬ (a_1 < a_0)) (k_1 : ¬ (a_2 < a_1)) => (show ¬ (a_2 < a_0) from by have r0 := fb_rng (a_0); have r1 := fb_rng (a_1); have r2 := fb_rng (a_2); have e0 := k_0; rw [Int32.lt_iff_toInt_lt] at e0; have e1 := k_1; rw [Int32.lt_iff_toInt_lt] at e1; rw [Int32.lt_iff_toInt_lt]; omega)) (ti f q0 42) (ti f_1 q0 42) (ti f_2 q0 42) po_10 po_15))), (by show ¬ ((ti f q0 28) < (ti f_2 q0 42)); rw [show ti f_2 q0 42 = (ti f_2 q0 42) from rfl]; first | done | exact po_16), trivial⟩), hQ⟩, by rw [ht]; exact hP, va_K.moved hW.alike hK, by rw [hAe]; exact hD⟩, by rw [hAe]; exact hS.F ht⟩) (by rw [hAe]; exact hS.2.2) d_Md_line_85
            · rw [show ti f_1 q0 28 = (ti f q0 28) from ((hA_1.ei m0 rfl).trans rfl)] at po_19
              exact absurd (po_17.symm.trans po_9) (by decide +kernel)
          · have hQ := hQ.2
            refine lv_aload_n hx hb d_Md_line_76 rfl (lv_at hl 1 rfl) ?_
            refine lv_iconst (v := 1) hx hb d_Md_line_77 (by decide +kernel) ?_
            have hFc := hb_free hD hS hA
            refine va_calli (va_runV (As := [.int 1]) (rest := []) ⟨hx, hb, hml, hown, htb⟩ (c_Md_takes_w l dC dI ct L_1 f_1 hO_1 q0 (hA_1.m m0) _ (1 : Int32) (by rw [show ti f_1 q0 28 = (ti f q0 28) from ((hA_1.ei m0 rfl).trans rfl)]; rw [show ti f_1 q0 42 = (ti f_1 q0 42) from rfl]; first | done | exact po_13) _ hQ) (cwV 1 htb (gd_V tw_371 tw_372 tw_373 tw_89 tw_370) rfl rfl rfl (by decide +kernel) ⟨Nat.le_of_ble_eq_true rfl, Nat.le_of_ble_eq_true rfl⟩) ⟨pc_blind, tw_recv hK hP (hA_1.m m0) rfl rfl, pc_pre hP hK hD hN⟩ rfl rfl hl.1 rfl (lv_room (Nat.le_of_ble_eq_true rfl)) d_Md_line_78 ⟨Nat.le_of_ble_eq_true rfl, Nat.le_of_ble_eq_true rfl⟩) hS (fun q _ h => hFc q h) hFc (fun r_20 u t H locs ht hvm er hB hz1 hk1 hS => ?_)
            obtain ⟨L_2, f_2⟩ := u
            obtain ⟨hO_2, hE_2, er, hQ⟩ := er
            obtain ⟨hP, hK1, hD1⟩ := hB
            rw [ht] at hP
            have hP : va_P (dC, dI) vwCl (TW ct L_2 f_2) H := hP
            have hD : va_D A (TW ct L_2 f_2) := hD1.weaken (fun _ q _ h => hFc q.1 h)
            have hO_2 : Ok L_2 f_2 := hO_2
            have hE_2 : Ext W_Md_takes_w L_1 f_1 L_2 f_2 := hE_2
            clear hK1 hD1 ht hvm hz1 hk1
            have hA_2 := hA_1.trans hE_2
            have hQ := hQ hO_2 hE_2
            rcases er with ⟨rfl, po_21, po_22, -⟩ | ⟨rfl, po_23, po_24, po_25, -⟩
            · have hQ := hQ.1 rfl
              rw [show ti f_1 q0 28 = (ti f q0 28) from ((hA_1.ei m0 rfl).trans rfl)] at po_22
              refine lv_if_ne (tgt := 86) hx hb d_Md_line_81 (by decide) (fun h => absurd (by decide +kernel) h) (fun _ => ?_)
              refine lv_iconst (v := 0) hx hb d_Md_line_84 (by decide +kernel) ?_
              refine W.widen (k := 0) (n := 0) (Nat.le_of_ble_eq_true rfl) (Nat.le_of_ble_eq_true rfl) ?_
              exact W.zret (v := 0) hx hb hr (by decide +kernel) (fun t ht hW => ⟨⟨0, (L_2, f_2), rfl, ⟨hO_2, hA_2.mono (by decide +kernel), (Or.inl ⟨rfl, (by show ¬ ((ti f_2 q0 42) < (ti f q0 42)); rw [show ti f_2 q0 42 = (ti f_2 q0 42) from rfl]; first | done | exact (show ¬ ((ti f_2 q0 42) < (ti f q0 42)) from ((fun (a_0 : Int32) (a_1 : Int32) (a_2 : Int32) (k_0 : ¬ (400 < a_0)) (k_1 : ¬ (a_1 < (a_0 + 1))) (k_2 : ¬ (a_2 < a_1)) => (show ¬ (a_2 < a_0) from by have z0 : (1 : Int32).toInt = 1 := (by decide +kernel); have z1 : (400 : Int32).toInt = 400 := (by decide +kernel); have r0 := fb_rng (a_0); have r1 := fb_rng (a_1); have r2 := fb_rng (a_2); have e0 := k_0; rw [Int32.lt_iff_toInt_lt, z1] at e0; obtain ⟨n_0, hn_0, s0⟩ := nd_add (x := a_0) (y := (1 : Int32)) (by (try rw [z0]); omega) (by (try rw [z0]); omega); rw [z0] at s0; have e1 := k_1; rw [hn_0, Int32.lt_iff_toInt_lt] at e1; have e2 := k_2; rw [Int32.lt_iff_toInt_lt] at e2; rw [Int32.lt_iff_toInt_lt]; omega)) (ti f q0 42) (ti f_1 q0 42) (ti f_2 q0 42) bp_42.2 po_12 po_21))), (by show ¬ ((ti f q0 28) < (ti f_2 q0 42)); rw [show ti f_2 q0 42 = (ti f_2 q0 42) from rfl]; first | done | exact po_22), trivial⟩), hQ⟩, by rw [ht]; exact hP, va_K.moved hW.alike hK, by rw [hAe]; exact hD⟩, by rw [hAe]; exact hS.F ht⟩) (by rw [hAe]; exact hS.2.2) d_Md_line_85
            · have hQ := hQ.2 rfl
              rw [show ti f_1 q0 28 = (ti f q0 28) from ((hA_1.ei m0 rfl).trans rfl)] at po_25
              refine lv_if_ne (tgt := 86) hx hb d_Md_line_81 (by decide) (fun _ => ?_) (fun h => absurd h (by decide +kernel))
              refine lv_aload_n hx hb d_Md_line_86 rfl (lv_at hl 1 rfl) ?_
              refine tw_geti (D := (dC, dI)) (C := R_Md) (T := F_Md) (N := 64) (ci := 7) (kd := 27) (ct := ct) hx hb htb i_Md hown hK hP hO_2 (hA_2.m m0) rfl rfl 46 (by decide) (htb (.fieldLink R_Md 266 "WaterMenModel" "got" "I") tw_369) (fun _ h9 => h9) rfl d_Md_line_87 (fun x_26 e_26 b_26 => ?_)
              have hQ := hQ x_26 e_26
              refine lv_istore_n (lv' := [(3, .int x_26), (2, .int (ti f q0 43)), (0, .ref q0), (1, .int p_0)]) hx hb d_Md_line_90 rfl hl (by decide) rfl (fun ls hl => ?_)
              refine lv_iconst (v := 0) hx hb d_Md_line_91 (by decide +kernel) ?_
              refine lv_istore (lv' := [(4, .int 0), (3, .int x_26), (2, .int (ti f q0 43)), (0, .ref q0), (1, .int p_0)]) hx hb d_Md_line_92 hl (by decide) rfl (fun ls hl => ?_)
              refine lv_iload_n hx hb d_Md_line_94 rfl (lv_at hl 2 rfl) ?_
              refine lv_bipush (v := 10) hx hb d_Md_line_95 (by decide +kernel) ?_
              refine lv_icmp_eq (tgt := 112) hx hb d_Md_line_97 (by decide) (fun h => absurd h c_3) (fun _ => ?_)
              refine lv_iload_n hx hb d_Md_line_100 rfl (lv_at hl 2 rfl) ?_
              refine lv_bipush (v := 11) hx hb d_Md_line_101 (by decide +kernel) ?_
              refine lv_icmp_eq (tgt := 112) hx hb d_Md_line_103 (by decide) (fun h => absurd h c_4) (fun _ => ?_)
              refine lv_iload_n hx hb d_Md_line_106 rfl (lv_at hl 2 rfl) ?_
              refine lv_bipush (v := 16) hx hb d_Md_line_107 (by decide +kernel) ?_
              refine lv_icmp_ne (tgt := 136) hx hb d_Md_line_109 (by decide) (fun c_27 => ?_) (fun c_27 => ?_)
              · have hQ := hQ.2 c_27
                refine lv_iconst (v := 0) hx hb d_Md_line_136 (by decide +kernel) ?_
                refine lv_istore (lv' := [(5, .int 0), (4, .int 0), (3, .int x_26), (2, .int (ti f q0 43)), (0, .ref q0), (1, .int p_0)]) hx hb d_Md_line_137 hl (by decide) rfl (fun ls hl => ?_)
                refine lv_iload_n hx hb d_Md_line_139 rfl (lv_at hl 3 rfl) ?_
                refine lv_bipush (v := 10) hx hb d_Md_line_140 (by decide +kernel) ?_
                refine lv_icmp_eq (tgt := 151) hx hb d_Md_line_142 (by decide) (fun h => absurd h c_3) (fun _ => ?_)
                refine lv_iload_n hx hb d_Md_line_145 rfl (lv_at hl 3 rfl) ?_
                refine lv_bipush (v := 11) hx hb d_Md_line_146 (by decide +kernel) ?_
                refine lv_icmp_ne (tgt := 175) hx hb d_Md_line_148 (by decide) (fun _ => ?_) (fun h => absurd h c_4)
                refine lv_aload_n hx hb d_Md_line_175 rfl (lv_at hl 4 rfl) ?_
                refine lv_iconst (v := 2) hx hb d_Md_line_176 (by decide +kernel) ?_
                have hFc := hb_free hD hS hA
                refine va_calli (va_runV (As := [.int 2]) (rest := []) ⟨hx, hb, hml, hown, htb⟩ (c_Md_takes_w l dC dI ct L_2 f_2 hO_2 q0 (hA_2.m m0) _ (2 : Int32) (by rw [show ti f_2 q0 28 = (ti f q0 28) from ((hA_2.ei m0 rfl).trans rfl)]; rw [show ti f_2 q0 42 = (ti f_2 q0 42) from rfl]; first | done | exact po_25) _ hQ) (cwV 1 htb (gd_V tw_371 tw_372 tw_373 tw_89 tw_370) rfl rfl rfl (by decide +kernel) ⟨Nat.le_of_ble_eq_true rfl, Nat.le_of_ble_eq_true rfl⟩) ⟨pc_blind, tw_recv hK hP (hA_2.m m0) rfl rfl, pc_pre hP hK hD hN⟩ rfl rfl hl.1 rfl (lv_room (Nat.le_of_ble_eq_true rfl)) d_Md_line_177 ⟨Nat.le_of_ble_eq_true rfl, Nat.le_of_ble_eq_true rfl⟩) hS (fun q _ h => hFc q h) hFc (fun r_28 u t H locs ht hvm er hB hz1 hk1 hS => ?_)
                obtain ⟨L_3, f_3⟩ := u
                obtain ⟨hO_3, hE_3, er, hQ⟩ := er
                obtain ⟨hP, hK1, hD1⟩ := hB
                rw [ht] at hP
                have hP : va_P (dC, dI) vwCl (TW ct L_3 f_3) H := hP
                have hD : va_D A (TW ct L_3 f_3) := hD1.weaken (fun _ q _ h => hFc q.1 h)
                have hO_3 : Ok L_3 f_3 := hO_3
                have hE_3 : Ext W_Md_takes_w L_2 f_2 L_3 f_3 := hE_3
                clear hK1 hD1 ht hvm hz1 hk1
                have hA_3 := hA_2.trans hE_3
                have hQ := hQ hO_3 hE_3
                rcases er with ⟨rfl, po_29, po_30, -⟩ | ⟨rfl, po_31, po_32, po_33, -⟩
                · have hQ := hQ.1 rfl
                  rw [show ti f_2 q0 28 = (ti f q0 28) from ((hA_2.ei m0 rfl).trans rfl)] at po_30
                  refine lv_if_ne (tgt := 185) hx hb d_Md_line_180 (by decide) (fun h => absurd (by decide +kernel) h) (fun _ => ?_)
                  refine lv_iconst (v := 0) hx hb d_Md_line_183 (by decide +kernel) ?_
                  refine W.widen (k := 0) (n := 0) (Nat.le_of_ble_eq_true rfl) (Nat.le_of_ble_eq_true rfl) ?_
                  exact W.zret (v := 0) hx hb hr (by decide +kernel) (fun t ht hW => ⟨⟨0, (L_3, f_3), rfl, ⟨hO_3, hA_3.mono (by decide +kernel), (Or.inl ⟨rfl, (by show ¬ ((ti f_3 q0 42) < (ti f q0 42)); rw [show ti f_3 q0 42 = (ti f_3 q0 42) from rfl]; first | done | exact (show ¬ ((ti f_3 q0 42) < (ti f q0 42)) from ((fun (a_0 : Int32) (a_1 : Int32) (a_2 : Int32) (a_3 : Int32) (k_0 : ¬ (400 < a_0)) (k_1 : ¬ (a_1 < (a_0 + 1))) (k_2 : ¬ (a_2 < a_1)) (k_3 : ¬ (a_3 < a_2)) => (show ¬ (a_3 < a_0) from by have z0 : (1 : Int32).toInt = 1 := (by decide +kernel); have z1 : (400 : Int32).toInt = 400 := (by decide +kernel); have r0 := fb_rng (a_0); have r1 := fb_rng (a_1); have r2 := fb_rng (a_2); have r3 := fb_rng (a_3); have e0 := k_0; rw [Int32.lt_iff_toInt_lt, z1] at e0; obtain ⟨n_0, hn_0, s0⟩ := nd_add (x := a_0) (y := (1 : Int32)) (by (try rw [z0]); omega) (by (try rw [z0]); omega); rw [z0] at s0; have e1 := k_1; rw [hn_0, Int32.lt_iff_toInt_lt] at e1; have e2 := k_2; rw [Int32.lt_iff_toInt_lt] at e2; have e3 := k_3; rw [Int32.lt_iff_toInt_lt] at e3; rw [Int32.lt_iff_toInt_lt]; omega)) (ti f q0 42) (ti f_1 q0 42) (ti f_2 q0 42) (ti f_3 q0 42) bp_42.2 po_12 po_24 po_29))), (by show ¬ ((ti f q0 28) < (ti f_3 q0 42)); rw [show ti f_3 q0 42 = (ti f_3 q0 42) from rfl]; first | done | exact po_30), trivial⟩), hQ⟩, by rw [ht]; exact hP, va_K.moved hW.alike hK, by rw [hAe]; exact hD⟩, by rw [hAe]; exact hS.F ht⟩) (by rw [hAe]; exact hS.2.2) d_Md_line_184
                · have hQ := hQ.2 rfl
                  rw [show ti f_2 q0 28 = (ti f q0 28) from ((hA_2.ei m0 rfl).trans rfl)] at po_33
                  refine lv_if_ne (tgt := 185) hx hb d_Md_line_180 (by decide) (fun _ => ?_) (fun h => absurd h (by decide +kernel))
                  refine lv_iload_n hx hb d_Md_line_185 rfl (lv_at hl 3 rfl) ?_
                  refine lv_bipush (v := 10) hx hb d_Md_line_186 (by decide +kernel) ?_
                  refine lv_icmp_ne (tgt := 257) hx hb d_Md_line_188 (by decide) (fun _ => ?_) (fun h => absurd h c_3)
                  refine lv_iload_n hx hb d_Md_line_257 rfl (lv_at hl 3 rfl) ?_
                  refine lv_bipush (v := 11) hx hb d_Md_line_258 (by decide +kernel) ?_
                  refine lv_icmp_ne (tgt := 329) hx hb d_Md_line_260 (by decide) (fun _ => ?_) (fun h => absurd h c_4)
                  refine lv_aload_n hx hb d_Md_line_329 rfl (lv_at hl 4 rfl) ?_
                  refine tw_getR (D := (dC, dI)) (C := R_Md) (T := F_Md) (N := 64) (ci := 7) (kd := 27) (ct := ct) hx hb htb i_Md hown hK hP (hA_3.m m0) rfl rfl 40 ((hA_3.er m0 rfl).trans e_5) (by decide) (htb (.fieldLink R_Md 143 "WaterMenModel" "single" "[I") tw_368) (fun _ h9 => h9) rfl d_Md_line_330 ?_
                  refine hb_tv (.ref q_5) rfl ?_
                  refine lv_bipush (v := 9) hx hb d_Md_line_333 (by decide +kernel) ?_
                  refine lv_iload_n hx hb d_Md_line_335 rfl (lv_at hl 5 rfl) ?_
                  refine lv_imul hx hb d_Md_line_336 ?_
                  refine lv_iload_n hx hb d_Md_line_337 rfl (lv_at hl 3 rfl) ?_
                  refine lv_iadd hx hb d_Md_line_338 ?_
                  refine lv_bipush (v := 10) hx hb d_Md_line_339 (by decide +kernel) ?_
                  refine lv_isub hx hb d_Md_line_341 ?_
                  refine lv_iload_n hx hb d_Md_line_342 rfl (lv_at hl 2 rfl) ?_
                  refine tw_astI (ct := ct) (x := x_26) hx hb hK hP hD hS hO_3 (hA_3.m m_5) rfl ((fun (a_0 : Int32) (a_1 : Int32) (k_0 : ¬ (a_0 < 0)) (k_1 : ¬ (19 < a_0)) (k_2 : ¬ (18 < a_1)) (k_3 : 10 ≤ a_1) => (show vp_in ((((9 * a_0) + a_1) - 10)) 180 from by have z0 : (0 : Int32).toInt = 0 := (by decide +kernel); have z1 : (9 : Int32).toInt = 9 := (by decide +kernel); have z2 : (10 : Int32).toInt = 10 := (by decide +kernel); have z3 : (18 : Int32).toInt = 18 := (by decide +kernel); have z4 : (19 : Int32).toInt = 19 := (by decide +kernel); have r0 := fb_rng (a_0); have r1 := fb_rng (a_1); have e0 := k_0; rw [Int32.lt_iff_toInt_lt, z0] at e0; have e1 := k_1; rw [Int32.lt_iff_toInt_lt, z4] at e1; have e2 := k_2; rw [Int32.lt_iff_toInt_lt, z3] at e2; have e3 := k_3; rw [Int32.le_iff_toInt_le, z2] at e3; obtain ⟨n_0, hn_0, s0⟩ := nd_mul (x := (9 : Int32)) (y := (a_0)) (by (try rw [z1]); omega) (by (try rw [z1]); omega); rw [z1] at s0; obtain ⟨n_1, hn_1, s1⟩ := nd_add (x := n_0) (y := a_1) (by omega) (by omega); obtain ⟨n_2, hn_2, s2⟩ := nd_sub (x := n_1) (y := (10 : Int32)) (by (try rw [z2]); omega) (by (try rw [z2]); omega); rw [z2] at s2; rw [hn_0, hn_1, hn_2, vp_in_iff]; omega)) p_0 (ti f q0 43) as_1 as_2 bs_1.2 c_2) (i32_full _) d_Md_line_343 (fun f_4 H locs hP hD hS hO_4 hE_4 w_34 ow_34 hF_4 => ?_)
                  have hA_4 := hA_3.trans hE_4
                  have hQ := hQ f_4 hF_4
                  have hQ := hQ hO_4
                  refine lv_aload_n hx hb d_Md_line_344 rfl (lv_at hl 4 rfl) ?_
                  refine tw_getr (D := (dC, dI)) (C := R_Md) (T := F_Md) (N := 64) (ci := 7) (kd := 27) (ct := ct) hx hb htb i_Md hown hK hP hO_4 (hA_4.m m0) rfl rfl 41 (by decide) (htb (.fieldLink R_Md 146 "WaterMenModel" "singleTo" "[I") tw_374) (fun _ h9 => h9) rfl d_Md_line_345 (fun q_35 e_35 m_35 => ?_)
                  have hQ := hQ q_35 e_35
                  refine lv_iload_n hx hb d_Md_line_348 rfl (lv_at hl 5 rfl) ?_
                  refine lv_iload_n hx hb d_Md_line_349 rfl (lv_at hl 3 rfl) ?_
                  refine lv_bipush (v := 16) hx hb d_Md_line_350 (by decide +kernel) ?_
                  refine lv_icmp_ne (tgt := 360) hx hb d_Md_line_352 (by decide) (fun _ => ?_) (fun h => absurd h c_27)
                  refine lv_aload_n hx hb d_Md_line_360 rfl (lv_at hl 4 rfl) ?_
                  refine tw_getR (D := (dC, dI)) (C := R_Md) (T := F_Md) (N := 64) (ci := 7) (kd := 27) (ct := ct) hx hb htb i_Md hown hK hP (hA_4.m m0) rfl rfl 41 e_35 (by decide) (htb (.fieldLink R_Md 146 "WaterMenModel" "singleTo" "[I") tw_374) (fun _ h9 => h9) rfl d_Md_line_361 ?_
                  refine hb_tv (.ref q_35) rfl ?_
                  refine lv_iload_n hx hb d_Md_line_364 rfl (lv_at hl 5 rfl) ?_
                  refine tw_aldI (ct := ct) hx hb hK hP hO_4 m_35 rfl (hb_inl as_1 as_2 (by decide +kernel)) d_Md_line_365 (fun x_36 e_36 b_36 => ?_)
                  have hQ := hQ x_36 e_36
                  refine tw_astI (ct := ct) (x := x_36) hx hb hK hP hD hS hO_4 m_35 rfl (hb_inl as_1 as_2 (by decide +kernel)) (i32_full _) d_Md_line_366 (fun f_5 H locs hP hD hS hO_5 hE_5 w_37 ow_37 hF_5 => ?_)
                  have hA_5 := hA_4.trans hE_5
                  have hQ := hQ f_5 hF_5
                  have hQ := hQ hO_5
                  refine lv_iconst (v := 1) hx hb d_Md_line_367 (by decide +kernel) ?_
                  refine W.widen (k := 0) (n := 0) (Nat.le_of_ble_eq_true rfl) (Nat.le_of_ble_eq_true rfl) ?_
                  exact W.zret (v := 1) hx hb hr (by decide +kernel) (fun t ht hW => ⟨⟨1, (L_3, f_5), rfl, ⟨hO_5, hA_5.mono (by decide +kernel), (Or.inr ⟨rfl, (by show ¬ ((ti f_5 q0 42) < ((ti f q0 42) + 1)); rw [show ti f_5 q0 42 = (ti f_3 q0 42) from ((hE_5.ei (hA_4.m m0) rfl).trans ((hE_4.ei (hA_3.m m0) rfl).trans rfl))]; first | done | exact (show ¬ ((ti f_3 q0 42) < ((ti f q0 42) + 1)) from ((fun (a_0 : Int32) (a_1 : Int32) (a_2 : Int32) (a_3 : Int32) (k_0 : ¬ (400 < a_0)) (k_1 : ¬ (a_1 < (a_0 + 1))) (k_2 : ¬ (a_2 < a_1)) (k_3 : ¬ (a_3 < a_2)) => (show ¬ (a_3 < (a_0 + 1)) from by have z0 : (1 : Int32).toInt = 1 := (by decide +kernel); have z1 : (400 : Int32).toInt = 400 := (by decide +kernel); have r0 := fb_rng (a_0); have r1 := fb_rng (a_1); have r2 := fb_rng (a_2); have r3 := fb_rng (a_3); have e0 := k_0; rw [Int32.lt_iff_toInt_lt, z1] at e0; obtain ⟨n_0, hn_0, s0⟩ := nd_add (x := a_0) (y := (1 : Int32)) (by (try rw [z0]); omega) (by (try rw [z0]); omega); rw [z0] at s0; have e1 := k_1; rw [hn_0, Int32.lt_iff_toInt_lt] at e1; have e2 := k_2; rw [Int32.lt_iff_toInt_lt] at e2; have e3 := k_3; rw [Int32.lt_iff_toInt_lt] at e3; rw [hn_0, Int32.lt_iff_toInt_lt]; omega)) (ti f q0 42) (ti f_1 q0 42) (ti f_2 q0 42) (ti f_3 q0 42) bp_42.2 po_12 po_24 po_32))), (by show ¬ ((ti f q0 28) < (ti f_5 q0 42)); rw [show ti f_5 q0 42 = (ti f_3 q0 42) from ((hE_5.ei (hA_4.m m0) rfl).trans ((hE_4.ei (hA_3.m m0) rfl).trans rfl))]; first | done | exact po_33), trivial⟩), hQ⟩, by rw [ht]; exact hP, va_K.moved hW.alike hK, by rw [hAe]; exact hD⟩, by rw [hAe]; exact hS.F ht⟩) (by rw [hAe]; exact hS.2.2) d_Md_line_368
              · have hQ := hQ.1 c_27
                refine lv_aload_n hx hb d_Md_line_112 rfl (lv_at hl 3 rfl) ?_
                refine lv_iconst (v := 4) hx hb d_Md_line_113 (by decide +kernel) ?_
                have hFc := hb_free hD hS hA
                refine va_calli (va_runV (As := [.int 4]) (rest := []) ⟨hx, hb, hml, hown, htb⟩ (c_Md_takes_w l dC dI ct L_2 f_2 hO_2 q0 (hA_2.m m0) _ (4 : Int32) (by rw [show ti f_2 q0 28 = (ti f q0 28) from ((hA_2.ei m0 rfl).trans rfl)]; rw [show ti f_2 q0 42 = (ti f_2 q0 42) from rfl]; first | done | exact po_25) _ hQ) (cwV 1 htb (gd_V tw_371 tw_372 tw_373 tw_89 tw_370) rfl rfl rfl (by decide +kernel) ⟨Nat.le_of_ble_eq_true rfl, Nat.le_of_ble_eq_true rfl⟩) ⟨pc_blind, tw_recv hK hP (hA_2.m m0) rfl rfl, pc_pre hP hK hD hN⟩ rfl rfl hl.1 rfl (lv_room (Nat.le_of_ble_eq_true rfl)) d_Md_line_114 ⟨Nat.le_of_ble_eq_true rfl, Nat.le_of_ble_eq_true rfl⟩) hS (fun q _ h => hFc q h) hFc (fun r_38 u t H locs ht hvm er hB hz1 hk1 hS => ?_)
                obtain ⟨L_3, f_3⟩ := u
                obtain ⟨hO_3, hE_3, er, hQ⟩ := er
                obtain ⟨hP, hK1, hD1⟩ := hB
                rw [ht] at hP
                have hP : va_P (dC, dI) vwCl (TW ct L_3 f_3) H := hP
                have hD : va_D A (TW ct L_3 f_3) := hD1.weaken (fun _ q _ h => hFc q.1 h)
                have hO_3 : Ok L_3 f_3 := hO_3
                have hE_3 : Ext W_Md_takes_w L_2 f_2 L_3 f_3 := hE_3
                clear hK1 hD1 ht hvm hz1 hk1
                have hA_3 := hA_2.trans hE_3
                have hQ := hQ hO_3 hE_3
                rcases er with ⟨rfl, po_39, po_40, -⟩ | ⟨rfl, po_41, po_42, po_43, -⟩
                · have hQ := hQ.1 rfl
                  rw [show ti f_2 q0 28 = (ti f q0 28) from ((hA_2.ei m0 rfl).trans rfl)] at po_40
                  refine lv_if_eq (tgt := 128) hx hb d_Md_line_117 (by decide) (fun _ => ?_) (fun h => absurd (by decide +kernel) h)
                  refine lv_iconst (v := 0) hx hb d_Md_line_128 (by decide +kernel) ?_
                  refine W.widen (k := 0) (n := 0) (Nat.le_of_ble_eq_true rfl) (Nat.le_of_ble_eq_true rfl) ?_
                  exact W.zret (v := 0) hx hb hr (by decide +kernel) (fun t ht hW => ⟨⟨0, (L_3, f_3), rfl, ⟨hO_3, hA_3.mono (by decide +kernel), (Or.inl ⟨rfl, (by show ¬ ((ti f_3 q0 42) < (ti f q0 42)); rw [show ti f_3 q0 42 = (ti f_3 q0 42) from rfl]; first | done | exact (show ¬ ((ti f_3 q0 42) < (ti f q0 42)) from ((fun (a_0 : Int32) (a_1 : Int32) (a_2 : Int32) (a_3 : Int32) (k_0 : ¬ (400 < a_0)) (k_1 : ¬ (a_1 < (a_0 + 1))) (k_2 : ¬ (a_2 < a_1)) (k_3 : ¬ (a_3 < a_2)) => (show ¬ (a_3 < a_0) from by have z0 : (1 : Int32).toInt = 1 := (by decide +kernel); have z1 : (400 : Int32).toInt = 400 := (by decide +kernel); have r0 := fb_rng (a_0); have r1 := fb_rng (a_1); have r2 := fb_rng (a_2); have r3 := fb_rng (a_3); have e0 := k_0; rw [Int32.lt_iff_toInt_lt, z1] at e0; obtain ⟨n_0, hn_0, s0⟩ := nd_add (x := a_0) (y := (1 : Int32)) (by (try rw [z0]); omega) (by (try rw [z0]); omega); rw [z0] at s0; have e1 := k_1; rw [hn_0, Int32.lt_iff_toInt_lt] at e1; have e2 := k_2; rw [Int32.lt_iff_toInt_lt] at e2; have e3 := k_3; rw [Int32.lt_iff_toInt_lt] at e3; rw [Int32.lt_iff_toInt_lt]; omega)) (ti f q0 42) (ti f_1 q0 42) (ti f_2 q0 42) (ti f_3 q0 42) bp_42.2 po_12 po_24 po_39))), (by show ¬ ((ti f q0 28) < (ti f_3 q0 42)); rw [show ti f_3 q0 42 = (ti f_3 q0 42) from rfl]; first | done | exact po_40), trivial⟩), hQ⟩, by rw [ht]; exact hP, va_K.moved hW.alike hK, by rw [hAe]; exact hD⟩, by rw [hAe]; exact hS.F ht⟩) (by rw [hAe]; exact hS.2.2) d_Md_line_129
                · have hQ := hQ.2 rfl
                  rw [show ti f_2 q0 28 = (ti f q0 28) from ((hA_2.ei m0 rfl).trans rfl)] at po_43
                  refine lv_if_eq (tgt := 128) hx hb d_Md_line_117 (by decide) (fun h => absurd h (by decide +kernel)) (fun _ => ?_)
                  refine lv_aload_n hx hb d_Md_line_120 rfl (lv_at hl 3 rfl) ?_
                  refine lv_iconst (v := 1) hx hb d_Md_line_121 (by decide +kernel) ?_
                  have hFc := hb_free hD hS hA
                  refine va_calli (va_runV (As := [.int 1]) (rest := []) ⟨hx, hb, hml, hown, htb⟩ (c_Md_takes_w l dC dI ct L_3 f_3 hO_3 q0 (hA_3.m m0) _ (1 : Int32) (by rw [show ti f_3 q0 28 = (ti f q0 28) from ((hA_3.ei m0 rfl).trans rfl)]; rw [show ti f_3 q0 42 = (ti f_3 q0 42) from rfl]; first | done | exact po_43) _ hQ) (cwV 1 htb (gd_V tw_371 tw_372 tw_373 tw_89 tw_370) rfl rfl rfl (by decide +kernel) ⟨Nat.le_of_ble_eq_true rfl, Nat.le_of_ble_eq_true rfl⟩) ⟨pc_blind, tw_recv hK hP (hA_3.m m0) rfl rfl, pc_pre hP hK hD hN⟩ rfl rfl hl.1 rfl (lv_room (Nat.le_of_ble_eq_true rfl)) d_Md_line_122 ⟨Nat.le_of_ble_eq_true rfl, Nat.le_of_ble_eq_true rfl⟩) hS (fun q _ h => hFc q h) hFc (fun r_44 u t H locs ht hvm er hB hz1 hk1 hS => ?_)
                  obtain ⟨L_4, f_4⟩ := u
                  obtain ⟨hO_4, hE_4, er, hQ⟩ := er
                  obtain ⟨hP, hK1, hD1⟩ := hB
                  rw [ht] at hP
                  have hP : va_P (dC, dI) vwCl (TW ct L_4 f_4) H := hP
                  have hD : va_D A (TW ct L_4 f_4) := hD1.weaken (fun _ q _ h => hFc q.1 h)
                  have hO_4 : Ok L_4 f_4 := hO_4
                  have hE_4 : Ext W_Md_takes_w L_3 f_3 L_4 f_4 := hE_4
                  clear hK1 hD1 ht hvm hz1 hk1
                  have hA_4 := hA_3.trans hE_4
                  have hQ := hQ hO_4 hE_4
                  rcases er with ⟨rfl, po_45, po_46, -⟩ | ⟨rfl, po_47, po_48, po_49, -⟩
                  · have hQ := hQ.1 rfl
                    rw [show ti f_3 q0 28 = (ti f q0 28) from ((hA_3.ei m0 rfl).trans rfl)] at po_46
                    refine lv_if_ne (tgt := 130) hx hb d_Md_line_125 (by decide) (fun h => absurd (by decide +kernel) h) (fun _ => ?_)
                    refine lv_iconst (v := 0) hx hb d_Md_line_128 (by decide +kernel) ?_
                    refine W.widen (k := 0) (n := 0) (Nat.le_of_ble_eq_true rfl) (Nat.le_of_ble_eq_true rfl) ?_
                    exact W.zret (v := 0) hx hb hr (by decide +kernel) (fun t ht hW => ⟨⟨0, (L_4, f_4), rfl, ⟨hO_4, hA_4.mono (by decide +kernel), (Or.inl ⟨rfl, (by show ¬ ((ti f_4 q0 42) < (ti f q0 42)); rw [show ti f_4 q0 42 = (ti f_4 q0 42) from rfl]; first | done | exact (show ¬ ((ti f_4 q0 42) < (ti f q0 42)) from ((fun (a_0 : Int32) (a_1 : Int32) (a_2 : Int32) (a_3 : Int32) (a_4 : Int32) (k_0 : ¬ (400 < a_0)) (k_1 : ¬ (a_1 < (a_0 + 1))) (k_2 : ¬ (a_2 < a_1)) (k_3 : ¬ (a_3 < a_2)) (k_4 : ¬ (a_4 < a_3)) => (show ¬ (a_4 < a_0) from by have z0 : (1 : Int32).toInt = 1 := (by decide +kernel); have z1 : (400 : Int32).toInt = 400 := (by decide +kernel); have r0 := fb_rng (a_0); have r1 := fb_rng (a_1); have r2 := fb_rng (a_2); have r3 := fb_rng (a_3); have r4 := fb_rng (a_4); have e0 := k_0; rw [Int32.lt_iff_toInt_lt, z1] at e0; obtain ⟨n_0, hn_0, s0⟩ := nd_add (x := a_0) (y := (1 : Int32)) (by (try rw [z0]); omega) (by (try rw [z0]); omega); rw [z0] at s0; have e1 := k_1; rw [hn_0, Int32.lt_iff_toInt_lt] at e1; have e2 := k_2; rw [Int32.lt_iff_toInt_lt] at e2; have e3 := k_3; rw [Int32.lt_iff_toInt_lt] at e3; have e4 := k_4; rw [Int32.lt_iff_toInt_lt] at e4; rw [Int32.lt_iff_toInt_lt]; omega)) (ti f q0 42) (ti f_1 q0 42) (ti f_2 q0 42) (ti f_3 q0 42) (ti f_4 q0 42) bp_42.2 po_12 po_24 po_42 po_45))), (by show ¬ ((ti f q0 28) < (ti f_4 q0 42)); rw [show ti f_4 q0 42 = (ti f_4 q0 42) from rfl]; first | done | exact po_46), trivial⟩), hQ⟩, by rw [ht]; exact hP, va_K.moved hW.alike hK, by rw [hAe]; exact hD⟩, by rw [hAe]; exact hS.F ht⟩) (by rw [hAe]; exact hS.2.2) d_Md_line_129
                  · have hQ := hQ.2 rfl
                    rw [show ti f_3 q0 28 = (ti f q0 28) from ((hA_3.ei m0 rfl).trans rfl)] at po_49
                    refine lv_if_ne (tgt := 130) hx hb d_Md_line_125 (by decide) (fun _ => ?_) (fun h => absurd h (by decide +kernel))
                    refine lv_aload_n hx hb d_Md_line_130 rfl (lv_at hl 3 rfl) ?_
                    refine tw_geti (D := (dC, dI)) (C := R_Md) (T := F_Md) (N := 64) (ci := 7) (kd := 27) (ct := ct) hx hb htb i_Md hown hK hP hO_4 (hA_4.m m0) rfl rfl 46 (by decide) (htb (.fieldLink R_Md 266 "WaterMenModel" "got" "I") tw_369) (fun _ h9 => h9) rfl d_Md_line_131 (fun x_50 e_50 b_50 => ?_)
                    have hQ := hQ x_50 e_50
                    refine lv_istore (lv' := [(4, .int x_50), (3, .int x_26), (2, .int (ti f q0 43)), (0, .ref q0), (1, .int p_0)]) hx hb d_Md_line_134 hl (by decide) rfl (fun ls hl => ?_)
                    refine lv_iconst (v := 0) hx hb d_Md_line_136 (by decide +kernel) ?_
                    refine lv_istore (lv' := [(5, .int 0), (4, .int x_50), (3, .int x_26), (2, .int (ti f q0 43)), (0, .ref q0), (1, .int p_0)]) hx hb d_Md_line_137 hl (by decide) rfl (fun ls hl => ?_)
                    refine lv_iload_n hx hb d_Md_line_139 rfl (lv_at hl 3 rfl) ?_
                    refine lv_bipush (v := 10) hx hb d_Md_line_140 (by decide +kernel) ?_
                    refine lv_icmp_eq (tgt := 151) hx hb d_Md_line_142 (by decide) (fun h => absurd h c_3) (fun _ => ?_)
                    refine lv_iload_n hx hb d_Md_line_145 rfl (lv_at hl 3 rfl) ?_
                    refine lv_bipush (v := 11) hx hb d_Md_line_146 (by decide +kernel) ?_
                    refine lv_icmp_ne (tgt := 175) hx hb d_Md_line_148 (by decide) (fun _ => ?_) (fun h => absurd h c_4)
                    refine lv_aload_n hx hb d_Md_line_175 rfl (lv_at hl 4 rfl) ?_
                    refine lv_iconst (v := 2) hx hb d_Md_line_176 (by decide +kernel) ?_
                    have hFc := hb_free hD hS hA
                    refine va_calli (va_runV (As := [.int 2]) (rest := []) ⟨hx, hb, hml, hown, htb⟩ (c_Md_takes_w l dC dI ct L_4 f_4 hO_4 q0 (hA_4.m m0) _ (2 : Int32) (by rw [show ti f_4 q0 28 = (ti f q0 28) from ((hA_4.ei m0 rfl).trans rfl)]; rw [show ti f_4 q0 42 = (ti f_4 q0 42) from rfl]; first | done | exact po_49) _ hQ) (cwV 1 htb (gd_V tw_371 tw_372 tw_373 tw_89 tw_370) rfl rfl rfl (by decide +kernel) ⟨Nat.le_of_ble_eq_true rfl, Nat.le_of_ble_eq_true rfl⟩) ⟨pc_blind, tw_recv hK hP (hA_4.m m0) rfl rfl, pc_pre hP hK hD hN⟩ rfl rfl hl.1 rfl (lv_room (Nat.le_of_ble_eq_true rfl)) d_Md_line_177 ⟨Nat.le_of_ble_eq_true rfl, Nat.le_of_ble_eq_true rfl⟩) hS (fun q _ h => hFc q h) hFc (fun r_51 u t H locs ht hvm er hB hz1 hk1 hS => ?_)
                    obtain ⟨L_5, f_5⟩ := u
                    obtain ⟨hO_5, hE_5, er, hQ⟩ := er
                    obtain ⟨hP, hK1, hD1⟩ := hB
                    rw [ht] at hP
                    have hP : va_P (dC, dI) vwCl (TW ct L_5 f_5) H := hP
                    have hD : va_D A (TW ct L_5 f_5) := hD1.weaken (fun _ q _ h => hFc q.1 h)
                    have hO_5 : Ok L_5 f_5 := hO_5
                    have hE_5 : Ext W_Md_takes_w L_4 f_4 L_5 f_5 := hE_5
                    clear hK1 hD1 ht hvm hz1 hk1
                    have hA_5 := hA_4.trans hE_5
                    have hQ := hQ hO_5 hE_5
                    rcases er with ⟨rfl, po_52, po_53, -⟩ | ⟨rfl, po_54, po_55, po_56, -⟩
                    · have hQ := hQ.1 rfl
                      rw [show ti f_4 q0 28 = (ti f q0 28) from ((hA_4.ei m0 rfl).trans rfl)] at po_53
                      refine lv_if_ne (tgt := 185) hx hb d_Md_line_180 (by decide) (fun h => absurd (by decide +kernel) h) (fun _ => ?_)
                      refine lv_iconst (v := 0) hx hb d_Md_line_183 (by decide +kernel) ?_
                      refine W.widen (k := 0) (n := 0) (Nat.le_of_ble_eq_true rfl) (Nat.le_of_ble_eq_true rfl) ?_
                      exact W.zret (v := 0) hx hb hr (by decide +kernel) (fun t ht hW => ⟨⟨0, (L_5, f_5), rfl, ⟨hO_5, hA_5.mono (by decide +kernel), (Or.inl ⟨rfl, (by show ¬ ((ti f_5 q0 42) < (ti f q0 42)); rw [show ti f_5 q0 42 = (ti f_5 q0 42) from rfl]; first | done | exact (show ¬ ((ti f_5 q0 42) < (ti f q0 42)) from ((fun (a_0 : Int32) (a_1 : Int32) (a_2 : Int32) (a_3 : Int32) (a_4 : Int32) (a_5 : Int32) (k_0 : ¬ (400 < a_0)) (k_1 : ¬ (a_1 < (a_0 + 1))) (k_2 : ¬ (a_2 < a_1)) (k_3 : ¬ (a_3 < a_2)) (k_4 : ¬ (a_4 < a_3)) (k_5 : ¬ (a_5 < a_4)) => (show ¬ (a_5 < a_0) from by have z0 : (1 : Int32).toInt = 1 := (by decide +kernel); have z1 : (400 : Int32).toInt = 400 := (by decide +kernel); have r0 := fb_rng (a_0); have r1 := fb_rng (a_1); have r2 := fb_rng (a_2); have r3 := fb_rng (a_3); have r4 := fb_rng (a_4); have r5 := fb_rng (a_5); have e0 := k_0; rw [Int32.lt_iff_toInt_lt, z1] at e0; obtain ⟨n_0, hn_0, s0⟩ := nd_add (x := a_0) (y := (1 : Int32)) (by (try rw [z0]); omega) (by (try rw [z0]); omega); rw [z0] at s0; have e1 := k_1; rw [hn_0, Int32.lt_iff_toInt_lt] at e1; have e2 := k_2; rw [Int32.lt_iff_toInt_lt] at e2; have e3 := k_3; rw [Int32.lt_iff_toInt_lt] at e3; have e4 := k_4; rw [Int32.lt_iff_toInt_lt] at e4; have e5 := k_5; rw [Int32.lt_iff_toInt_lt] at e5; rw [Int32.lt_iff_toInt_lt]; omega)) (ti f q0 42) (ti f_1 q0 42) (ti f_2 q0 42) (ti f_3 q0 42) (ti f_4 q0 42) (ti f_5 q0 42) bp_42.2 po_12 po_24 po_42 po_48 po_52))), (by show ¬ ((ti f q0 28) < (ti f_5 q0 42)); rw [show ti f_5 q0 42 = (ti f_5 q0 42) from rfl]; first | done | exact po_53), trivial⟩), hQ⟩, by rw [ht]; exact hP, va_K.moved hW.alike hK, by rw [hAe]; exact hD⟩, by rw [hAe]; exact hS.F ht⟩) (by rw [hAe]; exact hS.2.2) d_Md_line_184
                    · have hQ := hQ.2 rfl
                      rw [show ti f_4 q0 28 = (ti f q0 28) from ((hA_4.ei m0 rfl).trans rfl)] at po_56
                      refine lv_if_ne (tgt := 185) hx hb d_Md_line_180 (by decide) (fun _ => ?_) (fun h => absurd h (by decide +kernel))
                      refine lv_iload_n hx hb d_Md_line_185 rfl (lv_at hl 3 rfl) ?_
                      refine lv_bipush (v := 10) hx hb d_Md_line_186 (by decide +kernel) ?_
                      refine lv_icmp_ne (tgt := 257) hx hb d_Md_line_188 (by decide) (fun _ => ?_) (fun h => absurd h c_3)
                      refine lv_iload_n hx hb d_Md_line_257 rfl (lv_at hl 3 rfl) ?_
                      refine lv_bipush (v := 11) hx hb d_Md_line_258 (by decide +kernel) ?_
                      refine lv_icmp_ne (tgt := 329) hx hb d_Md_line_260 (by decide) (fun _ => ?_) (fun h => absurd h c_4)
                      refine lv_aload_n hx hb d_Md_line_329 rfl (lv_at hl 4 rfl) ?_
                      refine tw_getR (D := (dC, dI)) (C := R_Md) (T := F_Md) (N := 64) (ci := 7) (kd := 27) (ct := ct) hx hb htb i_Md hown hK hP (hA_5.m m0) rfl rfl 40 ((hA_5.er m0 rfl).trans e_5) (by decide) (htb (.fieldLink R_Md 143 "WaterMenModel" "single" "[I") tw_368) (fun _ h9 => h9) rfl d_Md_line_330 ?_
                      refine hb_tv (.ref q_5) rfl ?_
                      refine lv_bipush (v := 9) hx hb d_Md_line_333 (by decide +kernel) ?_
                      refine lv_iload_n hx hb d_Md_line_335 rfl (lv_at hl 5 rfl) ?_
                      refine lv_imul hx hb d_Md_line_336 ?_
                      refine lv_iload_n hx hb d_Md_line_337 rfl (lv_at hl 3 rfl) ?_
                      refine lv_iadd hx hb d_Md_line_338 ?_
                      refine lv_bipush (v := 10) hx hb d_Md_line_339 (by decide +kernel) ?_
                      refine lv_isub hx hb d_Md_line_341 ?_
                      refine lv_iload_n hx hb d_Md_line_342 rfl (lv_at hl 2 rfl) ?_
                      refine tw_astI (ct := ct) (x := x_26) hx hb hK hP hD hS hO_5 (hA_5.m m_5) rfl ((fun (a_0 : Int32) (a_1 : Int32) (k_0 : ¬ (a_0 < 0)) (k_1 : ¬ (19 < a_0)) (k_2 : a_1 = 16) => (show vp_in ((((9 * a_0) + a_1) - 10)) 180 from by have z0 : (0 : Int32).toInt = 0 := (by decide +kernel); have z1 : (9 : Int32).toInt = 9 := (by decide +kernel); have z2 : (10 : Int32).toInt = 10 := (by decide +kernel); have z3 : (16 : Int32).toInt = 16 := (by decide +kernel); have z4 : (19 : Int32).toInt = 19 := (by decide +kernel); have r0 := fb_rng (a_0); have r1 := fb_rng (a_1); have e0 := k_0; rw [Int32.lt_iff_toInt_lt, z0] at e0; have e1 := k_1; rw [Int32.lt_iff_toInt_lt, z4] at e1; have e2 := k_2; rw [← Int32.toInt_inj, z3] at e2; obtain ⟨n_0, hn_0, s0⟩ := nd_mul (x := (9 : Int32)) (y := (a_0)) (by (try rw [z1]); omega) (by (try rw [z1]); omega); rw [z1] at s0; obtain ⟨n_1, hn_1, s1⟩ := nd_add (x := n_0) (y := a_1) (by omega) (by omega); obtain ⟨n_2, hn_2, s2⟩ := nd_sub (x := n_1) (y := (10 : Int32)) (by (try rw [z2]); omega) (by (try rw [z2]); omega); rw [z2] at s2; rw [hn_0, hn_1, hn_2, vp_in_iff]; omega)) p_0 (ti f q0 43) as_1 as_2 c_27) (i32_full _) d_Md_line_343 (fun f_6 H locs hP hD hS hO_6 hE_6 w_57 ow_57 hF_6 => ?_)
                      have hA_6 := hA_5.trans hE_6
                      have hQ := hQ f_6 hF_6
                      have hQ := hQ hO_6
                      refine lv_aload_n hx hb d_Md_line_344 rfl (lv_at hl 4 rfl) ?_
                      refine tw_getr (D := (dC, dI)) (C := R_Md) (T := F_Md) (N := 64) (ci := 7) (kd := 27) (ct := ct) hx hb htb i_Md hown hK hP hO_6 (hA_6.m m0) rfl rfl 41 (by decide) (htb (.fieldLink R_Md 146 "WaterMenModel" "singleTo" "[I") tw_374) (fun _ h9 => h9) rfl d_Md_line_345 (fun q_58 e_58 m_58 => ?_)
                      have hQ := hQ q_58 e_58
                      refine lv_iload_n hx hb d_Md_line_348 rfl (lv_at hl 5 rfl) ?_
                      refine lv_iload_n hx hb d_Md_line_349 rfl (lv_at hl 3 rfl) ?_
                      refine lv_bipush (v := 16) hx hb d_Md_line_350 (by decide +kernel) ?_
                      refine lv_icmp_ne (tgt := 360) hx hb d_Md_line_352 (by decide) (fun h => absurd c_27 h) (fun _ => ?_)
                      refine lv_iload hx hb d_Md_line_355 (lv_at hl 1 rfl) ?_
                      refine lv_goto (tgt := 366) hx hb d_Md_line_357 (by decide) ?_
                      refine tw_astI (ct := ct) (x := x_50) hx hb hK hP hD hS hO_6 m_58 rfl (hb_inl as_1 as_2 (by decide +kernel)) (i32_full _) d_Md_line_366 (fun f_7 H locs hP hD hS hO_7 hE_7 w_59 ow_59 hF_7 => ?_)
                      have hA_7 := hA_6.trans hE_7
                      have hQ := hQ f_7 hF_7
                      have hQ := hQ hO_7
                      refine lv_iconst (v := 1) hx hb d_Md_line_367 (by decide +kernel) ?_
                      refine W.widen (k := 0) (n := 0) (Nat.le_of_ble_eq_true rfl) (Nat.le_of_ble_eq_true rfl) ?_
                      exact W.zret (v := 1) hx hb hr (by decide +kernel) (fun t ht hW => ⟨⟨1, (L_5, f_7), rfl, ⟨hO_7, hA_7.mono (by decide +kernel), (Or.inr ⟨rfl, (by show ¬ ((ti f_7 q0 42) < ((ti f q0 42) + 1)); rw [show ti f_7 q0 42 = (ti f_5 q0 42) from ((hE_7.ei (hA_6.m m0) rfl).trans ((hE_6.ei (hA_5.m m0) rfl).trans rfl))]; first | done | exact (show ¬ ((ti f_5 q0 42) < ((ti f q0 42) + 1)) from ((fun (a_0 : Int32) (a_1 : Int32) (a_2 : Int32) (a_3 : Int32) (a_4 : Int32) (a_5 : Int32) (k_0 : ¬ (400 < a_0)) (k_1 : ¬ (a_1 < (a_0 + 1))) (k_2 : ¬ (a_2 < a_1)) (k_3 : ¬ (a_3 < a_2)) (k_4 : ¬ (a_4 < a_3)) (k_5 : ¬ (a_5 < a_4)) => (show ¬ (a_5 < (a_0 + 1)) from by have z0 : (1 : Int32).toInt = 1 := (by decide +kernel); have z1 : (400 : Int32).toInt = 400 := (by decide +kernel); have r0 := fb_rng (a_0); have r1 := fb_rng (a_1); have r2 := fb_rng (a_2); have r3 := fb_rng (a_3); have r4 := fb_rng (a_4); have r5 := fb_rng (a_5); have e0 := k_0; rw [Int32.lt_iff_toInt_lt, z1] at e0; obtain ⟨n_0, hn_0, s0⟩ := nd_add (x := a_0) (y := (1 : Int32)) (by (try rw [z0]); omega) (by (try rw [z0]); omega); rw [z0] at s0; have e1 := k_1; rw [hn_0, Int32.lt_iff_toInt_lt] at e1; have e2 := k_2; rw [Int32.lt_iff_toInt_lt] at e2; have e3 := k_3; rw [Int32.lt_iff_toInt_lt] at e3; have e4 := k_4; rw [Int32.lt_iff_toInt_lt] at e4; have e5 := k_5; rw [Int32.lt_iff_toInt_lt] at e5; rw [hn_0, Int32.lt_iff_toInt_lt]; omega)) (ti f q0 42) (ti f_1 q0 42) (ti f_2 q0 42) (ti f_3 q0 42) (ti f_4 q0 42) (ti f_5 q0 42) bp_42.2 po_12 po_24 po_42 po_48 po_55))), (by show ¬ ((ti f q0 28) < (ti f_7 q0 42)); rw [show ti f_7 q0 42 = (ti f_5 q0 42) from ((hE_7.ei (hA_6.m m0) rfl).trans ((hE_6.ei (hA_5.m m0) rfl).trans rfl))]; first | done | exact po_56), trivial⟩), hQ⟩, by rw [ht]; exact hP, va_K.moved hW.alike hK, by rw [hAe]; exact hD⟩, by rw [hAe]; exact hS.F ht⟩) (by rw [hAe]; exact hS.2.2) d_Md_line_368
        · have hQ := hQ.2 c_7
          refine lv_iconst (v := 0) hx hb d_Md_line_70 (by decide +kernel) ?_
          refine W.widen (k := 0) (n := 0) (Nat.le_of_ble_eq_true rfl) (Nat.le_of_ble_eq_true rfl) ?_
          exact W.zret (v := 0) hx hb hr (by decide +kernel) (fun t ht hW => ⟨⟨0, (L, f), rfl, ⟨hO_0, hA_0.mono (by decide +kernel), (Or.inl ⟨rfl, (by show ¬ ((ti f q0 42) < (ti f q0 42)); rw [show ti f q0 42 = (ti f q0 42) from rfl]; first | done | exact (show ¬ ((ti f q0 42) < (ti f q0 42)) from ((fun (a_0 : Int32)  => (show ¬ (a_0 < a_0) from by have r0 := fb_rng (a_0); rw [Int32.lt_iff_toInt_lt]; omega)) (ti f q0 42) ))), (by show ¬ ((ti f q0 28) < (ti f q0 42)); rw [show ti f q0 42 = (ti f q0 42) from rfl]; first | done | exact as_0), trivial⟩), hQ⟩, by rw [ht]; exact hP, va_K.moved hW.alike hK, by rw [hAe]; exact hD⟩, by rw [hAe]; exact hS.F ht⟩) (by rw [hAe]; exact hS.2.2) d_Md_line_71
      · have hQ := hQ.1 c_4
        refine lv_aload_n hx hb d_Md_line_39 rfl (lv_at hl 1 rfl) ?_
        refine tw_getr (D := (dC, dI)) (C := R_Md) (T := F_Md) (N := 64) (ci := 7) (kd := 27) (ct := ct) hx hb htb i_Md hown hK hP hO_0 m0 rfl rfl 36 (by decide) (htb (.fieldLink R_Md 131 "WaterMenModel" "hours" "[I") tw_335) (fun _ h9 => h9) rfl d_Md_line_40 (fun q_60 e_60 m_60 => ?_)
        have hQ := hQ q_60 e_60
        refine lv_iload_n hx hb d_Md_line_43 rfl (lv_at hl 2 rfl) ?_
        refine tw_aldI (ct := ct) hx hb hK hP hO_0 m_60 rfl (hb_inl as_1 as_2 (by decide +kernel)) d_Md_line_44 (fun x_61 e_61 b_61 => ?_)
        have hQ := hQ x_61 e_61
        refine lv_bipush (v := 12) hx hb d_Md_line_45 (by decide +kernel) ?_
        refine lv_icmp_ne (tgt := 72) hx hb d_Md_line_47 (by decide) (fun c_62 => ?_) (fun c_62 => ?_)
        · have hQ := hQ.2 c_62
          refine lv_aload_n hx hb d_Md_line_72 rfl (lv_at hl 1 rfl) ?_
          have hFc := hb_free hD hS hA
          refine va_callv (va_runV (As := []) (rest := []) ⟨hx, hb, hml, hown, htb⟩ (c_Md_advance_w l dC dI ct L f hO_0 q0 m0 _ (by rw [show ti f q0 28 = (ti f q0 28) from rfl]; rw [show ti f q0 42 = (ti f q0 42) from rfl]; first | done | exact as_0) _ hQ) (cwV 0 htb (gd_V tw_363 tw_364 tw_365 tw_89 tw_362) rfl rfl rfl (by decide +kernel) ⟨Nat.le_of_ble_eq_true rfl, Nat.le_of_ble_eq_true rfl⟩) ⟨pc_blind, tw_recv hK hP m0 rfl rfl, pc_pre hP hK hD hN⟩ rfl rfl hl.1 rfl (lv_room (Nat.le_of_ble_eq_true rfl)) d_Md_line_73 ⟨Nat.le_of_ble_eq_true rfl, Nat.le_of_ble_eq_true rfl⟩) hS (fun q _ h => hFc q h) hFc (fun u t H locs ht hvm er hB hz1 hk1 hS => ?_)
          obtain ⟨L_1, f_1⟩ := u
          obtain ⟨hO_1, hE_1, er, hQ⟩ := er
          obtain ⟨hP, hK1, hD1⟩ := hB
          rw [ht] at hP
          have hP : va_P (dC, dI) vwCl (TW ct L_1 f_1) H := hP
          have hD : va_D A (TW ct L_1 f_1) := hD1.weaken (fun _ q _ h => hFc q.1 h)
          have hO_1 : Ok L_1 f_1 := hO_1
          have hE_1 : Ext W_Md_advance_w L f L_1 f_1 := hE_1
          clear hK1 hD1 ht hvm hz1 hk1
          have hA_1 := hA_0.trans hE_1
          have hQ := hQ hO_1 hE_1
          rcases er with ⟨po_64, po_65, po_66, -⟩ | ⟨po_67, po_68, -⟩
          · have hQ := hQ.1
            refine lv_aload_n hx hb d_Md_line_76 rfl (lv_at hl 1 rfl) ?_
            refine lv_iconst (v := 1) hx hb d_Md_line_77 (by decide +kernel) ?_
            have hFc := hb_free hD hS hA
            refine va_calli (va_runV (As := [.int 1]) (rest := []) ⟨hx, hb, hml, hown, htb⟩ (c_Md_takes_w l dC dI ct L_1 f_1 hO_1 q0 (hA_1.m m0) _ (1 : Int32) (by rw [show ti f_1 q0 28 = (ti f q0 28) from ((hA_1.ei m0 rfl).trans rfl)]; rw [show ti f_1 q0 42 = (ti f_1 q0 42) from rfl]; first | done | exact po_66) _ hQ) (cwV 1 htb (gd_V tw_371 tw_372 tw_373 tw_89 tw_370) rfl rfl rfl (by decide +kernel) ⟨Nat.le_of_ble_eq_true rfl, Nat.le_of_ble_eq_true rfl⟩) ⟨pc_blind, tw_recv hK hP (hA_1.m m0) rfl rfl, pc_pre hP hK hD hN⟩ rfl rfl hl.1 rfl (lv_room (Nat.le_of_ble_eq_true rfl)) d_Md_line_78 ⟨Nat.le_of_ble_eq_true rfl, Nat.le_of_ble_eq_true rfl⟩) hS (fun q _ h => hFc q h) hFc (fun r_69 u t H locs ht hvm er hB hz1 hk1 hS => ?_)
            obtain ⟨L_2, f_2⟩ := u
            obtain ⟨hO_2, hE_2, er, hQ⟩ := er
            obtain ⟨hP, hK1, hD1⟩ := hB
            rw [ht] at hP
            have hP : va_P (dC, dI) vwCl (TW ct L_2 f_2) H := hP
            have hD : va_D A (TW ct L_2 f_2) := hD1.weaken (fun _ q _ h => hFc q.1 h)
            have hO_2 : Ok L_2 f_2 := hO_2
            have hE_2 : Ext W_Md_takes_w L_1 f_1 L_2 f_2 := hE_2
            clear hK1 hD1 ht hvm hz1 hk1
            have hA_2 := hA_1.trans hE_2
            have hQ := hQ hO_2 hE_2
            rcases er with ⟨rfl, po_70, po_71, -⟩ | ⟨rfl, po_72, po_73, po_74, -⟩
            · have hQ := hQ.1 rfl
              rw [show ti f_1 q0 28 = (ti f q0 28) from ((hA_1.ei m0 rfl).trans rfl)] at po_71
              refine lv_if_ne (tgt := 86) hx hb d_Md_line_81 (by decide) (fun h => absurd (by decide +kernel) h) (fun _ => ?_)
              refine lv_iconst (v := 0) hx hb d_Md_line_84 (by decide +kernel) ?_
              refine W.widen (k := 0) (n := 0) (Nat.le_of_ble_eq_true rfl) (Nat.le_of_ble_eq_true rfl) ?_
              exact W.zret (v := 0) hx hb hr (by decide +kernel) (fun t ht hW => ⟨⟨0, (L_2, f_2), rfl, ⟨hO_2, hA_2.mono (by decide +kernel), (Or.inl ⟨rfl, (by show ¬ ((ti f_2 q0 42) < (ti f q0 42)); rw [show ti f_2 q0 42 = (ti f_2 q0 42) from rfl]; first | done | exact (show ¬ ((ti f_2 q0 42) < (ti f q0 42)) from ((fun (a_0 : Int32) (a_1 : Int32) (a_2 : Int32) (k_0 : ¬ (a_1 < a_0)) (k_1 : ¬ (a_2 < a_1)) => (show ¬ (a_2 < a_0) from by have r0 := fb_rng (a_0); have r1 := fb_rng (a_1); have r2 := fb_rng (a_2); have e0 := k_0; rw [Int32.lt_iff_toInt_lt] at e0; have e1 := k_1; rw [Int32.lt_iff_toInt_lt] at e1; rw [Int32.lt_iff_toInt_lt]; omega)) (ti f q0 42) (ti f_1 q0 42) (ti f_2 q0 42) po_65 po_70))), (by show ¬ ((ti f q0 28) < (ti f_2 q0 42)); rw [show ti f_2 q0 42 = (ti f_2 q0 42) from rfl]; first | done | exact po_71), trivial⟩), hQ⟩, by rw [ht]; exact hP, va_K.moved hW.alike hK, by rw [hAe]; exact hD⟩, by rw [hAe]; exact hS.F ht⟩) (by rw [hAe]; exact hS.2.2) d_Md_line_85
            · rw [show ti f_1 q0 28 = (ti f q0 28) from ((hA_1.ei m0 rfl).trans rfl)] at po_74
              exact absurd (po_72.symm.trans po_64) (by decide +kernel)
          · have hQ := hQ.2
            refine lv_aload_n hx hb d_Md_line_76 rfl (lv_at hl 1 rfl) ?_
            refine lv_iconst (v := 1) hx hb d_Md_line_77 (by decide +kernel) ?_
            have hFc := hb_free hD hS hA
            refine va_calli (va_runV (As := [.int 1]) (rest := []) ⟨hx, hb, hml, hown, htb⟩ (c_Md_takes_w l dC dI ct L_1 f_1 hO_1 q0 (hA_1.m m0) _ (1 : Int32) (by rw [show ti f_1 q0 28 = (ti f q0 28) from ((hA_1.ei m0 rfl).trans rfl)]; rw [show ti f_1 q0 42 = (ti f_1 q0 42) from rfl]; first | done | exact po_68) _ hQ) (cwV 1 htb (gd_V tw_371 tw_372 tw_373 tw_89 tw_370) rfl rfl rfl (by decide +kernel) ⟨Nat.le_of_ble_eq_true rfl, Nat.le_of_ble_eq_true rfl⟩) ⟨pc_blind, tw_recv hK hP (hA_1.m m0) rfl rfl, pc_pre hP hK hD hN⟩ rfl rfl hl.1 rfl (lv_room (Nat.le_of_ble_eq_true rfl)) d_Md_line_78 ⟨Nat.le_of_ble_eq_true rfl, Nat.le_of_ble_eq_true rfl⟩) hS (fun q _ h => hFc q h) hFc (fun r_75 u t H locs ht hvm er hB hz1 hk1 hS => ?_)
            obtain ⟨L_2, f_2⟩ := u
            obtain ⟨hO_2, hE_2, er, hQ⟩ := er
            obtain ⟨hP, hK1, hD1⟩ := hB
            rw [ht] at hP
            have hP : va_P (dC, dI) vwCl (TW ct L_2 f_2) H := hP
            have hD : va_D A (TW ct L_2 f_2) := hD1.weaken (fun _ q _ h => hFc q.1 h)
            have hO_2 : Ok L_2 f_2 := hO_2
            have hE_2 : Ext W_Md_takes_w L_1 f_1 L_2 f_2 := hE_2
            clear hK1 hD1 ht hvm hz1 hk1
            have hA_2 := hA_1.trans hE_2
            have hQ := hQ hO_2 hE_2
            rcases er with ⟨rfl, po_76, po_77, -⟩ | ⟨rfl, po_78, po_79, po_80, -⟩
            · have hQ := hQ.1 rfl
              rw [show ti f_1 q0 28 = (ti f q0 28) from ((hA_1.ei m0 rfl).trans rfl)] at po_77
              refine lv_if_ne (tgt := 86) hx hb d_Md_line_81 (by decide) (fun h => absurd (by decide +kernel) h) (fun _ => ?_)
              refine lv_iconst (v := 0) hx hb d_Md_line_84 (by decide +kernel) ?_
              refine W.widen (k := 0) (n := 0) (Nat.le_of_ble_eq_true rfl) (Nat.le_of_ble_eq_true rfl) ?_
              exact W.zret (v := 0) hx hb hr (by decide +kernel) (fun t ht hW => ⟨⟨0, (L_2, f_2), rfl, ⟨hO_2, hA_2.mono (by decide +kernel), (Or.inl ⟨rfl, (by show ¬ ((ti f_2 q0 42) < (ti f q0 42)); rw [show ti f_2 q0 42 = (ti f_2 q0 42) from rfl]; first | done | exact (show ¬ ((ti f_2 q0 42) < (ti f q0 42)) from ((fun (a_0 : Int32) (a_1 : Int32) (a_2 : Int32) (k_0 : ¬ (400 < a_0)) (k_1 : ¬ (a_1 < (a_0 + 1))) (k_2 : ¬ (a_2 < a_1)) => (show ¬ (a_2 < a_0) from by have z0 : (1 : Int32).toInt = 1 := (by decide +kernel); have z1 : (400 : Int32).toInt = 400 := (by decide +kernel); have r0 := fb_rng (a_0); have r1 := fb_rng (a_1); have r2 := fb_rng (a_2); have e0 := k_0; rw [Int32.lt_iff_toInt_lt, z1] at e0; obtain ⟨n_0, hn_0, s0⟩ := nd_add (x := a_0) (y := (1 : Int32)) (by (try rw [z0]); omega) (by (try rw [z0]); omega); rw [z0] at s0; have e1 := k_1; rw [hn_0, Int32.lt_iff_toInt_lt] at e1; have e2 := k_2; rw [Int32.lt_iff_toInt_lt] at e2; rw [Int32.lt_iff_toInt_lt]; omega)) (ti f q0 42) (ti f_1 q0 42) (ti f_2 q0 42) bp_42.2 po_67 po_76))), (by show ¬ ((ti f q0 28) < (ti f_2 q0 42)); rw [show ti f_2 q0 42 = (ti f_2 q0 42) from rfl]; first | done | exact po_77), trivial⟩), hQ⟩, by rw [ht]; exact hP, va_K.moved hW.alike hK, by rw [hAe]; exact hD⟩, by rw [hAe]; exact hS.F ht⟩) (by rw [hAe]; exact hS.2.2) d_Md_line_85
            · have hQ := hQ.2 rfl
              rw [show ti f_1 q0 28 = (ti f q0 28) from ((hA_1.ei m0 rfl).trans rfl)] at po_80
              refine lv_if_ne (tgt := 86) hx hb d_Md_line_81 (by decide) (fun _ => ?_) (fun h => absurd h (by decide +kernel))
              refine lv_aload_n hx hb d_Md_line_86 rfl (lv_at hl 1 rfl) ?_
              refine tw_geti (D := (dC, dI)) (C := R_Md) (T := F_Md) (N := 64) (ci := 7) (kd := 27) (ct := ct) hx hb htb i_Md hown hK hP hO_2 (hA_2.m m0) rfl rfl 46 (by decide) (htb (.fieldLink R_Md 266 "WaterMenModel" "got" "I") tw_369) (fun _ h9 => h9) rfl d_Md_line_87 (fun x_81 e_81 b_81 => ?_)
              have hQ := hQ x_81 e_81
              refine lv_istore_n (lv' := [(3, .int x_81), (2, .int (ti f q0 43)), (0, .ref q0), (1, .int p_0)]) hx hb d_Md_line_90 rfl hl (by decide) rfl (fun ls hl => ?_)
              refine lv_iconst (v := 0) hx hb d_Md_line_91 (by decide +kernel) ?_
              refine lv_istore (lv' := [(4, .int 0), (3, .int x_81), (2, .int (ti f q0 43)), (0, .ref q0), (1, .int p_0)]) hx hb d_Md_line_92 hl (by decide) rfl (fun ls hl => ?_)
              refine lv_iload_n hx hb d_Md_line_94 rfl (lv_at hl 2 rfl) ?_
              refine lv_bipush (v := 10) hx hb d_Md_line_95 (by decide +kernel) ?_
              refine lv_icmp_eq (tgt := 112) hx hb d_Md_line_97 (by decide) (fun h => absurd h c_3) (fun _ => ?_)
              refine lv_iload_n hx hb d_Md_line_100 rfl (lv_at hl 2 rfl) ?_
              refine lv_bipush (v := 11) hx hb d_Md_line_101 (by decide +kernel) ?_
              refine lv_icmp_eq (tgt := 112) hx hb d_Md_line_103 (by decide) (fun _ => ?_) (fun h => absurd c_4 h)
              refine lv_aload_n hx hb d_Md_line_112 rfl (lv_at hl 3 rfl) ?_
              refine lv_iconst (v := 4) hx hb d_Md_line_113 (by decide +kernel) ?_
              have hFc := hb_free hD hS hA
              refine va_calli (va_runV (As := [.int 4]) (rest := []) ⟨hx, hb, hml, hown, htb⟩ (c_Md_takes_w l dC dI ct L_2 f_2 hO_2 q0 (hA_2.m m0) _ (4 : Int32) (by rw [show ti f_2 q0 28 = (ti f q0 28) from ((hA_2.ei m0 rfl).trans rfl)]; rw [show ti f_2 q0 42 = (ti f_2 q0 42) from rfl]; first | done | exact po_80) _ hQ) (cwV 1 htb (gd_V tw_371 tw_372 tw_373 tw_89 tw_370) rfl rfl rfl (by decide +kernel) ⟨Nat.le_of_ble_eq_true rfl, Nat.le_of_ble_eq_true rfl⟩) ⟨pc_blind, tw_recv hK hP (hA_2.m m0) rfl rfl, pc_pre hP hK hD hN⟩ rfl rfl hl.1 rfl (lv_room (Nat.le_of_ble_eq_true rfl)) d_Md_line_114 ⟨Nat.le_of_ble_eq_true rfl, Nat.le_of_ble_eq_true rfl⟩) hS (fun q _ h => hFc q h) hFc (fun r_82 u t H locs ht hvm er hB hz1 hk1 hS => ?_)
              obtain ⟨L_3, f_3⟩ := u
              obtain ⟨hO_3, hE_3, er, hQ⟩ := er
              obtain ⟨hP, hK1, hD1⟩ := hB
              rw [ht] at hP
              have hP : va_P (dC, dI) vwCl (TW ct L_3 f_3) H := hP
              have hD : va_D A (TW ct L_3 f_3) := hD1.weaken (fun _ q _ h => hFc q.1 h)
              have hO_3 : Ok L_3 f_3 := hO_3
              have hE_3 : Ext W_Md_takes_w L_2 f_2 L_3 f_3 := hE_3
              clear hK1 hD1 ht hvm hz1 hk1
              have hA_3 := hA_2.trans hE_3
              have hQ := hQ hO_3 hE_3
              rcases er with ⟨rfl, po_83, po_84, -⟩ | ⟨rfl, po_85, po_86, po_87, -⟩
              · have hQ := hQ.1 rfl
                rw [show ti f_2 q0 28 = (ti f q0 28) from ((hA_2.ei m0 rfl).trans rfl)] at po_84
                refine lv_if_eq (tgt := 128) hx hb d_Md_line_117 (by decide) (fun _ => ?_) (fun h => absurd (by decide +kernel) h)
                refine lv_iconst (v := 0) hx hb d_Md_line_128 (by decide +kernel) ?_
                refine W.widen (k := 0) (n := 0) (Nat.le_of_ble_eq_true rfl) (Nat.le_of_ble_eq_true rfl) ?_
                exact W.zret (v := 0) hx hb hr (by decide +kernel) (fun t ht hW => ⟨⟨0, (L_3, f_3), rfl, ⟨hO_3, hA_3.mono (by decide +kernel), (Or.inl ⟨rfl, (by show ¬ ((ti f_3 q0 42) < (ti f q0 42)); rw [show ti f_3 q0 42 = (ti f_3 q0 42) from rfl]; first | done | exact (show ¬ ((ti f_3 q0 42) < (ti f q0 42)) from ((fun (a_0 : Int32) (a_1 : Int32) (a_2 : Int32) (a_3 : Int32) (k_0 : ¬ (400 < a_0)) (k_1 : ¬ (a_1 < (a_0 + 1))) (k_2 : ¬ (a_2 < a_1)) (k_3 : ¬ (a_3 < a_2)) => (show ¬ (a_3 < a_0) from by have z0 : (1 : Int32).toInt = 1 := (by decide +kernel); have z1 : (400 : Int32).toInt = 400 := (by decide +kernel); have r0 := fb_rng (a_0); have r1 := fb_rng (a_1); have r2 := fb_rng (a_2); have r3 := fb_rng (a_3); have e0 := k_0; rw [Int32.lt_iff_toInt_lt, z1] at e0; obtain ⟨n_0, hn_0, s0⟩ := nd_add (x := a_0) (y := (1 : Int32)) (by (try rw [z0]); omega) (by (try rw [z0]); omega); rw [z0] at s0; have e1 := k_1; rw [hn_0, Int32.lt_iff_toInt_lt] at e1; have e2 := k_2; rw [Int32.lt_iff_toInt_lt] at e2; have e3 := k_3; rw [Int32.lt_iff_toInt_lt] at e3; rw [Int32.lt_iff_toInt_lt]; omega)) (ti f q0 42) (ti f_1 q0 42) (ti f_2 q0 42) (ti f_3 q0 42) bp_42.2 po_67 po_79 po_83))), (by show ¬ ((ti f q0 28) < (ti f_3 q0 42)); rw [show ti f_3 q0 42 = (ti f_3 q0 42) from rfl]; first | done | exact po_84), trivial⟩), hQ⟩, by rw [ht]; exact hP, va_K.moved hW.alike hK, by rw [hAe]; exact hD⟩, by rw [hAe]; exact hS.F ht⟩) (by rw [hAe]; exact hS.2.2) d_Md_line_129
              · have hQ := hQ.2 rfl
                rw [show ti f_2 q0 28 = (ti f q0 28) from ((hA_2.ei m0 rfl).trans rfl)] at po_87
                refine lv_if_eq (tgt := 128) hx hb d_Md_line_117 (by decide) (fun h => absurd h (by decide +kernel)) (fun _ => ?_)
                refine lv_aload_n hx hb d_Md_line_120 rfl (lv_at hl 3 rfl) ?_
                refine lv_iconst (v := 1) hx hb d_Md_line_121 (by decide +kernel) ?_
                have hFc := hb_free hD hS hA
                refine va_calli (va_runV (As := [.int 1]) (rest := []) ⟨hx, hb, hml, hown, htb⟩ (c_Md_takes_w l dC dI ct L_3 f_3 hO_3 q0 (hA_3.m m0) _ (1 : Int32) (by rw [show ti f_3 q0 28 = (ti f q0 28) from ((hA_3.ei m0 rfl).trans rfl)]; rw [show ti f_3 q0 42 = (ti f_3 q0 42) from rfl]; first | done | exact po_87) _ hQ) (cwV 1 htb (gd_V tw_371 tw_372 tw_373 tw_89 tw_370) rfl rfl rfl (by decide +kernel) ⟨Nat.le_of_ble_eq_true rfl, Nat.le_of_ble_eq_true rfl⟩) ⟨pc_blind, tw_recv hK hP (hA_3.m m0) rfl rfl, pc_pre hP hK hD hN⟩ rfl rfl hl.1 rfl (lv_room (Nat.le_of_ble_eq_true rfl)) d_Md_line_122 ⟨Nat.le_of_ble_eq_true rfl, Nat.le_of_ble_eq_true rfl⟩) hS (fun q _ h => hFc q h) hFc (fun r_88 u t H locs ht hvm er hB hz1 hk1 hS => ?_)
                obtain ⟨L_4, f_4⟩ := u
                obtain ⟨hO_4, hE_4, er, hQ⟩ := er
                obtain ⟨hP, hK1, hD1⟩ := hB
                rw [ht] at hP
                have hP : va_P (dC, dI) vwCl (TW ct L_4 f_4) H := hP
                have hD : va_D A (TW ct L_4 f_4) := hD1.weaken (fun _ q _ h => hFc q.1 h)
                have hO_4 : Ok L_4 f_4 := hO_4
                have hE_4 : Ext W_Md_takes_w L_3 f_3 L_4 f_4 := hE_4
                clear hK1 hD1 ht hvm hz1 hk1
                have hA_4 := hA_3.trans hE_4
                have hQ := hQ hO_4 hE_4
                rcases er with ⟨rfl, po_89, po_90, -⟩ | ⟨rfl, po_91, po_92, po_93, -⟩
                · have hQ := hQ.1 rfl
                  rw [show ti f_3 q0 28 = (ti f q0 28) from ((hA_3.ei m0 rfl).trans rfl)] at po_90
                  refine lv_if_ne (tgt := 130) hx hb d_Md_line_125 (by decide) (fun h => absurd (by decide +kernel) h) (fun _ => ?_)
                  refine lv_iconst (v := 0) hx hb d_Md_line_128 (by decide +kernel) ?_
                  refine W.widen (k := 0) (n := 0) (Nat.le_of_ble_eq_true rfl) (Nat.le_of_ble_eq_true rfl) ?_
                  exact W.zret (v := 0) hx hb hr (by decide +kernel) (fun t ht hW => ⟨⟨0, (L_4, f_4), rfl, ⟨hO_4, hA_4.mono (by decide +kernel), (Or.inl ⟨rfl, (by show ¬ ((ti f_4 q0 42) < (ti f q0 42)); rw [show ti f_4 q0 42 = (ti f_4 q0 42) from rfl]; first | done | exact (show ¬ ((ti f_4 q0 42) < (ti f q0 42)) from ((fun (a_0 : Int32) (a_1 : Int32) (a_2 : Int32) (a_3 : Int32) (a_4 : Int32) (k_0 : ¬ (400 < a_0)) (k_1 : ¬ (a_1 < (a_0 + 1))) (k_2 : ¬ (a_2 < a_1)) (k_3 : ¬ (a_3 < a_2)) (k_4 : ¬ (a_4 < a_3)) => (show ¬ (a_4 < a_0) from by have z0 : (1 : Int32).toInt = 1 := (by decide +kernel); have z1 : (400 : Int32).toInt = 400 := (by decide +kernel); have r0 := fb_rng (a_0); have r1 := fb_rng (a_1); have r2 := fb_rng (a_2); have r3 := fb_rng (a_3); have r4 := fb_rng (a_4); have e0 := k_0; rw [Int32.lt_iff_toInt_lt, z1] at e0; obtain ⟨n_0, hn_0, s0⟩ := nd_add (x := a_0) (y := (1 : Int32)) (by (try rw [z0]); omega) (by (try rw [z0]); omega); rw [z0] at s0; have e1 := k_1; rw [hn_0, Int32.lt_iff_toInt_lt] at e1; have e2 := k_2; rw [Int32.lt_iff_toInt_lt] at e2; have e3 := k_3; rw [Int32.lt_iff_toInt_lt] at e3; have e4 := k_4; rw [Int32.lt_iff_toInt_lt] at e4; rw [Int32.lt_iff_toInt_lt]; omega)) (ti f q0 42) (ti f_1 q0 42) (ti f_2 q0 42) (ti f_3 q0 42) (ti f_4 q0 42) bp_42.2 po_67 po_79 po_86 po_89))), (by show ¬ ((ti f q0 28) < (ti f_4 q0 42)); rw [show ti f_4 q0 42 = (ti f_4 q0 42) from rfl]; first | done | exact po_90), trivial⟩), hQ⟩, by rw [ht]; exact hP, va_K.moved hW.alike hK, by rw [hAe]; exact hD⟩, by rw [hAe]; exact hS.F ht⟩) (by rw [hAe]; exact hS.2.2) d_Md_line_129
                · have hQ := hQ.2 rfl
                  rw [show ti f_3 q0 28 = (ti f q0 28) from ((hA_3.ei m0 rfl).trans rfl)] at po_93
                  refine lv_if_ne (tgt := 130) hx hb d_Md_line_125 (by decide) (fun _ => ?_) (fun h => absurd h (by decide +kernel))
                  refine lv_aload_n hx hb d_Md_line_130 rfl (lv_at hl 3 rfl) ?_
                  refine tw_geti (D := (dC, dI)) (C := R_Md) (T := F_Md) (N := 64) (ci := 7) (kd := 27) (ct := ct) hx hb htb i_Md hown hK hP hO_4 (hA_4.m m0) rfl rfl 46 (by decide) (htb (.fieldLink R_Md 266 "WaterMenModel" "got" "I") tw_369) (fun _ h9 => h9) rfl d_Md_line_131 (fun x_94 e_94 b_94 => ?_)
                  have hQ := hQ x_94 e_94
                  refine lv_istore (lv' := [(4, .int x_94), (3, .int x_81), (2, .int (ti f q0 43)), (0, .ref q0), (1, .int p_0)]) hx hb d_Md_line_134 hl (by decide) rfl (fun ls hl => ?_)
                  refine lv_iconst (v := 0) hx hb d_Md_line_136 (by decide +kernel) ?_
                  refine lv_istore (lv' := [(5, .int 0), (4, .int x_94), (3, .int x_81), (2, .int (ti f q0 43)), (0, .ref q0), (1, .int p_0)]) hx hb d_Md_line_137 hl (by decide) rfl (fun ls hl => ?_)
                  refine lv_iload_n hx hb d_Md_line_139 rfl (lv_at hl 3 rfl) ?_
                  refine lv_bipush (v := 10) hx hb d_Md_line_140 (by decide +kernel) ?_
                  refine lv_icmp_eq (tgt := 151) hx hb d_Md_line_142 (by decide) (fun h => absurd h c_3) (fun _ => ?_)
                  refine lv_iload_n hx hb d_Md_line_145 rfl (lv_at hl 3 rfl) ?_
                  refine lv_bipush (v := 11) hx hb d_Md_line_146 (by decide +kernel) ?_
                  refine lv_icmp_ne (tgt := 175) hx hb d_Md_line_148 (by decide) (fun h => absurd c_4 h) (fun _ => ?_)
                  refine lv_aload_n hx hb d_Md_line_151 rfl (lv_at hl 4 rfl) ?_
                  refine lv_iconst (v := 5) hx hb d_Md_line_152 (by decide +kernel) ?_
                  have hFc := hb_free hD hS hA
                  refine va_calli (va_runV (As := [.int 5]) (rest := []) ⟨hx, hb, hml, hown, htb⟩ (c_Md_takes_w l dC dI ct L_4 f_4 hO_4 q0 (hA_4.m m0) _ (5 : Int32) (by rw [show ti f_4 q0 28 = (ti f q0 28) from ((hA_4.ei m0 rfl).trans rfl)]; rw [show ti f_4 q0 42 = (ti f_4 q0 42) from rfl]; first | done | exact po_93) _ hQ) (cwV 1 htb (gd_V tw_371 tw_372 tw_373 tw_89 tw_370) rfl rfl rfl (by decide +kernel) ⟨Nat.le_of_ble_eq_true rfl, Nat.le_of_ble_eq_true rfl⟩) ⟨pc_blind, tw_recv hK hP (hA_4.m m0) rfl rfl, pc_pre hP hK hD hN⟩ rfl rfl hl.1 rfl (lv_room (Nat.le_of_ble_eq_true rfl)) d_Md_line_153 ⟨Nat.le_of_ble_eq_true rfl, Nat.le_of_ble_eq_true rfl⟩) hS (fun q _ h => hFc q h) hFc (fun r_95 u t H locs ht hvm er hB hz1 hk1 hS => ?_)
                  obtain ⟨L_5, f_5⟩ := u
                  obtain ⟨hO_5, hE_5, er, hQ⟩ := er
                  obtain ⟨hP, hK1, hD1⟩ := hB
                  rw [ht] at hP
                  have hP : va_P (dC, dI) vwCl (TW ct L_5 f_5) H := hP
                  have hD : va_D A (TW ct L_5 f_5) := hD1.weaken (fun _ q _ h => hFc q.1 h)
                  have hO_5 : Ok L_5 f_5 := hO_5
                  have hE_5 : Ext W_Md_takes_w L_4 f_4 L_5 f_5 := hE_5
                  clear hK1 hD1 ht hvm hz1 hk1
                  have hA_5 := hA_4.trans hE_5
                  have hQ := hQ hO_5 hE_5
                  rcases er with ⟨rfl, po_96, po_97, -⟩ | ⟨rfl, po_98, po_99, po_100, -⟩
                  · have hQ := hQ.1 rfl
                    rw [show ti f_4 q0 28 = (ti f q0 28) from ((hA_4.ei m0 rfl).trans rfl)] at po_97
                    refine lv_if_eq (tgt := 167) hx hb d_Md_line_156 (by decide) (fun _ => ?_) (fun h => absurd (by decide +kernel) h)
                    refine lv_iconst (v := 0) hx hb d_Md_line_167 (by decide +kernel) ?_
                    refine W.widen (k := 0) (n := 0) (Nat.le_of_ble_eq_true rfl) (Nat.le_of_ble_eq_true rfl) ?_
                    exact W.zret (v := 0) hx hb hr (by decide +kernel) (fun t ht hW => ⟨⟨0, (L_5, f_5), rfl, ⟨hO_5, hA_5.mono (by decide +kernel), (Or.inl ⟨rfl, (by show ¬ ((ti f_5 q0 42) < (ti f q0 42)); rw [show ti f_5 q0 42 = (ti f_5 q0 42) from rfl]; first | done | exact (show ¬ ((ti f_5 q0 42) < (ti f q0 42)) from ((fun (a_0 : Int32) (a_1 : Int32) (a_2 : Int32) (a_3 : Int32) (a_4 : Int32) (a_5 : Int32) (k_0 : ¬ (400 < a_0)) (k_1 : ¬ (a_1 < (a_0 + 1))) (k_2 : ¬ (a_2 < a_1)) (k_3 : ¬ (a_3 < a_2)) (k_4 : ¬ (a_4 < a_3)) (k_5 : ¬ (a_5 < a_4)) => (show ¬ (a_5 < a_0) from by have z0 : (1 : Int32).toInt = 1 := (by decide +kernel); have z1 : (400 : Int32).toInt = 400 := (by decide +kernel); have r0 := fb_rng (a_0); have r1 := fb_rng (a_1); have r2 := fb_rng (a_2); have r3 := fb_rng (a_3); have r4 := fb_rng (a_4); have r5 := fb_rng (a_5); have e0 := k_0; rw [Int32.lt_iff_toInt_lt, z1] at e0; obtain ⟨n_0, hn_0, s0⟩ := nd_add (x := a_0) (y := (1 : Int32)) (by (try rw [z0]); omega) (by (try rw [z0]); omega); rw [z0] at s0; have e1 := k_1; rw [hn_0, Int32.lt_iff_toInt_lt] at e1; have e2 := k_2; rw [Int32.lt_iff_toInt_lt] at e2; have e3 := k_3; rw [Int32.lt_iff_toInt_lt] at e3; have e4 := k_4; rw [Int32.lt_iff_toInt_lt] at e4; have e5 := k_5; rw [Int32.lt_iff_toInt_lt] at e5; rw [Int32.lt_iff_toInt_lt]; omega)) (ti f q0 42) (ti f_1 q0 42) (ti f_2 q0 42) (ti f_3 q0 42) (ti f_4 q0 42) (ti f_5 q0 42) bp_42.2 po_67 po_79 po_86 po_92 po_96))), (by show ¬ ((ti f q0 28) < (ti f_5 q0 42)); rw [show ti f_5 q0 42 = (ti f_5 q0 42) from rfl]; first | done | exact po_97), trivial⟩), hQ⟩, by rw [ht]; exact hP, va_K.moved hW.alike hK, by rw [hAe]; exact hD⟩, by rw [hAe]; exact hS.F ht⟩) (by rw [hAe]; exact hS.2.2) d_Md_line_168
                  · have hQ := hQ.2 rfl
                    rw [show ti f_4 q0 28 = (ti f q0 28) from ((hA_4.ei m0 rfl).trans rfl)] at po_100
                    refine lv_if_eq (tgt := 167) hx hb d_Md_line_156 (by decide) (fun h => absurd h (by decide +kernel)) (fun _ => ?_)
                    refine lv_aload_n hx hb d_Md_line_159 rfl (lv_at hl 4 rfl) ?_
                    refine lv_iconst (v := 1) hx hb d_Md_line_160 (by decide +kernel) ?_
                    have hFc := hb_free hD hS hA
                    refine va_calli (va_runV (As := [.int 1]) (rest := []) ⟨hx, hb, hml, hown, htb⟩ (c_Md_takes_w l dC dI ct L_5 f_5 hO_5 q0 (hA_5.m m0) _ (1 : Int32) (by rw [show ti f_5 q0 28 = (ti f q0 28) from ((hA_5.ei m0 rfl).trans rfl)]; rw [show ti f_5 q0 42 = (ti f_5 q0 42) from rfl]; first | done | exact po_100) _ hQ) (cwV 1 htb (gd_V tw_371 tw_372 tw_373 tw_89 tw_370) rfl rfl rfl (by decide +kernel) ⟨Nat.le_of_ble_eq_true rfl, Nat.le_of_ble_eq_true rfl⟩) ⟨pc_blind, tw_recv hK hP (hA_5.m m0) rfl rfl, pc_pre hP hK hD hN⟩ rfl rfl hl.1 rfl (lv_room (Nat.le_of_ble_eq_true rfl)) d_Md_line_161 ⟨Nat.le_of_ble_eq_true rfl, Nat.le_of_ble_eq_true rfl⟩) hS (fun q _ h => hFc q h) hFc (fun r_101 u t H locs ht hvm er hB hz1 hk1 hS => ?_)
                    obtain ⟨L_6, f_6⟩ := u
                    obtain ⟨hO_6, hE_6, er, hQ⟩ := er
                    obtain ⟨hP, hK1, hD1⟩ := hB
                    rw [ht] at hP
                    have hP : va_P (dC, dI) vwCl (TW ct L_6 f_6) H := hP
                    have hD : va_D A (TW ct L_6 f_6) := hD1.weaken (fun _ q _ h => hFc q.1 h)
                    have hO_6 : Ok L_6 f_6 := hO_6
                    have hE_6 : Ext W_Md_takes_w L_5 f_5 L_6 f_6 := hE_6
                    clear hK1 hD1 ht hvm hz1 hk1
                    have hA_6 := hA_5.trans hE_6
                    have hQ := hQ hO_6 hE_6
                    rcases er with ⟨rfl, po_102, po_103, -⟩ | ⟨rfl, po_104, po_105, po_106, -⟩
                    · have hQ := hQ.1 rfl
                      rw [show ti f_5 q0 28 = (ti f q0 28) from ((hA_5.ei m0 rfl).trans rfl)] at po_103
                      refine lv_if_ne (tgt := 169) hx hb d_Md_line_164 (by decide) (fun h => absurd (by decide +kernel) h) (fun _ => ?_)
                      refine lv_iconst (v := 0) hx hb d_Md_line_167 (by decide +kernel) ?_
                      refine W.widen (k := 0) (n := 0) (Nat.le_of_ble_eq_true rfl) (Nat.le_of_ble_eq_true rfl) ?_
                      exact W.zret (v := 0) hx hb hr (by decide +kernel) (fun t ht hW => ⟨⟨0, (L_6, f_6), rfl, ⟨hO_6, hA_6.mono (by decide +kernel), (Or.inl ⟨rfl, (by show ¬ ((ti f_6 q0 42) < (ti f q0 42)); rw [show ti f_6 q0 42 = (ti f_6 q0 42) from rfl]; first | done | exact (show ¬ ((ti f_6 q0 42) < (ti f q0 42)) from ((fun (a_0 : Int32) (a_1 : Int32) (a_2 : Int32) (a_3 : Int32) (a_4 : Int32) (a_5 : Int32) (a_6 : Int32) (k_0 : ¬ (400 < a_0)) (k_1 : ¬ (a_1 < (a_0 + 1))) (k_2 : ¬ (a_2 < a_1)) (k_3 : ¬ (a_3 < a_2)) (k_4 : ¬ (a_4 < a_3)) (k_5 : ¬ (a_5 < a_4)) (k_6 : ¬ (a_6 < a_5)) => (show ¬ (a_6 < a_0) from by have z0 : (1 : Int32).toInt = 1 := (by decide +kernel); have z1 : (400 : Int32).toInt = 400 := (by decide +kernel); have r0 := fb_rng (a_0); have r1 := fb_rng (a_1); have r2 := fb_rng (a_2); have r3 := fb_rng (a_3); have r4 := fb_rng (a_4); have r5 := fb_rng (a_5); have r6 := fb_rng (a_6); have e0 := k_0; rw [Int32.lt_iff_toInt_lt, z1] at e0; obtain ⟨n_0, hn_0, s0⟩ := nd_add (x := a_0) (y := (1 : Int32)) (by (try rw [z0]); omega) (by (try rw [z0]); omega); rw [z0] at s0; have e1 := k_1; rw [hn_0, Int32.lt_iff_toInt_lt] at e1; have e2 := k_2; rw [Int32.lt_iff_toInt_lt] at e2; have e3 := k_3; rw [Int32.lt_iff_toInt_lt] at e3; have e4 := k_4; rw [Int32.lt_iff_toInt_lt] at e4; have e5 := k_5; rw [Int32.lt_iff_toInt_lt] at e5; have e6 := k_6; rw [Int32.lt_iff_toInt_lt] at e6; rw [Int32.lt_iff_toInt_lt]; omega)) (ti f q0 42) (ti f_1 q0 42) (ti f_2 q0 42) (ti f_3 q0 42) (ti f_4 q0 42) (ti f_5 q0 42) (ti f_6 q0 42) bp_42.2 po_67 po_79 po_86 po_92 po_99 po_102))), (by show ¬ ((ti f q0 28) < (ti f_6 q0 42)); rw [show ti f_6 q0 42 = (ti f_6 q0 42) from rfl]; first | done | exact po_103), trivial⟩), hQ⟩, by rw [ht]; exact hP, va_K.moved hW.alike hK, by rw [hAe]; exact hD⟩, by rw [hAe]; exact hS.F ht⟩) (by rw [hAe]; exact hS.2.2) d_Md_line_168
                    · have hQ := hQ.2 rfl
                      rw [show ti f_5 q0 28 = (ti f q0 28) from ((hA_5.ei m0 rfl).trans rfl)] at po_106
                      refine lv_if_ne (tgt := 169) hx hb d_Md_line_164 (by decide) (fun _ => ?_) (fun h => absurd h (by decide +kernel))
                      refine lv_aload_n hx hb d_Md_line_169 rfl (lv_at hl 4 rfl) ?_
                      refine tw_geti (D := (dC, dI)) (C := R_Md) (T := F_Md) (N := 64) (ci := 7) (kd := 27) (ct := ct) hx hb htb i_Md hown hK hP hO_6 (hA_6.m m0) rfl rfl 46 (by decide) (htb (.fieldLink R_Md 266 "WaterMenModel" "got" "I") tw_369) (fun _ h9 => h9) rfl d_Md_line_170 (fun x_107 e_107 b_107 => ?_)
                      have hQ := hQ x_107 e_107
                      refine lv_istore (lv' := [(5, .int x_107), (4, .int x_94), (3, .int x_81), (2, .int (ti f q0 43)), (0, .ref q0), (1, .int p_0)]) hx hb d_Md_line_173 hl (by decide) rfl (fun ls hl => ?_)
                      refine lv_aload_n hx hb d_Md_line_175 rfl (lv_at hl 4 rfl) ?_
                      refine lv_iconst (v := 2) hx hb d_Md_line_176 (by decide +kernel) ?_
                      have hFc := hb_free hD hS hA
                      refine va_calli (va_runV (As := [.int 2]) (rest := []) ⟨hx, hb, hml, hown, htb⟩ (c_Md_takes_w l dC dI ct L_6 f_6 hO_6 q0 (hA_6.m m0) _ (2 : Int32) (by rw [show ti f_6 q0 28 = (ti f q0 28) from ((hA_6.ei m0 rfl).trans rfl)]; rw [show ti f_6 q0 42 = (ti f_6 q0 42) from rfl]; first | done | exact po_106) _ hQ) (cwV 1 htb (gd_V tw_371 tw_372 tw_373 tw_89 tw_370) rfl rfl rfl (by decide +kernel) ⟨Nat.le_of_ble_eq_true rfl, Nat.le_of_ble_eq_true rfl⟩) ⟨pc_blind, tw_recv hK hP (hA_6.m m0) rfl rfl, pc_pre hP hK hD hN⟩ rfl rfl hl.1 rfl (lv_room (Nat.le_of_ble_eq_true rfl)) d_Md_line_177 ⟨Nat.le_of_ble_eq_true rfl, Nat.le_of_ble_eq_true rfl⟩) hS (fun q _ h => hFc q h) hFc (fun r_108 u t H locs ht hvm er hB hz1 hk1 hS => ?_)
                      obtain ⟨L_7, f_7⟩ := u
                      obtain ⟨hO_7, hE_7, er, hQ⟩ := er
                      obtain ⟨hP, hK1, hD1⟩ := hB
                      rw [ht] at hP
                      have hP : va_P (dC, dI) vwCl (TW ct L_7 f_7) H := hP
                      have hD : va_D A (TW ct L_7 f_7) := hD1.weaken (fun _ q _ h => hFc q.1 h)
                      have hO_7 : Ok L_7 f_7 := hO_7
                      have hE_7 : Ext W_Md_takes_w L_6 f_6 L_7 f_7 := hE_7
                      clear hK1 hD1 ht hvm hz1 hk1
                      have hA_7 := hA_6.trans hE_7
                      have hQ := hQ hO_7 hE_7
                      rcases er with ⟨rfl, po_109, po_110, -⟩ | ⟨rfl, po_111, po_112, po_113, -⟩
                      · have hQ := hQ.1 rfl
                        rw [show ti f_6 q0 28 = (ti f q0 28) from ((hA_6.ei m0 rfl).trans rfl)] at po_110
                        refine lv_if_ne (tgt := 185) hx hb d_Md_line_180 (by decide) (fun h => absurd (by decide +kernel) h) (fun _ => ?_)
                        refine lv_iconst (v := 0) hx hb d_Md_line_183 (by decide +kernel) ?_
                        refine W.widen (k := 0) (n := 0) (Nat.le_of_ble_eq_true rfl) (Nat.le_of_ble_eq_true rfl) ?_
                        exact W.zret (v := 0) hx hb hr (by decide +kernel) (fun t ht hW => ⟨⟨0, (L_7, f_7), rfl, ⟨hO_7, hA_7.mono (by decide +kernel), (Or.inl ⟨rfl, (by show ¬ ((ti f_7 q0 42) < (ti f q0 42)); rw [show ti f_7 q0 42 = (ti f_7 q0 42) from rfl]; first | done | exact (show ¬ ((ti f_7 q0 42) < (ti f q0 42)) from ((fun (a_0 : Int32) (a_1 : Int32) (a_2 : Int32) (a_3 : Int32) (a_4 : Int32) (a_5 : Int32) (a_6 : Int32) (a_7 : Int32) (k_0 : ¬ (400 < a_0)) (k_1 : ¬ (a_1 < (a_0 + 1))) (k_2 : ¬ (a_2 < a_1)) (k_3 : ¬ (a_3 < a_2)) (k_4 : ¬ (a_4 < a_3)) (k_5 : ¬ (a_5 < a_4)) (k_6 : ¬ (a_6 < a_5)) (k_7 : ¬ (a_7 < a_6)) => (show ¬ (a_7 < a_0) from by have z0 : (1 : Int32).toInt = 1 := (by decide +kernel); have z1 : (400 : Int32).toInt = 400 := (by decide +kernel); have r0 := fb_rng (a_0); have r1 := fb_rng (a_1); have r2 := fb_rng (a_2); have r3 := fb_rng (a_3); have r4 := fb_rng (a_4); have r5 := fb_rng (a_5); have r6 := fb_rng (a_6); have r7 := fb_rng (a_7); have e0 := k_0; rw [Int32.lt_iff_toInt_lt, z1] at e0; obtain ⟨n_0, hn_0, s0⟩ := nd_add (x := a_0) (y := (1 : Int32)) (by (try rw [z0]); omega) (by (try rw [z0]); omega); rw [z0] at s0; have e1 := k_1; rw [hn_0, Int32.lt_iff_toInt_lt] at e1; have e2 := k_2; rw [Int32.lt_iff_toInt_lt] at e2; have e3 := k_3; rw [Int32.lt_iff_toInt_lt] at e3; have e4 := k_4; rw [Int32.lt_iff_toInt_lt] at e4; have e5 := k_5; rw [Int32.lt_iff_toInt_lt] at e5; have e6 := k_6; rw [Int32.lt_iff_toInt_lt] at e6; have e7 := k_7; rw [Int32.lt_iff_toInt_lt] at e7; rw [Int32.lt_iff_toInt_lt]; omega)) (ti f q0 42) (ti f_1 q0 42) (ti f_2 q0 42) (ti f_3 q0 42) (ti f_4 q0 42) (ti f_5 q0 42) (ti f_6 q0 42) (ti f_7 q0 42) bp_42.2 po_67 po_79 po_86 po_92 po_99 po_105 po_109))), (by show ¬ ((ti f q0 28) < (ti f_7 q0 42)); rw [show ti f_7 q0 42 = (ti f_7 q0 42) from rfl]; first | done | exact po_110), trivial⟩), hQ⟩, by rw [ht]; exact hP, va_K.moved hW.alike hK, by rw [hAe]; exact hD⟩, by rw [hAe]; exact hS.F ht⟩) (by rw [hAe]; exact hS.2.2) d_Md_line_184
                      · have hQ := hQ.2 rfl
                        rw [show ti f_6 q0 28 = (ti f q0 28) from ((hA_6.ei m0 rfl).trans rfl)] at po_113
                        refine lv_if_ne (tgt := 185) hx hb d_Md_line_180 (by decide) (fun _ => ?_) (fun h => absurd h (by decide +kernel))
                        refine lv_iload_n hx hb d_Md_line_185 rfl (lv_at hl 3 rfl) ?_
                        refine lv_bipush (v := 10) hx hb d_Md_line_186 (by decide +kernel) ?_
                        refine lv_icmp_ne (tgt := 257) hx hb d_Md_line_188 (by decide) (fun _ => ?_) (fun h => absurd h c_3)
                        refine lv_iload_n hx hb d_Md_line_257 rfl (lv_at hl 3 rfl) ?_
                        refine lv_bipush (v := 11) hx hb d_Md_line_258 (by decide +kernel) ?_
                        refine lv_icmp_ne (tgt := 329) hx hb d_Md_line_260 (by decide) (fun h => absurd c_4 h) (fun _ => ?_)
                        refine lv_aload_n hx hb d_Md_line_263 rfl (lv_at hl 4 rfl) ?_
                        refine tw_getr (D := (dC, dI)) (C := R_Md) (T := F_Md) (N := 64) (ci := 7) (kd := 27) (ct := ct) hx hb htb i_Md hown hK hP hO_7 (hA_7.m m0) rfl rfl 37 (by decide) (htb (.fieldLink R_Md 134 "WaterMenModel" "hourLow" "[I") tw_375) (fun _ h9 => h9) rfl d_Md_line_264 (fun q_114 e_114 m_114 => ?_)
                        have hQ := hQ q_114 e_114
                        refine lv_bipush (v := 12) hx hb d_Md_line_267 (by decide +kernel) ?_
                        refine lv_iload_n hx hb d_Md_line_269 rfl (lv_at hl 5 rfl) ?_
                        refine lv_imul hx hb d_Md_line_270 ?_
                        refine lv_aload_n hx hb d_Md_line_271 rfl (lv_at hl 4 rfl) ?_
                        refine tw_getR (D := (dC, dI)) (C := R_Md) (T := F_Md) (N := 64) (ci := 7) (kd := 27) (ct := ct) hx hb htb i_Md hown hK hP (hA_7.m m0) rfl rfl 36 ((hA_7.er m0 rfl).trans e_60) (by decide) (htb (.fieldLink R_Md 131 "WaterMenModel" "hours" "[I") tw_335) (fun _ h9 => h9) rfl d_Md_line_272 ?_
                        refine hb_tv (.ref q_60) rfl ?_
                        refine lv_iload_n hx hb d_Md_line_275 rfl (lv_at hl 5 rfl) ?_
                        refine tw_aldxI (ct := ct) (x := x_61) hx hb hK hP (hA_7.m m_60) rfl (hb_inl as_1 as_2 (by decide +kernel)) ((hA_7.ei m_60 rfl).trans e_61) d_Md_line_276 ?_
                        refine lv_iadd hx hb d_Md_line_277 ?_
                        refine lv_iload_n hx hb d_Md_line_278 rfl (lv_at hl 2 rfl) ?_
                        refine tw_astI (ct := ct) (x := x_81) hx hb hK hP hD hS hO_7 m_114 rfl ((fun (a_0 : Int32) (a_1 : Int32) (k_0 : ¬ (a_0 < 0)) (k_1 : ¬ (19 < a_0)) (k_2 : ¬ (a_1 < 0)) (k_3 : ¬ (12 < a_1)) (k_4 : ¬ (a_1 = 12)) => (show vp_in (((12 * a_0) + a_1)) 240 from by have z0 : (0 : Int32).toInt = 0 := (by decide +kernel); have z1 : (12 : Int32).toInt = 12 := (by decide +kernel); have z2 : (19 : Int32).toInt = 19 := (by decide +kernel); have r0 := fb_rng (a_0); have r1 := fb_rng (a_1); have e0 := k_0; rw [Int32.lt_iff_toInt_lt, z0] at e0; have e1 := k_1; rw [Int32.lt_iff_toInt_lt, z2] at e1; have e2 := k_2; rw [Int32.lt_iff_toInt_lt, z0] at e2; have e3 := k_3; rw [Int32.lt_iff_toInt_lt, z1] at e3; have e4 := k_4; rw [← Int32.toInt_inj, z1] at e4; obtain ⟨n_0, hn_0, s0⟩ := nd_mul (x := (12 : Int32)) (y := (a_0)) (by (try rw [z1]); omega) (by (try rw [z1]); omega); rw [z1] at s0; obtain ⟨n_1, hn_1, s1⟩ := nd_add (x := n_0) (y := (a_1)) (by omega) (by omega); rw [hn_0, hn_1, vp_in_iff]; omega)) p_0 x_61 as_1 as_2 b_61.1 b_61.2 c_62) (i32_full _) d_Md_line_279 (fun f_8 H locs hP hD hS hO_8 hE_8 w_116 ow_116 hF_8 => ?_)
                        have hA_8 := hA_7.trans hE_8
                        have hQ := hQ f_8 hF_8
                        have hQ := hQ hO_8
                        refine lv_aload_n hx hb d_Md_line_280 rfl (lv_at hl 4 rfl) ?_
                        refine tw_getr (D := (dC, dI)) (C := R_Md) (T := F_Md) (N := 64) (ci := 7) (kd := 27) (ct := ct) hx hb htb i_Md hown hK hP hO_8 (hA_8.m m0) rfl rfl 38 (by decide) (htb (.fieldLink R_Md 137 "WaterMenModel" "hourHigh" "[I") tw_376) (fun _ h9 => h9) rfl d_Md_line_281 (fun q_117 e_117 m_117 => ?_)
                        have hQ := hQ q_117 e_117
                        refine lv_bipush (v := 12) hx hb d_Md_line_284 (by decide +kernel) ?_
                        refine lv_iload_n hx hb d_Md_line_286 rfl (lv_at hl 5 rfl) ?_
                        refine lv_imul hx hb d_Md_line_287 ?_
                        refine lv_aload_n hx hb d_Md_line_288 rfl (lv_at hl 4 rfl) ?_
                        refine tw_getR (D := (dC, dI)) (C := R_Md) (T := F_Md) (N := 64) (ci := 7) (kd := 27) (ct := ct) hx hb htb i_Md hown hK hP (hA_8.m m0) rfl rfl 36 ((hA_8.er m0 rfl).trans e_60) (by decide) (htb (.fieldLink R_Md 131 "WaterMenModel" "hours" "[I") tw_335) (fun _ h9 => h9) rfl d_Md_line_289 ?_
                        refine hb_tv (.ref q_60) rfl ?_
                        refine lv_iload_n hx hb d_Md_line_292 rfl (lv_at hl 5 rfl) ?_
                        refine tw_aldxI (ct := ct) (x := x_61) hx hb hK hP (hA_8.m m_60) rfl (hb_inl as_1 as_2 (by decide +kernel)) ((hA_8.ei m_60 rfl).trans e_61) d_Md_line_293 ?_
                        refine lv_iadd hx hb d_Md_line_294 ?_
                        refine lv_iload hx hb d_Md_line_295 (lv_at hl 1 rfl) ?_
                        refine tw_astI (ct := ct) (x := x_94) hx hb hK hP hD hS hO_8 m_117 rfl ((fun (a_0 : Int32) (a_1 : Int32) (k_0 : ¬ (a_0 < 0)) (k_1 : ¬ (19 < a_0)) (k_2 : ¬ (a_1 < 0)) (k_3 : ¬ (12 < a_1)) (k_4 : ¬ (a_1 = 12)) => (show vp_in (((12 * a_0) + a_1)) 240 from by have z0 : (0 : Int32).toInt = 0 := (by decide +kernel); have z1 : (12 : Int32).toInt = 12 := (by decide +kernel); have z2 : (19 : Int32).toInt = 19 := (by decide +kernel); have r0 := fb_rng (a_0); have r1 := fb_rng (a_1); have e0 := k_0; rw [Int32.lt_iff_toInt_lt, z0] at e0; have e1 := k_1; rw [Int32.lt_iff_toInt_lt, z2] at e1; have e2 := k_2; rw [Int32.lt_iff_toInt_lt, z0] at e2; have e3 := k_3; rw [Int32.lt_iff_toInt_lt, z1] at e3; have e4 := k_4; rw [← Int32.toInt_inj, z1] at e4; obtain ⟨n_0, hn_0, s0⟩ := nd_mul (x := (12 : Int32)) (y := (a_0)) (by (try rw [z1]); omega) (by (try rw [z1]); omega); rw [z1] at s0; obtain ⟨n_1, hn_1, s1⟩ := nd_add (x := n_0) (y := (a_1)) (by omega) (by omega); rw [hn_0, hn_1, vp_in_iff]; omega)) p_0 x_61 as_1 as_2 b_61.1 b_61.2 c_62) (i32_full _) d_Md_line_297 (fun f_9 H locs hP hD hS hO_9 hE_9 w_119 ow_119 hF_9 => ?_)
                        have hA_9 := hA_8.trans hE_9
                        have hQ := hQ f_9 hF_9
                        have hQ := hQ hO_9
                        refine lv_aload_n hx hb d_Md_line_298 rfl (lv_at hl 4 rfl) ?_
                        refine tw_getr (D := (dC, dI)) (C := R_Md) (T := F_Md) (N := 64) (ci := 7) (kd := 27) (ct := ct) hx hb htb i_Md hown hK hP hO_9 (hA_9.m m0) rfl rfl 39 (by decide) (htb (.fieldLink R_Md 140 "WaterMenModel" "hourIs" "[I") tw_377) (fun _ h9 => h9) rfl d_Md_line_299 (fun q_120 e_120 m_120 => ?_)
                        have hQ := hQ q_120 e_120
                        refine lv_bipush (v := 12) hx hb d_Md_line_302 (by decide +kernel) ?_
                        refine lv_iload_n hx hb d_Md_line_304 rfl (lv_at hl 5 rfl) ?_
                        refine lv_imul hx hb d_Md_line_305 ?_
                        refine lv_aload_n hx hb d_Md_line_306 rfl (lv_at hl 4 rfl) ?_
                        refine tw_getR (D := (dC, dI)) (C := R_Md) (T := F_Md) (N := 64) (ci := 7) (kd := 27) (ct := ct) hx hb htb i_Md hown hK hP (hA_9.m m0) rfl rfl 36 ((hA_9.er m0 rfl).trans e_60) (by decide) (htb (.fieldLink R_Md 131 "WaterMenModel" "hours" "[I") tw_335) (fun _ h9 => h9) rfl d_Md_line_307 ?_
                        refine hb_tv (.ref q_60) rfl ?_
                        refine lv_iload_n hx hb d_Md_line_310 rfl (lv_at hl 5 rfl) ?_
                        refine tw_aldxI (ct := ct) (x := x_61) hx hb hK hP (hA_9.m m_60) rfl (hb_inl as_1 as_2 (by decide +kernel)) ((hA_9.ei m_60 rfl).trans e_61) d_Md_line_311 ?_
                        refine lv_iadd hx hb d_Md_line_312 ?_
                        refine lv_iload hx hb d_Md_line_313 (lv_at hl 0 rfl) ?_
                        refine tw_astI (ct := ct) (x := x_107) hx hb hK hP hD hS hO_9 m_120 rfl ((fun (a_0 : Int32) (a_1 : Int32) (k_0 : ¬ (a_0 < 0)) (k_1 : ¬ (19 < a_0)) (k_2 : ¬ (a_1 < 0)) (k_3 : ¬ (12 < a_1)) (k_4 : ¬ (a_1 = 12)) => (show vp_in (((12 * a_0) + a_1)) 240 from by have z0 : (0 : Int32).toInt = 0 := (by decide +kernel); have z1 : (12 : Int32).toInt = 12 := (by decide +kernel); have z2 : (19 : Int32).toInt = 19 := (by decide +kernel); have r0 := fb_rng (a_0); have r1 := fb_rng (a_1); have e0 := k_0; rw [Int32.lt_iff_toInt_lt, z0] at e0; have e1 := k_1; rw [Int32.lt_iff_toInt_lt, z2] at e1; have e2 := k_2; rw [Int32.lt_iff_toInt_lt, z0] at e2; have e3 := k_3; rw [Int32.lt_iff_toInt_lt, z1] at e3; have e4 := k_4; rw [← Int32.toInt_inj, z1] at e4; obtain ⟨n_0, hn_0, s0⟩ := nd_mul (x := (12 : Int32)) (y := (a_0)) (by (try rw [z1]); omega) (by (try rw [z1]); omega); rw [z1] at s0; obtain ⟨n_1, hn_1, s1⟩ := nd_add (x := n_0) (y := (a_1)) (by omega) (by omega); rw [hn_0, hn_1, vp_in_iff]; omega)) p_0 x_61 as_1 as_2 b_61.1 b_61.2 c_62) (i32_full _) d_Md_line_315 (fun f_10 H locs hP hD hS hO_10 hE_10 w_122 ow_122 hF_10 => ?_)
                        have hA_10 := hA_9.trans hE_10
                        have hQ := hQ f_10 hF_10
                        have hQ := hQ hO_10
                        refine lv_aload_n hx hb d_Md_line_316 rfl (lv_at hl 4 rfl) ?_
                        refine tw_getR (D := (dC, dI)) (C := R_Md) (T := F_Md) (N := 64) (ci := 7) (kd := 27) (ct := ct) hx hb htb i_Md hown hK hP (hA_10.m m0) rfl rfl 36 ((hA_10.er m0 rfl).trans e_60) (by decide) (htb (.fieldLink R_Md 131 "WaterMenModel" "hours" "[I") tw_335) (fun _ h9 => h9) rfl d_Md_line_317 ?_
                        refine hb_tv (.ref q_60) rfl ?_
                        refine lv_iload_n hx hb d_Md_line_320 rfl (lv_at hl 5 rfl) ?_
                        refine lv_dup2_11 hx hb d_Md_line_321 rfl rfl ?_
                        refine tw_aldxI (ct := ct) (x := x_61) hx hb hK hP (hA_10.m m_60) rfl (hb_inl as_1 as_2 (by decide +kernel)) ((hA_10.ei m_60 rfl).trans e_61) d_Md_line_322 ?_
                        refine lv_iconst (v := 1) hx hb d_Md_line_323 (by decide +kernel) ?_
                        refine lv_iadd hx hb d_Md_line_324 ?_
                        refine tw_astI (ct := ct) (x := (x_61 + 1)) hx hb hK hP hD hS hO_10 (hA_10.m m_60) rfl (hb_inl as_1 as_2 (by decide +kernel)) ⟨(show ¬ ((x_61 + 1) < 0) from by have e0 := b_61.1; rw [Int32.lt_iff_toInt_lt] at e0; have e1 := b_61.2; rw [Int32.lt_iff_toInt_lt] at e1; have e2 := c_62; rw [← Int32.toInt_inj] at e2; have z0 : (0 : Int32).toInt = 0 := (by decide +kernel); have z1 : (1 : Int32).toInt = 1 := (by decide +kernel); have z2 : (12 : Int32).toInt = 12 := (by decide +kernel); have ss := fb_addI (x := x_61) (y := 1) (by omega) (by omega); rw [Int32.lt_iff_toInt_lt]; omega), (show ¬ (12 < (x_61 + 1)) from by have e0 := b_61.1; rw [Int32.lt_iff_toInt_lt] at e0; have e1 := b_61.2; rw [Int32.lt_iff_toInt_lt] at e1; have e2 := c_62; rw [← Int32.toInt_inj] at e2; have z0 : (0 : Int32).toInt = 0 := (by decide +kernel); have z1 : (1 : Int32).toInt = 1 := (by decide +kernel); have z2 : (12 : Int32).toInt = 12 := (by decide +kernel); have ss := fb_addI (x := x_61) (y := 1) (by omega) (by omega); rw [Int32.lt_iff_toInt_lt]; omega)⟩ d_Md_line_325 (fun f_11 H locs hP hD hS hO_11 hE_11 w_124 ow_124 hF_11 => ?_)
                        have hA_11 := hA_10.trans hE_11
                        have hQ := hQ f_11 hF_11
                        have hQ := hQ hO_11
                        refine lv_goto (tgt := 367) hx hb d_Md_line_326 (by decide) ?_
                        refine lv_iconst (v := 1) hx hb d_Md_line_367 (by decide +kernel) ?_
                        refine W.widen (k := 0) (n := 0) (Nat.le_of_ble_eq_true rfl) (Nat.le_of_ble_eq_true rfl) ?_
                        exact W.zret (v := 1) hx hb hr (by decide +kernel) (fun t ht hW => ⟨⟨1, (L_7, f_11), rfl, ⟨hO_11, hA_11.mono (by decide +kernel), (Or.inr ⟨rfl, (by show ¬ ((ti f_11 q0 42) < ((ti f q0 42) + 1)); rw [show ti f_11 q0 42 = (ti f_7 q0 42) from ((hE_11.ei (hA_10.m m0) rfl).trans ((hE_10.ei (hA_9.m m0) rfl).trans ((hE_9.ei (hA_8.m m0) rfl).trans ((hE_8.ei (hA_7.m m0) rfl).trans rfl))))]; first | done | exact (show ¬ ((ti f_7 q0 42) < ((ti f q0 42) + 1)) from ((fun (a_0 : Int32) (a_1 : Int32) (a_2 : Int32) (a_3 : Int32) (a_4 : Int32) (a_5 : Int32) (a_6 : Int32) (a_7 : Int32) (k_0 : ¬ (400 < a_0)) (k_1 : ¬ (a_1 < (a_0 + 1))) (k_2 : ¬ (a_2 < a_1)) (k_3 : ¬ (a_3 < a_2)) (k_4 : ¬ (a_4 < a_3)) (k_5 : ¬ (a_5 < a_4)) (k_6 : ¬ (a_6 < a_5)) (k_7 : ¬ (a_7 < a_6)) => (show ¬ (a_7 < (a_0 + 1)) from by have z0 : (1 : Int32).toInt = 1 := (by decide +kernel); have z1 : (400 : Int32).toInt = 400 := (by decide +kernel); have r0 := fb_rng (a_0); have r1 := fb_rng (a_1); have r2 := fb_rng (a_2); have r3 := fb_rng (a_3); have r4 := fb_rng (a_4); have r5 := fb_rng (a_5); have r6 := fb_rng (a_6); have r7 := fb_rng (a_7); have e0 := k_0; rw [Int32.lt_iff_toInt_lt, z1] at e0; obtain ⟨n_0, hn_0, s0⟩ := nd_add (x := a_0) (y := (1 : Int32)) (by (try rw [z0]); omega) (by (try rw [z0]); omega); rw [z0] at s0; have e1 := k_1; rw [hn_0, Int32.lt_iff_toInt_lt] at e1; have e2 := k_2; rw [Int32.lt_iff_toInt_lt] at e2; have e3 := k_3; rw [Int32.lt_iff_toInt_lt] at e3; have e4 := k_4; rw [Int32.lt_iff_toInt_lt] at e4; have e5 := k_5; rw [Int32.lt_iff_toInt_lt] at e5; have e6 := k_6; rw [Int32.lt_iff_toInt_lt] at e6; have e7 := k_7; rw [Int32.lt_iff_toInt_lt] at e7; rw [hn_0, Int32.lt_iff_toInt_lt]; omega)) (ti f q0 42) (ti f_1 q0 42) (ti f_2 q0 42) (ti f_3 q0 42) (ti f_4 q0 42) (ti f_5 q0 42) (ti f_6 q0 42) (ti f_7 q0 42) bp_42.2 po_67 po_79 po_86 po_92 po_99 po_105 po_112))), (by show ¬ ((ti f q0 28) < (ti f_11 q0 42)); rw [show ti f_11 q0 42 = (ti f_7 q0 42) from ((hE_11.ei (hA_10.m m0) rfl).trans ((hE_10.ei (hA_9.m m0) rfl).trans ((hE_9.ei (hA_8.m m0) rfl).trans ((hE_8.ei (hA_7.m m0) rfl).trans rfl))))]; first | done | exact po_113), trivial⟩), hQ⟩, by rw [ht]; exact hP, va_K.moved hW.alike hK, by rw [hAe]; exact hD⟩, by rw [hAe]; exact hS.F ht⟩) (by rw [hAe]; exact hS.2.2) d_Md_line_368
        · have hQ := hQ.1 c_62
          refine lv_goto (tgt := 70) hx hb d_Md_line_50 (by decide) ?_
          refine lv_iconst (v := 0) hx hb d_Md_line_70 (by decide +kernel) ?_
          refine W.widen (k := 0) (n := 0) (Nat.le_of_ble_eq_true rfl) (Nat.le_of_ble_eq_true rfl) ?_
          exact W.zret (v := 0) hx hb hr (by decide +kernel) (fun t ht hW => ⟨⟨0, (L, f), rfl, ⟨hO_0, hA_0.mono (by decide +kernel), (Or.inl ⟨rfl, (by show ¬ ((ti f q0 42) < (ti f q0 42)); rw [show ti f q0 42 = (ti f q0 42) from rfl]; first | done | exact (show ¬ ((ti f q0 42) < (ti f q0 42)) from ((fun (a_0 : Int32)  => (show ¬ (a_0 < a_0) from by have r0 := fb_rng (a_0); rw [Int32.lt_iff_toInt_lt]; omega)) (ti f q0 42) ))), (by show ¬ ((ti f q0 28) < (ti f q0 42)); rw [show ti f q0 42 = (ti f q0 42) from rfl]; first | done | exact as_0), trivial⟩), hQ⟩, by rw [ht]; exact hP, va_K.moved hW.alike hK, by rw [hAe]; exact hD⟩, by rw [hAe]; exact hS.F ht⟩) (by rw [hAe]; exact hS.2.2) d_Md_line_71
    · have hQ := hQ.1 c_3
      refine lv_aload_n hx hb d_Md_line_19 rfl (lv_at hl 1 rfl) ?_
      refine tw_getr (D := (dC, dI)) (C := R_Md) (T := F_Md) (N := 64) (ci := 7) (kd := 27) (ct := ct) hx hb htb i_Md hown hK hP hO_0 m0 rfl rfl 32 (by decide) (htb (.fieldLink R_Md 119 "WaterMenModel" "fares" "[I") tw_334) (fun _ h9 => h9) rfl d_Md_line_20 (fun q_125 e_125 m_125 => ?_)
      have hQ := hQ q_125 e_125
      refine lv_iload_n hx hb d_Md_line_23 rfl (lv_at hl 2 rfl) ?_
      refine tw_aldI (ct := ct) hx hb hK hP hO_0 m_125 rfl (hb_inl as_1 as_2 (by decide +kernel)) d_Md_line_24 (fun x_126 e_126 b_126 => ?_)
      have hQ := hQ x_126 e_126
      refine lv_bipush (v := 12) hx hb d_Md_line_25 (by decide +kernel) ?_
      refine lv_icmp_ne (tgt := 72) hx hb d_Md_line_27 (by decide) (fun c_127 => ?_) (fun c_127 => ?_)
      · have hQ := hQ.2 c_127
        refine lv_aload_n hx hb d_Md_line_72 rfl (lv_at hl 1 rfl) ?_
        have hFc := hb_free hD hS hA
        refine va_callv (va_runV (As := []) (rest := []) ⟨hx, hb, hml, hown, htb⟩ (c_Md_advance_w l dC dI ct L f hO_0 q0 m0 _ (by rw [show ti f q0 28 = (ti f q0 28) from rfl]; rw [show ti f q0 42 = (ti f q0 42) from rfl]; first | done | exact as_0) _ hQ) (cwV 0 htb (gd_V tw_363 tw_364 tw_365 tw_89 tw_362) rfl rfl rfl (by decide +kernel) ⟨Nat.le_of_ble_eq_true rfl, Nat.le_of_ble_eq_true rfl⟩) ⟨pc_blind, tw_recv hK hP m0 rfl rfl, pc_pre hP hK hD hN⟩ rfl rfl hl.1 rfl (lv_room (Nat.le_of_ble_eq_true rfl)) d_Md_line_73 ⟨Nat.le_of_ble_eq_true rfl, Nat.le_of_ble_eq_true rfl⟩) hS (fun q _ h => hFc q h) hFc (fun u t H locs ht hvm er hB hz1 hk1 hS => ?_)
        obtain ⟨L_1, f_1⟩ := u
        obtain ⟨hO_1, hE_1, er, hQ⟩ := er
        obtain ⟨hP, hK1, hD1⟩ := hB
        rw [ht] at hP
        have hP : va_P (dC, dI) vwCl (TW ct L_1 f_1) H := hP
        have hD : va_D A (TW ct L_1 f_1) := hD1.weaken (fun _ q _ h => hFc q.1 h)
        have hO_1 : Ok L_1 f_1 := hO_1
        have hE_1 : Ext W_Md_advance_w L f L_1 f_1 := hE_1
        clear hK1 hD1 ht hvm hz1 hk1
        have hA_1 := hA_0.trans hE_1
        have hQ := hQ hO_1 hE_1
        rcases er with ⟨po_129, po_130, po_131, -⟩ | ⟨po_132, po_133, -⟩
        · have hQ := hQ.1
          refine lv_aload_n hx hb d_Md_line_76 rfl (lv_at hl 1 rfl) ?_
          refine lv_iconst (v := 1) hx hb d_Md_line_77 (by decide +kernel) ?_
          have hFc := hb_free hD hS hA
          refine va_calli (va_runV (As := [.int 1]) (rest := []) ⟨hx, hb, hml, hown, htb⟩ (c_Md_takes_w l dC dI ct L_1 f_1 hO_1 q0 (hA_1.m m0) _ (1 : Int32) (by rw [show ti f_1 q0 28 = (ti f q0 28) from ((hA_1.ei m0 rfl).trans rfl)]; rw [show ti f_1 q0 42 = (ti f_1 q0 42) from rfl]; first | done | exact po_131) _ hQ) (cwV 1 htb (gd_V tw_371 tw_372 tw_373 tw_89 tw_370) rfl rfl rfl (by decide +kernel) ⟨Nat.le_of_ble_eq_true rfl, Nat.le_of_ble_eq_true rfl⟩) ⟨pc_blind, tw_recv hK hP (hA_1.m m0) rfl rfl, pc_pre hP hK hD hN⟩ rfl rfl hl.1 rfl (lv_room (Nat.le_of_ble_eq_true rfl)) d_Md_line_78 ⟨Nat.le_of_ble_eq_true rfl, Nat.le_of_ble_eq_true rfl⟩) hS (fun q _ h => hFc q h) hFc (fun r_134 u t H locs ht hvm er hB hz1 hk1 hS => ?_)
          obtain ⟨L_2, f_2⟩ := u
          obtain ⟨hO_2, hE_2, er, hQ⟩ := er
          obtain ⟨hP, hK1, hD1⟩ := hB
          rw [ht] at hP
          have hP : va_P (dC, dI) vwCl (TW ct L_2 f_2) H := hP
          have hD : va_D A (TW ct L_2 f_2) := hD1.weaken (fun _ q _ h => hFc q.1 h)
          have hO_2 : Ok L_2 f_2 := hO_2
          have hE_2 : Ext W_Md_takes_w L_1 f_1 L_2 f_2 := hE_2
          clear hK1 hD1 ht hvm hz1 hk1
          have hA_2 := hA_1.trans hE_2
          have hQ := hQ hO_2 hE_2
          rcases er with ⟨rfl, po_135, po_136, -⟩ | ⟨rfl, po_137, po_138, po_139, -⟩
          · have hQ := hQ.1 rfl
            rw [show ti f_1 q0 28 = (ti f q0 28) from ((hA_1.ei m0 rfl).trans rfl)] at po_136
            refine lv_if_ne (tgt := 86) hx hb d_Md_line_81 (by decide) (fun h => absurd (by decide +kernel) h) (fun _ => ?_)
            refine lv_iconst (v := 0) hx hb d_Md_line_84 (by decide +kernel) ?_
            refine W.widen (k := 0) (n := 0) (Nat.le_of_ble_eq_true rfl) (Nat.le_of_ble_eq_true rfl) ?_
            exact W.zret (v := 0) hx hb hr (by decide +kernel) (fun t ht hW => ⟨⟨0, (L_2, f_2), rfl, ⟨hO_2, hA_2.mono (by decide +kernel), (Or.inl ⟨rfl, (by show ¬ ((ti f_2 q0 42) < (ti f q0 42)); rw [show ti f_2 q0 42 = (ti f_2 q0 42) from rfl]; first | done | exact (show ¬ ((ti f_2 q0 42) < (ti f q0 42)) from ((fun (a_0 : Int32) (a_1 : Int32) (a_2 : Int32) (k_0 : ¬ (a_1 < a_0)) (k_1 : ¬ (a_2 < a_1)) => (show ¬ (a_2 < a_0) from by have r0 := fb_rng (a_0); have r1 := fb_rng (a_1); have r2 := fb_rng (a_2); have e0 := k_0; rw [Int32.lt_iff_toInt_lt] at e0; have e1 := k_1; rw [Int32.lt_iff_toInt_lt] at e1; rw [Int32.lt_iff_toInt_lt]; omega)) (ti f q0 42) (ti f_1 q0 42) (ti f_2 q0 42) po_130 po_135))), (by show ¬ ((ti f q0 28) < (ti f_2 q0 42)); rw [show ti f_2 q0 42 = (ti f_2 q0 42) from rfl]; first | done | exact po_136), trivial⟩), hQ⟩, by rw [ht]; exact hP, va_K.moved hW.alike hK, by rw [hAe]; exact hD⟩, by rw [hAe]; exact hS.F ht⟩) (by rw [hAe]; exact hS.2.2) d_Md_line_85
          · rw [show ti f_1 q0 28 = (ti f q0 28) from ((hA_1.ei m0 rfl).trans rfl)] at po_139
            exact absurd (po_137.symm.trans po_129) (by decide +kernel)
        · have hQ := hQ.2
          refine lv_aload_n hx hb d_Md_line_76 rfl (lv_at hl 1 rfl) ?_
          refine lv_iconst (v := 1) hx hb d_Md_line_77 (by decide +kernel) ?_
          have hFc := hb_free hD hS hA
          refine va_calli (va_runV (As := [.int 1]) (rest := []) ⟨hx, hb, hml, hown, htb⟩ (c_Md_takes_w l dC dI ct L_1 f_1 hO_1 q0 (hA_1.m m0) _ (1 : Int32) (by rw [show ti f_1 q0 28 = (ti f q0 28) from ((hA_1.ei m0 rfl).trans rfl)]; rw [show ti f_1 q0 42 = (ti f_1 q0 42) from rfl]; first | done | exact po_133) _ hQ) (cwV 1 htb (gd_V tw_371 tw_372 tw_373 tw_89 tw_370) rfl rfl rfl (by decide +kernel) ⟨Nat.le_of_ble_eq_true rfl, Nat.le_of_ble_eq_true rfl⟩) ⟨pc_blind, tw_recv hK hP (hA_1.m m0) rfl rfl, pc_pre hP hK hD hN⟩ rfl rfl hl.1 rfl (lv_room (Nat.le_of_ble_eq_true rfl)) d_Md_line_78 ⟨Nat.le_of_ble_eq_true rfl, Nat.le_of_ble_eq_true rfl⟩) hS (fun q _ h => hFc q h) hFc (fun r_140 u t H locs ht hvm er hB hz1 hk1 hS => ?_)
          obtain ⟨L_2, f_2⟩ := u
          obtain ⟨hO_2, hE_2, er, hQ⟩ := er
          obtain ⟨hP, hK1, hD1⟩ := hB
          rw [ht] at hP
          have hP : va_P (dC, dI) vwCl (TW ct L_2 f_2) H := hP
          have hD : va_D A (TW ct L_2 f_2) := hD1.weaken (fun _ q _ h => hFc q.1 h)
          have hO_2 : Ok L_2 f_2 := hO_2
          have hE_2 : Ext W_Md_takes_w L_1 f_1 L_2 f_2 := hE_2
          clear hK1 hD1 ht hvm hz1 hk1
          have hA_2 := hA_1.trans hE_2
          have hQ := hQ hO_2 hE_2
          rcases er with ⟨rfl, po_141, po_142, -⟩ | ⟨rfl, po_143, po_144, po_145, -⟩
          · have hQ := hQ.1 rfl
            rw [show ti f_1 q0 28 = (ti f q0 28) from ((hA_1.ei m0 rfl).trans rfl)] at po_142
            refine lv_if_ne (tgt := 86) hx hb d_Md_line_81 (by decide) (fun h => absurd (by decide +kernel) h) (fun _ => ?_)
            refine lv_iconst (v := 0) hx hb d_Md_line_84 (by decide +kernel) ?_
            refine W.widen (k := 0) (n := 0) (Nat.le_of_ble_eq_true rfl) (Nat.le_of_ble_eq_true rfl) ?_
            exact W.zret (v := 0) hx hb hr (by decide +kernel) (fun t ht hW => ⟨⟨0, (L_2, f_2), rfl, ⟨hO_2, hA_2.mono (by decide +kernel), (Or.inl ⟨rfl, (by show ¬ ((ti f_2 q0 42) < (ti f q0 42)); rw [show ti f_2 q0 42 = (ti f_2 q0 42) from rfl]; first | done | exact (show ¬ ((ti f_2 q0 42) < (ti f q0 42)) from ((fun (a_0 : Int32) (a_1 : Int32) (a_2 : Int32) (k_0 : ¬ (400 < a_0)) (k_1 : ¬ (a_1 < (a_0 + 1))) (k_2 : ¬ (a_2 < a_1)) => (show ¬ (a_2 < a_0) from by have z0 : (1 : Int32).toInt = 1 := (by decide +kernel); have z1 : (400 : Int32).toInt = 400 := (by decide +kernel); have r0 := fb_rng (a_0); have r1 := fb_rng (a_1); have r2 := fb_rng (a_2); have e0 := k_0; rw [Int32.lt_iff_toInt_lt, z1] at e0; obtain ⟨n_0, hn_0, s0⟩ := nd_add (x := a_0) (y := (1 : Int32)) (by (try rw [z0]); omega) (by (try rw [z0]); omega); rw [z0] at s0; have e1 := k_1; rw [hn_0, Int32.lt_iff_toInt_lt] at e1; have e2 := k_2; rw [Int32.lt_iff_toInt_lt] at e2; rw [Int32.lt_iff_toInt_lt]; omega)) (ti f q0 42) (ti f_1 q0 42) (ti f_2 q0 42) bp_42.2 po_132 po_141))), (by show ¬ ((ti f q0 28) < (ti f_2 q0 42)); rw [show ti f_2 q0 42 = (ti f_2 q0 42) from rfl]; first | done | exact po_142), trivial⟩), hQ⟩, by rw [ht]; exact hP, va_K.moved hW.alike hK, by rw [hAe]; exact hD⟩, by rw [hAe]; exact hS.F ht⟩) (by rw [hAe]; exact hS.2.2) d_Md_line_85
          · have hQ := hQ.2 rfl
            rw [show ti f_1 q0 28 = (ti f q0 28) from ((hA_1.ei m0 rfl).trans rfl)] at po_145
            refine lv_if_ne (tgt := 86) hx hb d_Md_line_81 (by decide) (fun _ => ?_) (fun h => absurd h (by decide +kernel))
            refine lv_aload_n hx hb d_Md_line_86 rfl (lv_at hl 1 rfl) ?_
            refine tw_geti (D := (dC, dI)) (C := R_Md) (T := F_Md) (N := 64) (ci := 7) (kd := 27) (ct := ct) hx hb htb i_Md hown hK hP hO_2 (hA_2.m m0) rfl rfl 46 (by decide) (htb (.fieldLink R_Md 266 "WaterMenModel" "got" "I") tw_369) (fun _ h9 => h9) rfl d_Md_line_87 (fun x_146 e_146 b_146 => ?_)
            have hQ := hQ x_146 e_146
            refine lv_istore_n (lv' := [(3, .int x_146), (2, .int (ti f q0 43)), (0, .ref q0), (1, .int p_0)]) hx hb d_Md_line_90 rfl hl (by decide) rfl (fun ls hl => ?_)
            refine lv_iconst (v := 0) hx hb d_Md_line_91 (by decide +kernel) ?_
            refine lv_istore (lv' := [(4, .int 0), (3, .int x_146), (2, .int (ti f q0 43)), (0, .ref q0), (1, .int p_0)]) hx hb d_Md_line_92 hl (by decide) rfl (fun ls hl => ?_)
            refine lv_iload_n hx hb d_Md_line_94 rfl (lv_at hl 2 rfl) ?_
            refine lv_bipush (v := 10) hx hb d_Md_line_95 (by decide +kernel) ?_
            refine lv_icmp_eq (tgt := 112) hx hb d_Md_line_97 (by decide) (fun _ => ?_) (fun h => absurd c_3 h)
            refine lv_aload_n hx hb d_Md_line_112 rfl (lv_at hl 3 rfl) ?_
            refine lv_iconst (v := 4) hx hb d_Md_line_113 (by decide +kernel) ?_
            have hFc := hb_free hD hS hA
            refine va_calli (va_runV (As := [.int 4]) (rest := []) ⟨hx, hb, hml, hown, htb⟩ (c_Md_takes_w l dC dI ct L_2 f_2 hO_2 q0 (hA_2.m m0) _ (4 : Int32) (by rw [show ti f_2 q0 28 = (ti f q0 28) from ((hA_2.ei m0 rfl).trans rfl)]; rw [show ti f_2 q0 42 = (ti f_2 q0 42) from rfl]; first | done | exact po_145) _ hQ) (cwV 1 htb (gd_V tw_371 tw_372 tw_373 tw_89 tw_370) rfl rfl rfl (by decide +kernel) ⟨Nat.le_of_ble_eq_true rfl, Nat.le_of_ble_eq_true rfl⟩) ⟨pc_blind, tw_recv hK hP (hA_2.m m0) rfl rfl, pc_pre hP hK hD hN⟩ rfl rfl hl.1 rfl (lv_room (Nat.le_of_ble_eq_true rfl)) d_Md_line_114 ⟨Nat.le_of_ble_eq_true rfl, Nat.le_of_ble_eq_true rfl⟩) hS (fun q _ h => hFc q h) hFc (fun r_147 u t H locs ht hvm er hB hz1 hk1 hS => ?_)
            obtain ⟨L_3, f_3⟩ := u
            obtain ⟨hO_3, hE_3, er, hQ⟩ := er
            obtain ⟨hP, hK1, hD1⟩ := hB
            rw [ht] at hP
            have hP : va_P (dC, dI) vwCl (TW ct L_3 f_3) H := hP
            have hD : va_D A (TW ct L_3 f_3) := hD1.weaken (fun _ q _ h => hFc q.1 h)
            have hO_3 : Ok L_3 f_3 := hO_3
            have hE_3 : Ext W_Md_takes_w L_2 f_2 L_3 f_3 := hE_3
            clear hK1 hD1 ht hvm hz1 hk1
            have hA_3 := hA_2.trans hE_3
            have hQ := hQ hO_3 hE_3
            rcases er with ⟨rfl, po_148, po_149, -⟩ | ⟨rfl, po_150, po_151, po_152, -⟩
            · have hQ := hQ.1 rfl
              rw [show ti f_2 q0 28 = (ti f q0 28) from ((hA_2.ei m0 rfl).trans rfl)] at po_149
              refine lv_if_eq (tgt := 128) hx hb d_Md_line_117 (by decide) (fun _ => ?_) (fun h => absurd (by decide +kernel) h)
              refine lv_iconst (v := 0) hx hb d_Md_line_128 (by decide +kernel) ?_
              refine W.widen (k := 0) (n := 0) (Nat.le_of_ble_eq_true rfl) (Nat.le_of_ble_eq_true rfl) ?_
              exact W.zret (v := 0) hx hb hr (by decide +kernel) (fun t ht hW => ⟨⟨0, (L_3, f_3), rfl, ⟨hO_3, hA_3.mono (by decide +kernel), (Or.inl ⟨rfl, (by show ¬ ((ti f_3 q0 42) < (ti f q0 42)); rw [show ti f_3 q0 42 = (ti f_3 q0 42) from rfl]; first | done | exact (show ¬ ((ti f_3 q0 42) < (ti f q0 42)) from ((fun (a_0 : Int32) (a_1 : Int32) (a_2 : Int32) (a_3 : Int32) (k_0 : ¬ (400 < a_0)) (k_1 : ¬ (a_1 < (a_0 + 1))) (k_2 : ¬ (a_2 < a_1)) (k_3 : ¬ (a_3 < a_2)) => (show ¬ (a_3 < a_0) from by have z0 : (1 : Int32).toInt = 1 := (by decide +kernel); have z1 : (400 : Int32).toInt = 400 := (by decide +kernel); have r0 := fb_rng (a_0); have r1 := fb_rng (a_1); have r2 := fb_rng (a_2); have r3 := fb_rng (a_3); have e0 := k_0; rw [Int32.lt_iff_toInt_lt, z1] at e0; obtain ⟨n_0, hn_0, s0⟩ := nd_add (x := a_0) (y := (1 : Int32)) (by (try rw [z0]); omega) (by (try rw [z0]); omega); rw [z0] at s0; have e1 := k_1; rw [hn_0, Int32.lt_iff_toInt_lt] at e1; have e2 := k_2; rw [Int32.lt_iff_toInt_lt] at e2; have e3 := k_3; rw [Int32.lt_iff_toInt_lt] at e3; rw [Int32.lt_iff_toInt_lt]; omega)) (ti f q0 42) (ti f_1 q0 42) (ti f_2 q0 42) (ti f_3 q0 42) bp_42.2 po_132 po_144 po_148))), (by show ¬ ((ti f q0 28) < (ti f_3 q0 42)); rw [show ti f_3 q0 42 = (ti f_3 q0 42) from rfl]; first | done | exact po_149), trivial⟩), hQ⟩, by rw [ht]; exact hP, va_K.moved hW.alike hK, by rw [hAe]; exact hD⟩, by rw [hAe]; exact hS.F ht⟩) (by rw [hAe]; exact hS.2.2) d_Md_line_129
            · have hQ := hQ.2 rfl
              rw [show ti f_2 q0 28 = (ti f q0 28) from ((hA_2.ei m0 rfl).trans rfl)] at po_152
              refine lv_if_eq (tgt := 128) hx hb d_Md_line_117 (by decide) (fun h => absurd h (by decide +kernel)) (fun _ => ?_)
              refine lv_aload_n hx hb d_Md_line_120 rfl (lv_at hl 3 rfl) ?_
              refine lv_iconst (v := 1) hx hb d_Md_line_121 (by decide +kernel) ?_
              have hFc := hb_free hD hS hA
              refine va_calli (va_runV (As := [.int 1]) (rest := []) ⟨hx, hb, hml, hown, htb⟩ (c_Md_takes_w l dC dI ct L_3 f_3 hO_3 q0 (hA_3.m m0) _ (1 : Int32) (by rw [show ti f_3 q0 28 = (ti f q0 28) from ((hA_3.ei m0 rfl).trans rfl)]; rw [show ti f_3 q0 42 = (ti f_3 q0 42) from rfl]; first | done | exact po_152) _ hQ) (cwV 1 htb (gd_V tw_371 tw_372 tw_373 tw_89 tw_370) rfl rfl rfl (by decide +kernel) ⟨Nat.le_of_ble_eq_true rfl, Nat.le_of_ble_eq_true rfl⟩) ⟨pc_blind, tw_recv hK hP (hA_3.m m0) rfl rfl, pc_pre hP hK hD hN⟩ rfl rfl hl.1 rfl (lv_room (Nat.le_of_ble_eq_true rfl)) d_Md_line_122 ⟨Nat.le_of_ble_eq_true rfl, Nat.le_of_ble_eq_true rfl⟩) hS (fun q _ h => hFc q h) hFc (fun r_153 u t H locs ht hvm er hB hz1 hk1 hS => ?_)
              obtain ⟨L_4, f_4⟩ := u
              obtain ⟨hO_4, hE_4, er, hQ⟩ := er
              obtain ⟨hP, hK1, hD1⟩ := hB
              rw [ht] at hP
              have hP : va_P (dC, dI) vwCl (TW ct L_4 f_4) H := hP
              have hD : va_D A (TW ct L_4 f_4) := hD1.weaken (fun _ q _ h => hFc q.1 h)
              have hO_4 : Ok L_4 f_4 := hO_4
              have hE_4 : Ext W_Md_takes_w L_3 f_3 L_4 f_4 := hE_4
              clear hK1 hD1 ht hvm hz1 hk1
              have hA_4 := hA_3.trans hE_4
              have hQ := hQ hO_4 hE_4
              rcases er with ⟨rfl, po_154, po_155, -⟩ | ⟨rfl, po_156, po_157, po_158, -⟩
              · have hQ := hQ.1 rfl
                rw [show ti f_3 q0 28 = (ti f q0 28) from ((hA_3.ei m0 rfl).trans rfl)] at po_155
                refine lv_if_ne (tgt := 130) hx hb d_Md_line_125 (by decide) (fun h => absurd (by decide +kernel) h) (fun _ => ?_)
                refine lv_iconst (v := 0) hx hb d_Md_line_128 (by decide +kernel) ?_
                refine W.widen (k := 0) (n := 0) (Nat.le_of_ble_eq_true rfl) (Nat.le_of_ble_eq_true rfl) ?_
                exact W.zret (v := 0) hx hb hr (by decide +kernel) (fun t ht hW => ⟨⟨0, (L_4, f_4), rfl, ⟨hO_4, hA_4.mono (by decide +kernel), (Or.inl ⟨rfl, (by show ¬ ((ti f_4 q0 42) < (ti f q0 42)); rw [show ti f_4 q0 42 = (ti f_4 q0 42) from rfl]; first | done | exact (show ¬ ((ti f_4 q0 42) < (ti f q0 42)) from ((fun (a_0 : Int32) (a_1 : Int32) (a_2 : Int32) (a_3 : Int32) (a_4 : Int32) (k_0 : ¬ (400 < a_0)) (k_1 : ¬ (a_1 < (a_0 + 1))) (k_2 : ¬ (a_2 < a_1)) (k_3 : ¬ (a_3 < a_2)) (k_4 : ¬ (a_4 < a_3)) => (show ¬ (a_4 < a_0) from by have z0 : (1 : Int32).toInt = 1 := (by decide +kernel); have z1 : (400 : Int32).toInt = 400 := (by decide +kernel); have r0 := fb_rng (a_0); have r1 := fb_rng (a_1); have r2 := fb_rng (a_2); have r3 := fb_rng (a_3); have r4 := fb_rng (a_4); have e0 := k_0; rw [Int32.lt_iff_toInt_lt, z1] at e0; obtain ⟨n_0, hn_0, s0⟩ := nd_add (x := a_0) (y := (1 : Int32)) (by (try rw [z0]); omega) (by (try rw [z0]); omega); rw [z0] at s0; have e1 := k_1; rw [hn_0, Int32.lt_iff_toInt_lt] at e1; have e2 := k_2; rw [Int32.lt_iff_toInt_lt] at e2; have e3 := k_3; rw [Int32.lt_iff_toInt_lt] at e3; have e4 := k_4; rw [Int32.lt_iff_toInt_lt] at e4; rw [Int32.lt_iff_toInt_lt]; omega)) (ti f q0 42) (ti f_1 q0 42) (ti f_2 q0 42) (ti f_3 q0 42) (ti f_4 q0 42) bp_42.2 po_132 po_144 po_151 po_154))), (by show ¬ ((ti f q0 28) < (ti f_4 q0 42)); rw [show ti f_4 q0 42 = (ti f_4 q0 42) from rfl]; first | done | exact po_155), trivial⟩), hQ⟩, by rw [ht]; exact hP, va_K.moved hW.alike hK, by rw [hAe]; exact hD⟩, by rw [hAe]; exact hS.F ht⟩) (by rw [hAe]; exact hS.2.2) d_Md_line_129
              · have hQ := hQ.2 rfl
                rw [show ti f_3 q0 28 = (ti f q0 28) from ((hA_3.ei m0 rfl).trans rfl)] at po_158
                refine lv_if_ne (tgt := 130) hx hb d_Md_line_125 (by decide) (fun _ => ?_) (fun h => absurd h (by decide +kernel))
                refine lv_aload_n hx hb d_Md_line_130 rfl (lv_at hl 3 rfl) ?_
                refine tw_geti (D := (dC, dI)) (C := R_Md) (T := F_Md) (N := 64) (ci := 7) (kd := 27) (ct := ct) hx hb htb i_Md hown hK hP hO_4 (hA_4.m m0) rfl rfl 46 (by decide) (htb (.fieldLink R_Md 266 "WaterMenModel" "got" "I") tw_369) (fun _ h9 => h9) rfl d_Md_line_131 (fun x_159 e_159 b_159 => ?_)
                have hQ := hQ x_159 e_159
                refine lv_istore (lv' := [(4, .int x_159), (3, .int x_146), (2, .int (ti f q0 43)), (0, .ref q0), (1, .int p_0)]) hx hb d_Md_line_134 hl (by decide) rfl (fun ls hl => ?_)
                refine lv_iconst (v := 0) hx hb d_Md_line_136 (by decide +kernel) ?_
                refine lv_istore (lv' := [(5, .int 0), (4, .int x_159), (3, .int x_146), (2, .int (ti f q0 43)), (0, .ref q0), (1, .int p_0)]) hx hb d_Md_line_137 hl (by decide) rfl (fun ls hl => ?_)
                refine lv_iload_n hx hb d_Md_line_139 rfl (lv_at hl 3 rfl) ?_
                refine lv_bipush (v := 10) hx hb d_Md_line_140 (by decide +kernel) ?_
                refine lv_icmp_eq (tgt := 151) hx hb d_Md_line_142 (by decide) (fun _ => ?_) (fun h => absurd c_3 h)
                refine lv_aload_n hx hb d_Md_line_151 rfl (lv_at hl 4 rfl) ?_
                refine lv_iconst (v := 5) hx hb d_Md_line_152 (by decide +kernel) ?_
                have hFc := hb_free hD hS hA
                refine va_calli (va_runV (As := [.int 5]) (rest := []) ⟨hx, hb, hml, hown, htb⟩ (c_Md_takes_w l dC dI ct L_4 f_4 hO_4 q0 (hA_4.m m0) _ (5 : Int32) (by rw [show ti f_4 q0 28 = (ti f q0 28) from ((hA_4.ei m0 rfl).trans rfl)]; rw [show ti f_4 q0 42 = (ti f_4 q0 42) from rfl]; first | done | exact po_158) _ hQ) (cwV 1 htb (gd_V tw_371 tw_372 tw_373 tw_89 tw_370) rfl rfl rfl (by decide +kernel) ⟨Nat.le_of_ble_eq_true rfl, Nat.le_of_ble_eq_true rfl⟩) ⟨pc_blind, tw_recv hK hP (hA_4.m m0) rfl rfl, pc_pre hP hK hD hN⟩ rfl rfl hl.1 rfl (lv_room (Nat.le_of_ble_eq_true rfl)) d_Md_line_153 ⟨Nat.le_of_ble_eq_true rfl, Nat.le_of_ble_eq_true rfl⟩) hS (fun q _ h => hFc q h) hFc (fun r_160 u t H locs ht hvm er hB hz1 hk1 hS => ?_)
                obtain ⟨L_5, f_5⟩ := u
                obtain ⟨hO_5, hE_5, er, hQ⟩ := er
                obtain ⟨hP, hK1, hD1⟩ := hB
                rw [ht] at hP
                have hP : va_P (dC, dI) vwCl (TW ct L_5 f_5) H := hP
                have hD : va_D A (TW ct L_5 f_5) := hD1.weaken (fun _ q _ h => hFc q.1 h)
                have hO_5 : Ok L_5 f_5 := hO_5
                have hE_5 : Ext W_Md_takes_w L_4 f_4 L_5 f_5 := hE_5
                clear hK1 hD1 ht hvm hz1 hk1
                have hA_5 := hA_4.trans hE_5
                have hQ := hQ hO_5 hE_5
                rcases er with ⟨rfl, po_161, po_162, -⟩ | ⟨rfl, po_163, po_164, po_165, -⟩
                · have hQ := hQ.1 rfl
                  rw [show ti f_4 q0 28 = (ti f q0 28) from ((hA_4.ei m0 rfl).trans rfl)] at po_162
                  refine lv_if_eq (tgt := 167) hx hb d_Md_line_156 (by decide) (fun _ => ?_) (fun h => absurd (by decide +kernel) h)
                  refine lv_iconst (v := 0) hx hb d_Md_line_167 (by decide +kernel) ?_
                  refine W.widen (k := 0) (n := 0) (Nat.le_of_ble_eq_true rfl) (Nat.le_of_ble_eq_true rfl) ?_
                  exact W.zret (v := 0) hx hb hr (by decide +kernel) (fun t ht hW => ⟨⟨0, (L_5, f_5), rfl, ⟨hO_5, hA_5.mono (by decide +kernel), (Or.inl ⟨rfl, (by show ¬ ((ti f_5 q0 42) < (ti f q0 42)); rw [show ti f_5 q0 42 = (ti f_5 q0 42) from rfl]; first | done | exact (show ¬ ((ti f_5 q0 42) < (ti f q0 42)) from ((fun (a_0 : Int32) (a_1 : Int32) (a_2 : Int32) (a_3 : Int32) (a_4 : Int32) (a_5 : Int32) (k_0 : ¬ (400 < a_0)) (k_1 : ¬ (a_1 < (a_0 + 1))) (k_2 : ¬ (a_2 < a_1)) (k_3 : ¬ (a_3 < a_2)) (k_4 : ¬ (a_4 < a_3)) (k_5 : ¬ (a_5 < a_4)) => (show ¬ (a_5 < a_0) from by have z0 : (1 : Int32).toInt = 1 := (by decide +kernel); have z1 : (400 : Int32).toInt = 400 := (by decide +kernel); have r0 := fb_rng (a_0); have r1 := fb_rng (a_1); have r2 := fb_rng (a_2); have r3 := fb_rng (a_3); have r4 := fb_rng (a_4); have r5 := fb_rng (a_5); have e0 := k_0; rw [Int32.lt_iff_toInt_lt, z1] at e0; obtain ⟨n_0, hn_0, s0⟩ := nd_add (x := a_0) (y := (1 : Int32)) (by (try rw [z0]); omega) (by (try rw [z0]); omega); rw [z0] at s0; have e1 := k_1; rw [hn_0, Int32.lt_iff_toInt_lt] at e1; have e2 := k_2; rw [Int32.lt_iff_toInt_lt] at e2; have e3 := k_3; rw [Int32.lt_iff_toInt_lt] at e3; have e4 := k_4; rw [Int32.lt_iff_toInt_lt] at e4; have e5 := k_5; rw [Int32.lt_iff_toInt_lt] at e5; rw [Int32.lt_iff_toInt_lt]; omega)) (ti f q0 42) (ti f_1 q0 42) (ti f_2 q0 42) (ti f_3 q0 42) (ti f_4 q0 42) (ti f_5 q0 42) bp_42.2 po_132 po_144 po_151 po_157 po_161))), (by show ¬ ((ti f q0 28) < (ti f_5 q0 42)); rw [show ti f_5 q0 42 = (ti f_5 q0 42) from rfl]; first | done | exact po_162), trivial⟩), hQ⟩, by rw [ht]; exact hP, va_K.moved hW.alike hK, by rw [hAe]; exact hD⟩, by rw [hAe]; exact hS.F ht⟩) (by rw [hAe]; exact hS.2.2) d_Md_line_168
                · have hQ := hQ.2 rfl
                  rw [show ti f_4 q0 28 = (ti f q0 28) from ((hA_4.ei m0 rfl).trans rfl)] at po_165
                  refine lv_if_eq (tgt := 167) hx hb d_Md_line_156 (by decide) (fun h => absurd h (by decide +kernel)) (fun _ => ?_)
                  refine lv_aload_n hx hb d_Md_line_159 rfl (lv_at hl 4 rfl) ?_
                  refine lv_iconst (v := 1) hx hb d_Md_line_160 (by decide +kernel) ?_
                  have hFc := hb_free hD hS hA
                  refine va_calli (va_runV (As := [.int 1]) (rest := []) ⟨hx, hb, hml, hown, htb⟩ (c_Md_takes_w l dC dI ct L_5 f_5 hO_5 q0 (hA_5.m m0) _ (1 : Int32) (by rw [show ti f_5 q0 28 = (ti f q0 28) from ((hA_5.ei m0 rfl).trans rfl)]; rw [show ti f_5 q0 42 = (ti f_5 q0 42) from rfl]; first | done | exact po_165) _ hQ) (cwV 1 htb (gd_V tw_371 tw_372 tw_373 tw_89 tw_370) rfl rfl rfl (by decide +kernel) ⟨Nat.le_of_ble_eq_true rfl, Nat.le_of_ble_eq_true rfl⟩) ⟨pc_blind, tw_recv hK hP (hA_5.m m0) rfl rfl, pc_pre hP hK hD hN⟩ rfl rfl hl.1 rfl (lv_room (Nat.le_of_ble_eq_true rfl)) d_Md_line_161 ⟨Nat.le_of_ble_eq_true rfl, Nat.le_of_ble_eq_true rfl⟩) hS (fun q _ h => hFc q h) hFc (fun r_166 u t H locs ht hvm er hB hz1 hk1 hS => ?_)
                  obtain ⟨L_6, f_6⟩ := u
                  obtain ⟨hO_6, hE_6, er, hQ⟩ := er
                  obtain ⟨hP, hK1, hD1⟩ := hB
                  rw [ht] at hP
                  have hP : va_P (dC, dI) vwCl (TW ct L_6 f_6) H := hP
                  have hD : va_D A (TW ct L_6 f_6) := hD1.weaken (fun _ q _ h => hFc q.1 h)
                  have hO_6 : Ok L_6 f_6 := hO_6
                  have hE_6 : Ext W_Md_takes_w L_5 f_5 L_6 f_6 := hE_6
                  clear hK1 hD1 ht hvm hz1 hk1
                  have hA_6 := hA_5.trans hE_6
                  have hQ := hQ hO_6 hE_6
                  rcases er with ⟨rfl, po_167, po_168, -⟩ | ⟨rfl, po_169, po_170, po_171, -⟩
                  · have hQ := hQ.1 rfl
                    rw [show ti f_5 q0 28 = (ti f q0 28) from ((hA_5.ei m0 rfl).trans rfl)] at po_168
                    refine lv_if_ne (tgt := 169) hx hb d_Md_line_164 (by decide) (fun h => absurd (by decide +kernel) h) (fun _ => ?_)
                    refine lv_iconst (v := 0) hx hb d_Md_line_167 (by decide +kernel) ?_
                    refine W.widen (k := 0) (n := 0) (Nat.le_of_ble_eq_true rfl) (Nat.le_of_ble_eq_true rfl) ?_
                    exact W.zret (v := 0) hx hb hr (by decide +kernel) (fun t ht hW => ⟨⟨0, (L_6, f_6), rfl, ⟨hO_6, hA_6.mono (by decide +kernel), (Or.inl ⟨rfl, (by show ¬ ((ti f_6 q0 42) < (ti f q0 42)); rw [show ti f_6 q0 42 = (ti f_6 q0 42) from rfl]; first | done | exact (show ¬ ((ti f_6 q0 42) < (ti f q0 42)) from ((fun (a_0 : Int32) (a_1 : Int32) (a_2 : Int32) (a_3 : Int32) (a_4 : Int32) (a_5 : Int32) (a_6 : Int32) (k_0 : ¬ (400 < a_0)) (k_1 : ¬ (a_1 < (a_0 + 1))) (k_2 : ¬ (a_2 < a_1)) (k_3 : ¬ (a_3 < a_2)) (k_4 : ¬ (a_4 < a_3)) (k_5 : ¬ (a_5 < a_4)) (k_6 : ¬ (a_6 < a_5)) => (show ¬ (a_6 < a_0) from by have z0 : (1 : Int32).toInt = 1 := (by decide +kernel); have z1 : (400 : Int32).toInt = 400 := (by decide +kernel); have r0 := fb_rng (a_0); have r1 := fb_rng (a_1); have r2 := fb_rng (a_2); have r3 := fb_rng (a_3); have r4 := fb_rng (a_4); have r5 := fb_rng (a_5); have r6 := fb_rng (a_6); have e0 := k_0; rw [Int32.lt_iff_toInt_lt, z1] at e0; obtain ⟨n_0, hn_0, s0⟩ := nd_add (x := a_0) (y := (1 : Int32)) (by (try rw [z0]); omega) (by (try rw [z0]); omega); rw [z0] at s0; have e1 := k_1; rw [hn_0, Int32.lt_iff_toInt_lt] at e1; have e2 := k_2; rw [Int32.lt_iff_toInt_lt] at e2; have e3 := k_3; rw [Int32.lt_iff_toInt_lt] at e3; have e4 := k_4; rw [Int32.lt_iff_toInt_lt] at e4; have e5 := k_5; rw [Int32.lt_iff_toInt_lt] at e5; have e6 := k_6; rw [Int32.lt_iff_toInt_lt] at e6; rw [Int32.lt_iff_toInt_lt]; omega)) (ti f q0 42) (ti f_1 q0 42) (ti f_2 q0 42) (ti f_3 q0 42) (ti f_4 q0 42) (ti f_5 q0 42) (ti f_6 q0 42) bp_42.2 po_132 po_144 po_151 po_157 po_164 po_167))), (by show ¬ ((ti f q0 28) < (ti f_6 q0 42)); rw [show ti f_6 q0 42 = (ti f_6 q0 42) from rfl]; first | done | exact po_168), trivial⟩), hQ⟩, by rw [ht]; exact hP, va_K.moved hW.alike hK, by rw [hAe]; exact hD⟩, by rw [hAe]; exact hS.F ht⟩) (by rw [hAe]; exact hS.2.2) d_Md_line_168
                  · have hQ := hQ.2 rfl
                    rw [show ti f_5 q0 28 = (ti f q0 28) from ((hA_5.ei m0 rfl).trans rfl)] at po_171
                    refine lv_if_ne (tgt := 169) hx hb d_Md_line_164 (by decide) (fun _ => ?_) (fun h => absurd h (by decide +kernel))
                    refine lv_aload_n hx hb d_Md_line_169 rfl (lv_at hl 4 rfl) ?_
                    refine tw_geti (D := (dC, dI)) (C := R_Md) (T := F_Md) (N := 64) (ci := 7) (kd := 27) (ct := ct) hx hb htb i_Md hown hK hP hO_6 (hA_6.m m0) rfl rfl 46 (by decide) (htb (.fieldLink R_Md 266 "WaterMenModel" "got" "I") tw_369) (fun _ h9 => h9) rfl d_Md_line_170 (fun x_172 e_172 b_172 => ?_)
                    have hQ := hQ x_172 e_172
                    refine lv_istore (lv' := [(5, .int x_172), (4, .int x_159), (3, .int x_146), (2, .int (ti f q0 43)), (0, .ref q0), (1, .int p_0)]) hx hb d_Md_line_173 hl (by decide) rfl (fun ls hl => ?_)
                    refine lv_aload_n hx hb d_Md_line_175 rfl (lv_at hl 4 rfl) ?_
                    refine lv_iconst (v := 2) hx hb d_Md_line_176 (by decide +kernel) ?_
                    have hFc := hb_free hD hS hA
                    refine va_calli (va_runV (As := [.int 2]) (rest := []) ⟨hx, hb, hml, hown, htb⟩ (c_Md_takes_w l dC dI ct L_6 f_6 hO_6 q0 (hA_6.m m0) _ (2 : Int32) (by rw [show ti f_6 q0 28 = (ti f q0 28) from ((hA_6.ei m0 rfl).trans rfl)]; rw [show ti f_6 q0 42 = (ti f_6 q0 42) from rfl]; first | done | exact po_171) _ hQ) (cwV 1 htb (gd_V tw_371 tw_372 tw_373 tw_89 tw_370) rfl rfl rfl (by decide +kernel) ⟨Nat.le_of_ble_eq_true rfl, Nat.le_of_ble_eq_true rfl⟩) ⟨pc_blind, tw_recv hK hP (hA_6.m m0) rfl rfl, pc_pre hP hK hD hN⟩ rfl rfl hl.1 rfl (lv_room (Nat.le_of_ble_eq_true rfl)) d_Md_line_177 ⟨Nat.le_of_ble_eq_true rfl, Nat.le_of_ble_eq_true rfl⟩) hS (fun q _ h => hFc q h) hFc (fun r_173 u t H locs ht hvm er hB hz1 hk1 hS => ?_)
                    obtain ⟨L_7, f_7⟩ := u
                    obtain ⟨hO_7, hE_7, er, hQ⟩ := er
                    obtain ⟨hP, hK1, hD1⟩ := hB
                    rw [ht] at hP
                    have hP : va_P (dC, dI) vwCl (TW ct L_7 f_7) H := hP
                    have hD : va_D A (TW ct L_7 f_7) := hD1.weaken (fun _ q _ h => hFc q.1 h)
                    have hO_7 : Ok L_7 f_7 := hO_7
                    have hE_7 : Ext W_Md_takes_w L_6 f_6 L_7 f_7 := hE_7
                    clear hK1 hD1 ht hvm hz1 hk1
                    have hA_7 := hA_6.trans hE_7
                    have hQ := hQ hO_7 hE_7
                    rcases er with ⟨rfl, po_174, po_175, -⟩ | ⟨rfl, po_176, po_177, po_178, -⟩
                    · have hQ := hQ.1 rfl
                      rw [show ti f_6 q0 28 = (ti f q0 28) from ((hA_6.ei m0 rfl).trans rfl)] at po_175
                      refine lv_if_ne (tgt := 185) hx hb d_Md_line_180 (by decide) (fun h => absurd (by decide +kernel) h) (fun _ => ?_)
                      refine lv_iconst (v := 0) hx hb d_Md_line_183 (by decide +kernel) ?_
                      refine W.widen (k := 0) (n := 0) (Nat.le_of_ble_eq_true rfl) (Nat.le_of_ble_eq_true rfl) ?_
                      exact W.zret (v := 0) hx hb hr (by decide +kernel) (fun t ht hW => ⟨⟨0, (L_7, f_7), rfl, ⟨hO_7, hA_7.mono (by decide +kernel), (Or.inl ⟨rfl, (by show ¬ ((ti f_7 q0 42) < (ti f q0 42)); rw [show ti f_7 q0 42 = (ti f_7 q0 42) from rfl]; first | done | exact (show ¬ ((ti f_7 q0 42) < (ti f q0 42)) from ((fun (a_0 : Int32) (a_1 : Int32) (a_2 : Int32) (a_3 : Int32) (a_4 : Int32) (a_5 : Int32) (a_6 : Int32) (a_7 : Int32) (k_0 : ¬ (400 < a_0)) (k_1 : ¬ (a_1 < (a_0 + 1))) (k_2 : ¬ (a_2 < a_1)) (k_3 : ¬ (a_3 < a_2)) (k_4 : ¬ (a_4 < a_3)) (k_5 : ¬ (a_5 < a_4)) (k_6 : ¬ (a_6 < a_5)) (k_7 : ¬ (a_7 < a_6)) => (show ¬ (a_7 < a_0) from by have z0 : (1 : Int32).toInt = 1 := (by decide +kernel); have z1 : (400 : Int32).toInt = 400 := (by decide +kernel); have r0 := fb_rng (a_0); have r1 := fb_rng (a_1); have r2 := fb_rng (a_2); have r3 := fb_rng (a_3); have r4 := fb_rng (a_4); have r5 := fb_rng (a_5); have r6 := fb_rng (a_6); have r7 := fb_rng (a_7); have e0 := k_0; rw [Int32.lt_iff_toInt_lt, z1] at e0; obtain ⟨n_0, hn_0, s0⟩ := nd_add (x := a_0) (y := (1 : Int32)) (by (try rw [z0]); omega) (by (try rw [z0]); omega); rw [z0] at s0; have e1 := k_1; rw [hn_0, Int32.lt_iff_toInt_lt] at e1; have e2 := k_2; rw [Int32.lt_iff_toInt_lt] at e2; have e3 := k_3; rw [Int32.lt_iff_toInt_lt] at e3; have e4 := k_4; rw [Int32.lt_iff_toInt_lt] at e4; have e5 := k_5; rw [Int32.lt_iff_toInt_lt] at e5; have e6 := k_6; rw [Int32.lt_iff_toInt_lt] at e6; have e7 := k_7; rw [Int32.lt_iff_toInt_lt] at e7; rw [Int32.lt_iff_toInt_lt]; omega)) (ti f q0 42) (ti f_1 q0 42) (ti f_2 q0 42) (ti f_3 q0 42) (ti f_4 q0 42) (ti f_5 q0 42) (ti f_6 q0 42) (ti f_7 q0 42) bp_42.2 po_132 po_144 po_151 po_157 po_164 po_170 po_174))), (by show ¬ ((ti f q0 28) < (ti f_7 q0 42)); rw [show ti f_7 q0 42 = (ti f_7 q0 42) from rfl]; first | done | exact po_175), trivial⟩), hQ⟩, by rw [ht]; exact hP, va_K.moved hW.alike hK, by rw [hAe]; exact hD⟩, by rw [hAe]; exact hS.F ht⟩) (by rw [hAe]; exact hS.2.2) d_Md_line_184
                    · have hQ := hQ.2 rfl
                      rw [show ti f_6 q0 28 = (ti f q0 28) from ((hA_6.ei m0 rfl).trans rfl)] at po_178
                      refine lv_if_ne (tgt := 185) hx hb d_Md_line_180 (by decide) (fun _ => ?_) (fun h => absurd h (by decide +kernel))
                      refine lv_iload_n hx hb d_Md_line_185 rfl (lv_at hl 3 rfl) ?_
                      refine lv_bipush (v := 10) hx hb d_Md_line_186 (by decide +kernel) ?_
                      refine lv_icmp_ne (tgt := 257) hx hb d_Md_line_188 (by decide) (fun h => absurd c_3 h) (fun _ => ?_)
                      refine lv_aload_n hx hb d_Md_line_191 rfl (lv_at hl 4 rfl) ?_
                      refine tw_getr (D := (dC, dI)) (C := R_Md) (T := F_Md) (N := 64) (ci := 7) (kd := 27) (ct := ct) hx hb htb i_Md hown hK hP hO_7 (hA_7.m m0) rfl rfl 33 (by decide) (htb (.fieldLink R_Md 122 "WaterMenModel" "fareLow" "[I") tw_378) (fun _ h9 => h9) rfl d_Md_line_192 (fun q_179 e_179 m_179 => ?_)
                      have hQ := hQ q_179 e_179
                      refine lv_bipush (v := 12) hx hb d_Md_line_195 (by decide +kernel) ?_
                      refine lv_iload_n hx hb d_Md_line_197 rfl (lv_at hl 5 rfl) ?_
                      refine lv_imul hx hb d_Md_line_198 ?_
                      refine lv_aload_n hx hb d_Md_line_199 rfl (lv_at hl 4 rfl) ?_
                      refine tw_getR (D := (dC, dI)) (C := R_Md) (T := F_Md) (N := 64) (ci := 7) (kd := 27) (ct := ct) hx hb htb i_Md hown hK hP (hA_7.m m0) rfl rfl 32 ((hA_7.er m0 rfl).trans e_125) (by decide) (htb (.fieldLink R_Md 119 "WaterMenModel" "fares" "[I") tw_334) (fun _ h9 => h9) rfl d_Md_line_200 ?_
                      refine hb_tv (.ref q_125) rfl ?_
                      refine lv_iload_n hx hb d_Md_line_203 rfl (lv_at hl 5 rfl) ?_
                      refine tw_aldxI (ct := ct) (x := x_126) hx hb hK hP (hA_7.m m_125) rfl (hb_inl as_1 as_2 (by decide +kernel)) ((hA_7.ei m_125 rfl).trans e_126) d_Md_line_204 ?_
                      refine lv_iadd hx hb d_Md_line_205 ?_
                      refine lv_iload_n hx hb d_Md_line_206 rfl (lv_at hl 2 rfl) ?_
                      refine tw_astI (ct := ct) (x := x_146) hx hb hK hP hD hS hO_7 m_179 rfl ((fun (a_0 : Int32) (a_1 : Int32) (k_0 : ¬ (a_0 < 0)) (k_1 : ¬ (19 < a_0)) (k_2 : ¬ (a_1 < 0)) (k_3 : ¬ (12 < a_1)) (k_4 : ¬ (a_1 = 12)) => (show vp_in (((12 * a_0) + a_1)) 240 from by have z0 : (0 : Int32).toInt = 0 := (by decide +kernel); have z1 : (12 : Int32).toInt = 12 := (by decide +kernel); have z2 : (19 : Int32).toInt = 19 := (by decide +kernel); have r0 := fb_rng (a_0); have r1 := fb_rng (a_1); have e0 := k_0; rw [Int32.lt_iff_toInt_lt, z0] at e0; have e1 := k_1; rw [Int32.lt_iff_toInt_lt, z2] at e1; have e2 := k_2; rw [Int32.lt_iff_toInt_lt, z0] at e2; have e3 := k_3; rw [Int32.lt_iff_toInt_lt, z1] at e3; have e4 := k_4; rw [← Int32.toInt_inj, z1] at e4; obtain ⟨n_0, hn_0, s0⟩ := nd_mul (x := (12 : Int32)) (y := (a_0)) (by (try rw [z1]); omega) (by (try rw [z1]); omega); rw [z1] at s0; obtain ⟨n_1, hn_1, s1⟩ := nd_add (x := n_0) (y := (a_1)) (by omega) (by omega); rw [hn_0, hn_1, vp_in_iff]; omega)) p_0 x_126 as_1 as_2 b_126.1 b_126.2 c_127) (i32_full _) d_Md_line_207 (fun f_8 H locs hP hD hS hO_8 hE_8 w_181 ow_181 hF_8 => ?_)
                      have hA_8 := hA_7.trans hE_8
                      have hQ := hQ f_8 hF_8
                      have hQ := hQ hO_8
                      refine lv_aload_n hx hb d_Md_line_208 rfl (lv_at hl 4 rfl) ?_
                      refine tw_getr (D := (dC, dI)) (C := R_Md) (T := F_Md) (N := 64) (ci := 7) (kd := 27) (ct := ct) hx hb htb i_Md hown hK hP hO_8 (hA_8.m m0) rfl rfl 34 (by decide) (htb (.fieldLink R_Md 125 "WaterMenModel" "fareHigh" "[I") tw_379) (fun _ h9 => h9) rfl d_Md_line_209 (fun q_182 e_182 m_182 => ?_)
                      have hQ := hQ q_182 e_182
                      refine lv_bipush (v := 12) hx hb d_Md_line_212 (by decide +kernel) ?_
                      refine lv_iload_n hx hb d_Md_line_214 rfl (lv_at hl 5 rfl) ?_
                      refine lv_imul hx hb d_Md_line_215 ?_
                      refine lv_aload_n hx hb d_Md_line_216 rfl (lv_at hl 4 rfl) ?_
                      refine tw_getR (D := (dC, dI)) (C := R_Md) (T := F_Md) (N := 64) (ci := 7) (kd := 27) (ct := ct) hx hb htb i_Md hown hK hP (hA_8.m m0) rfl rfl 32 ((hA_8.er m0 rfl).trans e_125) (by decide) (htb (.fieldLink R_Md 119 "WaterMenModel" "fares" "[I") tw_334) (fun _ h9 => h9) rfl d_Md_line_217 ?_
                      refine hb_tv (.ref q_125) rfl ?_
                      refine lv_iload_n hx hb d_Md_line_220 rfl (lv_at hl 5 rfl) ?_
                      refine tw_aldxI (ct := ct) (x := x_126) hx hb hK hP (hA_8.m m_125) rfl (hb_inl as_1 as_2 (by decide +kernel)) ((hA_8.ei m_125 rfl).trans e_126) d_Md_line_221 ?_
                      refine lv_iadd hx hb d_Md_line_222 ?_
                      refine lv_iload hx hb d_Md_line_223 (lv_at hl 1 rfl) ?_
                      refine tw_astI (ct := ct) (x := x_159) hx hb hK hP hD hS hO_8 m_182 rfl ((fun (a_0 : Int32) (a_1 : Int32) (k_0 : ¬ (a_0 < 0)) (k_1 : ¬ (19 < a_0)) (k_2 : ¬ (a_1 < 0)) (k_3 : ¬ (12 < a_1)) (k_4 : ¬ (a_1 = 12)) => (show vp_in (((12 * a_0) + a_1)) 240 from by have z0 : (0 : Int32).toInt = 0 := (by decide +kernel); have z1 : (12 : Int32).toInt = 12 := (by decide +kernel); have z2 : (19 : Int32).toInt = 19 := (by decide +kernel); have r0 := fb_rng (a_0); have r1 := fb_rng (a_1); have e0 := k_0; rw [Int32.lt_iff_toInt_lt, z0] at e0; have e1 := k_1; rw [Int32.lt_iff_toInt_lt, z2] at e1; have e2 := k_2; rw [Int32.lt_iff_toInt_lt, z0] at e2; have e3 := k_3; rw [Int32.lt_iff_toInt_lt, z1] at e3; have e4 := k_4; rw [← Int32.toInt_inj, z1] at e4; obtain ⟨n_0, hn_0, s0⟩ := nd_mul (x := (12 : Int32)) (y := (a_0)) (by (try rw [z1]); omega) (by (try rw [z1]); omega); rw [z1] at s0; obtain ⟨n_1, hn_1, s1⟩ := nd_add (x := n_0) (y := (a_1)) (by omega) (by omega); rw [hn_0, hn_1, vp_in_iff]; omega)) p_0 x_126 as_1 as_2 b_126.1 b_126.2 c_127) (i32_full _) d_Md_line_225 (fun f_9 H locs hP hD hS hO_9 hE_9 w_184 ow_184 hF_9 => ?_)
                      have hA_9 := hA_8.trans hE_9
                      have hQ := hQ f_9 hF_9
                      have hQ := hQ hO_9
                      refine lv_aload_n hx hb d_Md_line_226 rfl (lv_at hl 4 rfl) ?_
                      refine tw_getr (D := (dC, dI)) (C := R_Md) (T := F_Md) (N := 64) (ci := 7) (kd := 27) (ct := ct) hx hb htb i_Md hown hK hP hO_9 (hA_9.m m0) rfl rfl 35 (by decide) (htb (.fieldLink R_Md 128 "WaterMenModel" "fareIs" "[I") tw_380) (fun _ h9 => h9) rfl d_Md_line_227 (fun q_185 e_185 m_185 => ?_)
                      have hQ := hQ q_185 e_185
                      refine lv_bipush (v := 12) hx hb d_Md_line_230 (by decide +kernel) ?_
                      refine lv_iload_n hx hb d_Md_line_232 rfl (lv_at hl 5 rfl) ?_
                      refine lv_imul hx hb d_Md_line_233 ?_
                      refine lv_aload_n hx hb d_Md_line_234 rfl (lv_at hl 4 rfl) ?_
                      refine tw_getR (D := (dC, dI)) (C := R_Md) (T := F_Md) (N := 64) (ci := 7) (kd := 27) (ct := ct) hx hb htb i_Md hown hK hP (hA_9.m m0) rfl rfl 32 ((hA_9.er m0 rfl).trans e_125) (by decide) (htb (.fieldLink R_Md 119 "WaterMenModel" "fares" "[I") tw_334) (fun _ h9 => h9) rfl d_Md_line_235 ?_
                      refine hb_tv (.ref q_125) rfl ?_
                      refine lv_iload_n hx hb d_Md_line_238 rfl (lv_at hl 5 rfl) ?_
                      refine tw_aldxI (ct := ct) (x := x_126) hx hb hK hP (hA_9.m m_125) rfl (hb_inl as_1 as_2 (by decide +kernel)) ((hA_9.ei m_125 rfl).trans e_126) d_Md_line_239 ?_
                      refine lv_iadd hx hb d_Md_line_240 ?_
                      refine lv_iload hx hb d_Md_line_241 (lv_at hl 0 rfl) ?_
                      refine tw_astI (ct := ct) (x := x_172) hx hb hK hP hD hS hO_9 m_185 rfl ((fun (a_0 : Int32) (a_1 : Int32) (k_0 : ¬ (a_0 < 0)) (k_1 : ¬ (19 < a_0)) (k_2 : ¬ (a_1 < 0)) (k_3 : ¬ (12 < a_1)) (k_4 : ¬ (a_1 = 12)) => (show vp_in (((12 * a_0) + a_1)) 240 from by have z0 : (0 : Int32).toInt = 0 := (by decide +kernel); have z1 : (12 : Int32).toInt = 12 := (by decide +kernel); have z2 : (19 : Int32).toInt = 19 := (by decide +kernel); have r0 := fb_rng (a_0); have r1 := fb_rng (a_1); have e0 := k_0; rw [Int32.lt_iff_toInt_lt, z0] at e0; have e1 := k_1; rw [Int32.lt_iff_toInt_lt, z2] at e1; have e2 := k_2; rw [Int32.lt_iff_toInt_lt, z0] at e2; have e3 := k_3; rw [Int32.lt_iff_toInt_lt, z1] at e3; have e4 := k_4; rw [← Int32.toInt_inj, z1] at e4; obtain ⟨n_0, hn_0, s0⟩ := nd_mul (x := (12 : Int32)) (y := (a_0)) (by (try rw [z1]); omega) (by (try rw [z1]); omega); rw [z1] at s0; obtain ⟨n_1, hn_1, s1⟩ := nd_add (x := n_0) (y := (a_1)) (by omega) (by omega); rw [hn_0, hn_1, vp_in_iff]; omega)) p_0 x_126 as_1 as_2 b_126.1 b_126.2 c_127) (i32_full _) d_Md_line_243 (fun f_10 H locs hP hD hS hO_10 hE_10 w_187 ow_187 hF_10 => ?_)
                      have hA_10 := hA_9.trans hE_10
                      have hQ := hQ f_10 hF_10
                      have hQ := hQ hO_10
                      refine lv_aload_n hx hb d_Md_line_244 rfl (lv_at hl 4 rfl) ?_
                      refine tw_getR (D := (dC, dI)) (C := R_Md) (T := F_Md) (N := 64) (ci := 7) (kd := 27) (ct := ct) hx hb htb i_Md hown hK hP (hA_10.m m0) rfl rfl 32 ((hA_10.er m0 rfl).trans e_125) (by decide) (htb (.fieldLink R_Md 119 "WaterMenModel" "fares" "[I") tw_334) (fun _ h9 => h9) rfl d_Md_line_245 ?_
                      refine hb_tv (.ref q_125) rfl ?_
                      refine lv_iload_n hx hb d_Md_line_248 rfl (lv_at hl 5 rfl) ?_
                      refine lv_dup2_11 hx hb d_Md_line_249 rfl rfl ?_
                      refine tw_aldxI (ct := ct) (x := x_126) hx hb hK hP (hA_10.m m_125) rfl (hb_inl as_1 as_2 (by decide +kernel)) ((hA_10.ei m_125 rfl).trans e_126) d_Md_line_250 ?_
                      refine lv_iconst (v := 1) hx hb d_Md_line_251 (by decide +kernel) ?_
                      refine lv_iadd hx hb d_Md_line_252 ?_
                      refine tw_astI (ct := ct) (x := (x_126 + 1)) hx hb hK hP hD hS hO_10 (hA_10.m m_125) rfl (hb_inl as_1 as_2 (by decide +kernel)) ⟨(show ¬ ((x_126 + 1) < 0) from by have e0 := b_126.1; rw [Int32.lt_iff_toInt_lt] at e0; have e1 := b_126.2; rw [Int32.lt_iff_toInt_lt] at e1; have e2 := c_127; rw [← Int32.toInt_inj] at e2; have z0 : (0 : Int32).toInt = 0 := (by decide +kernel); have z1 : (1 : Int32).toInt = 1 := (by decide +kernel); have z2 : (12 : Int32).toInt = 12 := (by decide +kernel); have ss := fb_addI (x := x_126) (y := 1) (by omega) (by omega); rw [Int32.lt_iff_toInt_lt]; omega), (show ¬ (12 < (x_126 + 1)) from by have e0 := b_126.1; rw [Int32.lt_iff_toInt_lt] at e0; have e1 := b_126.2; rw [Int32.lt_iff_toInt_lt] at e1; have e2 := c_127; rw [← Int32.toInt_inj] at e2; have z0 : (0 : Int32).toInt = 0 := (by decide +kernel); have z1 : (1 : Int32).toInt = 1 := (by decide +kernel); have z2 : (12 : Int32).toInt = 12 := (by decide +kernel); have ss := fb_addI (x := x_126) (y := 1) (by omega) (by omega); rw [Int32.lt_iff_toInt_lt]; omega)⟩ d_Md_line_253 (fun f_11 H locs hP hD hS hO_11 hE_11 w_189 ow_189 hF_11 => ?_)
                      have hA_11 := hA_10.trans hE_11
                      have hQ := hQ f_11 hF_11
                      have hQ := hQ hO_11
                      refine lv_goto (tgt := 367) hx hb d_Md_line_254 (by decide) ?_
                      refine lv_iconst (v := 1) hx hb d_Md_line_367 (by decide +kernel) ?_
                      refine W.widen (k := 0) (n := 0) (Nat.le_of_ble_eq_true rfl) (Nat.le_of_ble_eq_true rfl) ?_
                      exact W.zret (v := 1) hx hb hr (by decide +kernel) (fun t ht hW => ⟨⟨1, (L_7, f_11), rfl, ⟨hO_11, hA_11.mono (by decide +kernel), (Or.inr ⟨rfl, (by show ¬ ((ti f_11 q0 42) < ((ti f q0 42) + 1)); rw [show ti f_11 q0 42 = (ti f_7 q0 42) from ((hE_11.ei (hA_10.m m0) rfl).trans ((hE_10.ei (hA_9.m m0) rfl).trans ((hE_9.ei (hA_8.m m0) rfl).trans ((hE_8.ei (hA_7.m m0) rfl).trans rfl))))]; first | done | exact (show ¬ ((ti f_7 q0 42) < ((ti f q0 42) + 1)) from ((fun (a_0 : Int32) (a_1 : Int32) (a_2 : Int32) (a_3 : Int32) (a_4 : Int32) (a_5 : Int32) (a_6 : Int32) (a_7 : Int32) (k_0 : ¬ (400 < a_0)) (k_1 : ¬ (a_1 < (a_0 + 1))) (k_2 : ¬ (a_2 < a_1)) (k_3 : ¬ (a_3 < a_2)) (k_4 : ¬ (a_4 < a_3)) (k_5 : ¬ (a_5 < a_4)) (k_6 : ¬ (a_6 < a_5)) (k_7 : ¬ (a_7 < a_6)) => (show ¬ (a_7 < (a_0 + 1)) from by have z0 : (1 : Int32).toInt = 1 := (by decide +kernel); have z1 : (400 : Int32).toInt = 400 := (by decide +kernel); have r0 := fb_rng (a_0); have r1 := fb_rng (a_1); have r2 := fb_rng (a_2); have r3 := fb_rng (a_3); have r4 := fb_rng (a_4); have r5 := fb_rng (a_5); have r6 := fb_rng (a_6); have r7 := fb_rng (a_7); have e0 := k_0; rw [Int32.lt_iff_toInt_lt, z1] at e0; obtain ⟨n_0, hn_0, s0⟩ := nd_add (x := a_0) (y := (1 : Int32)) (by (try rw [z0]); omega) (by (try rw [z0]); omega); rw [z0] at s0; have e1 := k_1; rw [hn_0, Int32.lt_iff_toInt_lt] at e1; have e2 := k_2; rw [Int32.lt_iff_toInt_lt] at e2; have e3 := k_3; rw [Int32.lt_iff_toInt_lt] at e3; have e4 := k_4; rw [Int32.lt_iff_toInt_lt] at e4; have e5 := k_5; rw [Int32.lt_iff_toInt_lt] at e5; have e6 := k_6; rw [Int32.lt_iff_toInt_lt] at e6; have e7 := k_7; rw [Int32.lt_iff_toInt_lt] at e7; rw [hn_0, Int32.lt_iff_toInt_lt]; omega)) (ti f q0 42) (ti f_1 q0 42) (ti f_2 q0 42) (ti f_3 q0 42) (ti f_4 q0 42) (ti f_5 q0 42) (ti f_6 q0 42) (ti f_7 q0 42) bp_42.2 po_132 po_144 po_151 po_157 po_164 po_170 po_177))), (by show ¬ ((ti f q0 28) < (ti f_11 q0 42)); rw [show ti f_11 q0 42 = (ti f_7 q0 42) from ((hE_11.ei (hA_10.m m0) rfl).trans ((hE_10.ei (hA_9.m m0) rfl).trans ((hE_9.ei (hA_8.m m0) rfl).trans ((hE_8.ei (hA_7.m m0) rfl).trans rfl))))]; first | done | exact po_178), trivial⟩), hQ⟩, by rw [ht]; exact hP, va_K.moved hW.alike hK, by rw [hAe]; exact hD⟩, by rw [hAe]; exact hS.F ht⟩) (by rw [hAe]; exact hS.2.2) d_Md_line_368
      · have hQ := hQ.1 c_127
        refine lv_goto (tgt := 70) hx hb d_Md_line_30 (by decide) ?_
        refine lv_iconst (v := 0) hx hb d_Md_line_70 (by decide +kernel) ?_
        refine W.widen (k := 0) (n := 0) (Nat.le_of_ble_eq_true rfl) (Nat.le_of_ble_eq_true rfl) ?_
        exact W.zret (v := 0) hx hb hr (by decide +kernel) (fun t ht hW => ⟨⟨0, (L, f), rfl, ⟨hO_0, hA_0.mono (by decide +kernel), (Or.inl ⟨rfl, (by show ¬ ((ti f q0 42) < (ti f q0 42)); rw [show ti f q0 42 = (ti f q0 42) from rfl]; first | done | exact (show ¬ ((ti f q0 42) < (ti f q0 42)) from ((fun (a_0 : Int32)  => (show ¬ (a_0 < a_0) from by have r0 := fb_rng (a_0); rw [Int32.lt_iff_toInt_lt]; omega)) (ti f q0 42) ))), (by show ¬ ((ti f q0 28) < (ti f q0 42)); rw [show ti f q0 42 = (ti f q0 42) from rfl]; first | done | exact as_0), trivial⟩), hQ⟩, by rw [ht]; exact hP, va_K.moved hW.alike hK, by rw [hAe]; exact hD⟩, by rw [hAe]; exact hS.F ht⟩) (by rw [hAe]; exact hS.2.2) d_Md_line_71
  · have hQ := hQ.2 c_2
    refine lv_iconst (v := 0) hx hb d_Md_line_11 (by decide +kernel) ?_
    refine W.widen (k := 0) (n := 0) (Nat.le_of_ble_eq_true rfl) (Nat.le_of_ble_eq_true rfl) ?_
    exact W.zret (v := 0) hx hb hr (by decide +kernel) (fun t ht hW => ⟨⟨0, (L, f), rfl, ⟨hO_0, hA_0.mono (by decide +kernel), (Or.inl ⟨rfl, (by show ¬ ((ti f q0 42) < (ti f q0 42)); rw [show ti f q0 42 = (ti f q0 42) from rfl]; first | done | exact (show ¬ ((ti f q0 42) < (ti f q0 42)) from ((fun (a_0 : Int32)  => (show ¬ (a_0 < a_0) from by have r0 := fb_rng (a_0); rw [Int32.lt_iff_toInt_lt]; omega)) (ti f q0 42) ))), (by show ¬ ((ti f q0 28) < (ti f q0 42)); rw [show ti f q0 42 = (ti f q0 42) from rfl]; first | done | exact as_0), trivial⟩), hQ⟩, by rw [ht]; exact hP, va_K.moved hW.alike hK, by rw [hAe]; exact hD⟩, by rw [hAe]; exact hS.F ht⟩) (by rw [hAe]; exact hS.2.2) d_Md_line_12
