def f_WM_isDay  (p_0 : Int32) : Int32 := if p_0 < 0 then (0) else (if 500 ≤ p_0 then (0) else (1))
set_option maxHeartbeats 4000000 in
set_option maxRecDepth 100000 in
theorem c_WM_isDay (l : Launch)  (p_0 : Int32)  : Met l y_WM_isDay (.code y_WM_isDay b_WM_isDay 1 (some .boolean) :: TB) ({ frames := 0, cells := 0, slots := 0, locals := 0 }) (va_Pc [.int p_0] (fun _ => True)) (vp_Si (fun r => r = f_WM_isDay p_0)) 0 0 (fun _ => False) := by
  refine Met.ofW (cc := b_WM_isDay) (maxL := 1) (ret := (some .boolean)) (by decide) rfl ?_
  intro p e s m args below meth c s₁ B hml hv
  obtain ⟨rfl, -⟩ := hv
  have hx := B.exec
  have hb := B.bytes
  have hr := B.returns
  have hts := atoms_spec (ws := (.code y_WM_isDay b_WM_isDay 1 (some .boolean) :: TB)) B.pre
  have htb := fun w (h : w ∈ TB) => hts w (List.mem_cons_of_mem _ h)
  have hown : s.vm.findClass R_WM = some m.cls := findClass_of_methodNamed B.named
  have hlocks := B.notSynchronized
  have hl := lv_entry ([.int p_0]) (n := 1) (Nat.le_of_ble_eq_true rfl)
  rw [lg_entry_eq]
  generalize (lg_sl ([.int p_0]) ++ List.replicate (1 - (lg_sl ([.int p_0])).length) Slot.unset).toArray = ls at hl ⊢
  have hl : lv_has ls 1 [(0, .int p_0)] := hl
  refine lv_iload_n hx hb d_WM_isDay_0 rfl (lv_at hl 0 rfl) ?_
  refine lv_if_lt (tgt := 15) hx hb d_WM_isDay_1 (by decide) (fun c_1 => ?_) (fun c_1 => ?_)
  · refine lv_iconst (v := 0) hx hb d_WM_isDay_15 (by decide +kernel) ?_
    exact W.zret (v := 0) hx hb hr (by decide +kernel) (fun t ht hW => ⟨0, rfl, (by unfold f_WM_isDay; rw [if_pos c_1]), ht⟩) t_nil d_WM_isDay_16
  · refine lv_iload_n hx hb d_WM_isDay_4 rfl (lv_at hl 0 rfl) ?_
    refine lv_sipush (v := 500) hx hb d_WM_isDay_5 (by decide +kernel) ?_
    refine lv_icmp_ge (tgt := 15) hx hb d_WM_isDay_8 (by decide) (fun c_2 => ?_) (fun c_2 => ?_)
    · refine lv_iconst (v := 0) hx hb d_WM_isDay_15 (by decide +kernel) ?_
      exact W.zret (v := 0) hx hb hr (by decide +kernel) (fun t ht hW => ⟨0, rfl, (by unfold f_WM_isDay; rw [if_neg c_1, if_pos c_2]), ht⟩) t_nil d_WM_isDay_16
    · refine lv_iconst (v := 1) hx hb d_WM_isDay_11 (by decide +kernel) ?_
      refine lv_goto (tgt := 16) hx hb d_WM_isDay_12 (by decide) ?_
      exact W.zret (v := 1) hx hb hr (by decide +kernel) (fun t ht hW => ⟨1, rfl, (by unfold f_WM_isDay; rw [if_neg c_1, if_neg c_2]), ht⟩) t_nil d_WM_isDay_16
def f_WM_isHour  (p_0 : Int32) : Int32 := if p_0 < 0 then (0) else (if 12 ≤ p_0 then (0) else (1))
set_option maxHeartbeats 4000000 in
set_option maxRecDepth 100000 in
theorem c_WM_isHour (l : Launch)  (p_0 : Int32)  : Met l y_WM_isHour (.code y_WM_isHour b_WM_isHour 1 (some .boolean) :: TB) ({ frames := 0, cells := 0, slots := 0, locals := 0 }) (va_Pc [.int p_0] (fun _ => True)) (vp_Si (fun r => r = f_WM_isHour p_0)) 0 0 (fun _ => False) := by
  refine Met.ofW (cc := b_WM_isHour) (maxL := 1) (ret := (some .boolean)) (by decide) rfl ?_
  intro p e s m args below meth c s₁ B hml hv
  obtain ⟨rfl, -⟩ := hv
  have hx := B.exec
  have hb := B.bytes
  have hr := B.returns
  have hts := atoms_spec (ws := (.code y_WM_isHour b_WM_isHour 1 (some .boolean) :: TB)) B.pre
  have htb := fun w (h : w ∈ TB) => hts w (List.mem_cons_of_mem _ h)
  have hown : s.vm.findClass R_WM = some m.cls := findClass_of_methodNamed B.named
  have hlocks := B.notSynchronized
  have hl := lv_entry ([.int p_0]) (n := 1) (Nat.le_of_ble_eq_true rfl)
  rw [lg_entry_eq]
  generalize (lg_sl ([.int p_0]) ++ List.replicate (1 - (lg_sl ([.int p_0])).length) Slot.unset).toArray = ls at hl ⊢
  have hl : lv_has ls 1 [(0, .int p_0)] := hl
  refine lv_iload_n hx hb d_WM_isHour_0 rfl (lv_at hl 0 rfl) ?_
  refine lv_if_lt (tgt := 14) hx hb d_WM_isHour_1 (by decide) (fun c_1 => ?_) (fun c_1 => ?_)
  · refine lv_iconst (v := 0) hx hb d_WM_isHour_14 (by decide +kernel) ?_
    exact W.zret (v := 0) hx hb hr (by decide +kernel) (fun t ht hW => ⟨0, rfl, (by unfold f_WM_isHour; rw [if_pos c_1]), ht⟩) t_nil d_WM_isHour_15
  · refine lv_iload_n hx hb d_WM_isHour_4 rfl (lv_at hl 0 rfl) ?_
    refine lv_bipush (v := 12) hx hb d_WM_isHour_5 (by decide +kernel) ?_
    refine lv_icmp_ge (tgt := 14) hx hb d_WM_isHour_7 (by decide) (fun c_2 => ?_) (fun c_2 => ?_)
    · refine lv_iconst (v := 0) hx hb d_WM_isHour_14 (by decide +kernel) ?_
      exact W.zret (v := 0) hx hb hr (by decide +kernel) (fun t ht hW => ⟨0, rfl, (by unfold f_WM_isHour; rw [if_neg c_1, if_pos c_2]), ht⟩) t_nil d_WM_isHour_15
    · refine lv_iconst (v := 1) hx hb d_WM_isHour_10 (by decide +kernel) ?_
      refine lv_goto (tgt := 15) hx hb d_WM_isHour_11 (by decide) ?_
      exact W.zret (v := 1) hx hb hr (by decide +kernel) (fun t ht hW => ⟨1, rfl, (by unfold f_WM_isHour; rw [if_neg c_1, if_neg c_2]), ht⟩) t_nil d_WM_isHour_15
def f_WM_isLevel  (p_0 : Int32) : Int32 := if p_0 < (-90) then (0) else (if 90 < p_0 then (0) else (1))
set_option maxHeartbeats 4000000 in
set_option maxRecDepth 100000 in
theorem c_WM_isLevel (l : Launch)  (p_0 : Int32)  : Met l y_WM_isLevel (.code y_WM_isLevel b_WM_isLevel 1 (some .boolean) :: TB) ({ frames := 0, cells := 0, slots := 0, locals := 0 }) (va_Pc [.int p_0] (fun _ => True)) (vp_Si (fun r => r = f_WM_isLevel p_0)) 0 0 (fun _ => False) := by
  refine Met.ofW (cc := b_WM_isLevel) (maxL := 1) (ret := (some .boolean)) (by decide) rfl ?_
  intro p e s m args below meth c s₁ B hml hv
  obtain ⟨rfl, -⟩ := hv
  have hx := B.exec
  have hb := B.bytes
  have hr := B.returns
  have hts := atoms_spec (ws := (.code y_WM_isLevel b_WM_isLevel 1 (some .boolean) :: TB)) B.pre
  have htb := fun w (h : w ∈ TB) => hts w (List.mem_cons_of_mem _ h)
  have hown : s.vm.findClass R_WM = some m.cls := findClass_of_methodNamed B.named
  have hlocks := B.notSynchronized
  have hl := lv_entry ([.int p_0]) (n := 1) (Nat.le_of_ble_eq_true rfl)
  rw [lg_entry_eq]
  generalize (lg_sl ([.int p_0]) ++ List.replicate (1 - (lg_sl ([.int p_0])).length) Slot.unset).toArray = ls at hl ⊢
  have hl : lv_has ls 1 [(0, .int p_0)] := hl
  refine lv_iload_n hx hb d_WM_isLevel_0 rfl (lv_at hl 0 rfl) ?_
  refine lv_bipush (v := (-90)) hx hb d_WM_isLevel_1 (by decide +kernel) ?_
  refine lv_icmp_lt (tgt := 16) hx hb d_WM_isLevel_3 (by decide) (fun c_1 => ?_) (fun c_1 => ?_)
  · refine lv_iconst (v := 0) hx hb d_WM_isLevel_16 (by decide +kernel) ?_
    exact W.zret (v := 0) hx hb hr (by decide +kernel) (fun t ht hW => ⟨0, rfl, (by unfold f_WM_isLevel; rw [if_pos c_1]), ht⟩) t_nil d_WM_isLevel_17
  · refine lv_iload_n hx hb d_WM_isLevel_6 rfl (lv_at hl 0 rfl) ?_
    refine lv_bipush (v := 90) hx hb d_WM_isLevel_7 (by decide +kernel) ?_
    refine lv_icmp_gt (tgt := 16) hx hb d_WM_isLevel_9 (by decide) (fun c_2 => ?_) (fun c_2 => ?_)
    · refine lv_iconst (v := 0) hx hb d_WM_isLevel_16 (by decide +kernel) ?_
      exact W.zret (v := 0) hx hb hr (by decide +kernel) (fun t ht hW => ⟨0, rfl, (by unfold f_WM_isLevel; rw [if_neg c_1, if_pos c_2]), ht⟩) t_nil d_WM_isLevel_17
    · refine lv_iconst (v := 1) hx hb d_WM_isLevel_12 (by decide +kernel) ?_
      refine lv_goto (tgt := 17) hx hb d_WM_isLevel_13 (by decide) ?_
      exact W.zret (v := 1) hx hb hr (by decide +kernel) (fun t ht hW => ⟨1, rfl, (by unfold f_WM_isLevel; rw [if_neg c_1, if_neg c_2]), ht⟩) t_nil d_WM_isLevel_17
def WL_Rv_tell_w_22_3 : List (Nat × Nat) := [(19, 1000)]
def W_Rv_tell_w : List (Nat × Nat) := [(4, 1000), (19, 1000)]
def wpB_Rv_tell_w_22_3 (L : List Nat) (f : TF) (q0 : Nat) (p_0 : Int32) (p_1 : Int32) (p_2 : Int32) (q_1 : Nat) (q_n1 : Nat) (L_1 : List Nat) (f_1 : TF) (Q : List Nat → TF → Prop) (rec_3 : Int32 → List Nat → TF → Prop) (v5_3 : Int32) (L_2 : List Nat) (f_2 : TF) : Prop := Ok L_2 f_2 → Ext WL_Rv_tell_w_22_3 L_1 f_1 L_2 f_2 → ((12 ≤ v5_3 → ∀ f_3 : TF, f_3 = sR f_2 q_1 (p_0 : Int32).toNatClampNeg q_n1 → Ok L_2 f_3 → ∀ f_4 : TF, f_4 = sI f_3 q_n1 (p_1 : Int32).toNatClampNeg p_2 → Ok L_2 f_4 → Q L_2 f_4) ∧ (¬ (12 ≤ v5_3) → ∀ q_7 : Nat, tr f_2 q0 1 = some q_7 → ∀ y_8 : Int32, y_8 = (v5_3 + p_0) - (v5_3 + p_0) / 12 * 12 → ∀ x_9 : Int32, ti f_2 q_7 (y_8 : Int32).toNatClampNeg = x_9 → ∀ f_3 : TF, f_3 = sI f_2 q_n1 (v5_3 : Int32).toNatClampNeg x_9 → Ok L_2 f_3 → rec_3 (v5_3 + 1) L_2 f_3))
def wpL_Rv_tell_w_22_3 (L : List Nat) (f : TF) (q0 : Nat) (p_0 : Int32) (p_1 : Int32) (p_2 : Int32) (q_1 : Nat) (q_n1 : Nat) (L_1 : List Nat) (f_1 : TF) (Q : List Nat → TF → Prop) : Nat → Int32 → List Nat → TF → Prop
  | 0 => fun v5_3 L_2 f_2 => wpB_Rv_tell_w_22_3 L f q0 p_0 p_1 p_2 q_1 q_n1 L_1 f_1 Q (fun _ _ _ => True) v5_3 L_2 f_2
  | n + 1 => fun v5_3 L_2 f_2 => wpB_Rv_tell_w_22_3 L f q0 p_0 p_1 p_2 q_1 q_n1 L_1 f_1 Q (wpL_Rv_tell_w_22_3 L f q0 p_0 p_1 p_2 q_1 q_n1 L_1 f_1 Q n) v5_3 L_2 f_2
def wpR_Rv_tell_w_22_3 (L : List Nat) (f : TF) (q0 : Nat) (p_0 : Int32) (p_1 : Int32) (p_2 : Int32) (q_1 : Nat) (q_n1 : Nat) (L_1 : List Nat) (f_1 : TF) (Q : List Nat → TF → Prop) : Nat → Int32 → List Nat → TF → Prop
  | 0 => fun _ _ _ => True
  | n + 1 => wpL_Rv_tell_w_22_3 L f q0 p_0 p_1 p_2 q_1 q_n1 L_1 f_1 Q n
theorem wpL_Rv_tell_w_22_3_eq {L : List Nat} {f : TF} {q0 : Nat} {p_0 : Int32} {p_1 : Int32} {p_2 : Int32} {q_1 : Nat} {q_n1 : Nat} {L_1 : List Nat} {f_1 : TF} {Q : List Nat → TF → Prop} {n : Nat} : wpL_Rv_tell_w_22_3 L f q0 p_0 p_1 p_2 q_1 q_n1 L_1 f_1 Q n = wpB_Rv_tell_w_22_3 L f q0 p_0 p_1 p_2 q_1 q_n1 L_1 f_1 Q (wpR_Rv_tell_w_22_3 L f q0 p_0 p_1 p_2 q_1 q_n1 L_1 f_1 Q n) := by cases n <;> rfl
theorem wpR_Rv_tell_w_22_3_pos {L : List Nat} {f : TF} {q0 : Nat} {p_0 : Int32} {p_1 : Int32} {p_2 : Int32} {q_1 : Nat} {q_n1 : Nat} {L_1 : List Nat} {f_1 : TF} {Q : List Nat → TF → Prop} {n : Nat} (h : 0 < n) : wpR_Rv_tell_w_22_3 L f q0 p_0 p_1 p_2 q_1 q_n1 L_1 f_1 Q n = wpL_Rv_tell_w_22_3 L f q0 p_0 p_1 p_2 q_1 q_n1 L_1 f_1 Q (n - 1) := by
  cases n with
  | zero => omega
  | succ n => rfl
def wp_Rv_tell_w (L : List Nat) (f : TF) (q0 : Nat) (p_0 : Int32) (p_1 : Int32) (p_2 : Int32) (Q : List Nat → TF → Prop) : Prop := ∀ q_1 : Nat, tr f q0 2 = some q_1 → ((tr f q_1 (p_0 : Int32).toNatClampNeg = none → ∀ (q_n1 : Nat) (L_1 : List Nat) (f_1 : TF), q_n1 ∉ L → L_1 = L ++ [q_n1] → f_1 = nC f q_n1 19 → Ok L_1 f_1 → wpL_Rv_tell_w_22_3 L f q0 p_0 p_1 p_2 q_1 q_n1 L_1 f_1 Q (((12 : Int32).toInt - (0 : Int32).toInt).toNat) (0 : Int32) L_1 f_1) ∧ (∀ q_2 : Nat, tr f q_1 (p_0 : Int32).toNatClampNeg = some q_2 → ∀ f_1 : TF, f_1 = sI f q_2 (p_1 : Int32).toNatClampNeg p_2 → Ok L f_1 → Q L f_1))
set_option maxHeartbeats 4000000 in
set_option maxRecDepth 100000 in
theorem c_Rv_tell_w (l : Launch) (dC : Nat → ClassId) (dI : Nat → Nat → Nat) (ct : Nat → ClassId) (L : List Nat) (f : TF) (hO_0 : Ok L f) (q0 : Nat) (m0 : q0 ∈ L ∧ tk f q0 = 1) (sz : Nat) (p_0 : Int32) (p_1 : Int32) (p_2 : Int32)  (as_0 : ¬ (p_0 < 0)) (as_1 : ¬ (499 < p_0)) (as_2 : ¬ (p_1 < 0)) (as_3 : ¬ (11 < p_1)) (Q : List Nat → TF → Prop) (hQ : wp_Rv_tell_w L f q0 p_0 p_1 p_2 Q) : Met l y_Rv_tell (.code y_Rv_tell b_Rv_tell 6 none :: TB) ({ frames := 0, cells := 1, slots := 12, locals := 0 }) (va_Pc [.ref q0, .int p_0, .int p_1, .int p_2] (PC dC dI (TW ct L f) (TT ct) sz)) (va_Qv (fun (u : TSt) => Ok u.1 u.2 ∧ Ext W_Rv_tell_w L f u.1 u.2 ∧ (True) ∧ Q u.1 u.2) (fun (u : TSt) t => va_P (dC, dI) vwCl (TW ct u.1 u.2) t.heap ∧ va_K (dC, dI) vwCl (TT ct) t ∧ va_D (va_A (TW ct L f) sz) (TW ct u.1 u.2)) (va_A (TW ct L f) sz)) 1 12 (va_A (TW ct L f) sz) := by
  refine Met.ofW (cc := b_Rv_tell) (maxL := 6) (ret := none) (by decide) rfl ?_
  intro p e s m args below meth c s₁ B hml hv
  obtain ⟨rfl, hsz, hP, hK, hD0, hN⟩ := hv
  have hx := B.exec
  have hb := B.bytes
  have hr := B.returns
  have hts := atoms_spec (ws := (.code y_Rv_tell b_Rv_tell 6 none :: TB)) B.pre
  have htb := fun w (h : w ∈ TB) => hts w (List.mem_cons_of_mem _ h)
  have hown : s.vm.findClass R_Rv = some m.cls := findClass_of_methodNamed B.named
  have hlocks := B.notSynchronized
  have hl := lv_entry ([.ref q0, .int p_0, .int p_1, .int p_2]) (n := 6) (Nat.le_of_ble_eq_true rfl)
  rw [lg_entry_eq]
  generalize (lg_sl ([.ref q0, .int p_0, .int p_1, .int p_2]) ++ List.replicate (6 - (lg_sl ([.ref q0, .int p_0, .int p_1, .int p_2])).length) Slot.unset).toArray = ls at hl ⊢
  have hl : lv_has ls 6 [(0, .ref q0), (1, .int p_0), (2, .int p_1), (3, .int p_2)] := hl
  subst hsz
  have hD := hD0.self (sz := s.heap.size)
  obtain ⟨A, hAe⟩ : ∃ A, va_A (TW ct L f) s.heap.size = A := ⟨_, rfl⟩
  rw [hAe] at hD
  have hA : ∀ q : Nat, s.heap.size ≤ q → A q := fun q h => by rw [← hAe]; exact Or.inr h
  have hS : va_S A s.heap s.heap [] := va_S.rf
  have hA_0 : Ext [] L f L f := Ext.rf
  suffices hGo : ∀ (H : Heap) (locs : List Loc), va_P (dC, dI) vwCl (TW ct L f) H → va_S A s.heap H locs → W p l e (headSpec (.code y_Rv_tell b_Rv_tell 6 none :: TB) ({ frames := 0, cells := 1, slots := 12, locals := 0 })).room s m [.ref q0, .int p_0, .int p_1, .int p_2].toArray below meth c H locs 0 0 (MQ below (va_Qv (fun (u : TSt) => Ok u.1 u.2 ∧ Ext W_Rv_tell_w L f u.1 u.2 ∧ (True) ∧ Q u.1 u.2) (fun (u : TSt) t => va_P (dC, dI) vwCl (TW ct u.1 u.2) t.heap ∧ va_K (dC, dI) vwCl (TT ct) t ∧ va_D (va_A (TW ct L f) s.heap.size) (TW ct u.1 u.2)) (va_A (TW ct L f) s.heap.size)) [.ref q0, .int p_0, .int p_1, .int p_2].toArray s 1 12 (va_A (TW ct L f) s.heap.size)) (F0 m 0 ls []) from hGo _ _ hP hS
  clear hP hS
  intro H locs hP hS
  unfold wp_Rv_tell_w at hQ
  refine lv_aload_n hx hb d_Rv_tell_0 rfl (lv_at hl 0 rfl) ?_
  refine tw_getr (D := (dC, dI)) (C := R_Rv) (T := F_Rv) (N := 6) (ci := 1) (kd := 1) (ct := ct) hx hb htb i_Rv hown hK hP hO_0 m0 rfl rfl 2 (by decide) (htb (.fieldLink R_Rv 19 "WaterMen$River" "rows" "[[I") tw_136) (fun _ h9 => h9) rfl d_Rv_tell_1 (fun q_1 e_1 m_1 => ?_)
  have hQ := hQ q_1 e_1
  refine lv_iload_n hx hb d_Rv_tell_4 rfl (lv_at hl 1 rfl) ?_
  refine tw_aldA (ct := ct) hx hb hK hP hO_0 m_1 rfl rfl (hb_inl as_0 as_1 (by decide +kernel)) d_Rv_tell_5 (fun e_2 => ?_) (fun q_2 e_2 m_2 => ?_)
  · have hQ := hQ.1 e_2
    refine lv_astoreN (lv' := [(4, .null), (0, .ref q0), (1, .int p_0), (2, .int p_1), (3, .int p_2)]) hx hb d_Rv_tell_6 hl (by decide) rfl (fun ls hl => ?_)
    refine lv_aloadN hx hb d_Rv_tell_8 (lv_at hl 0 rfl) ?_
    refine lv_ifnonnullN hx hb d_Rv_tell_10 ?_
    refine lv_bipush (v := 12) hx hb d_Rv_tell_13 (by decide +kernel) ?_
    refine tw_newI (ct := ct) (N' := 12) hx hb (htb (.arrayClass .int) tw_137) hK hP hD hS hA hO_0 19 rfl ⟨by decide +kernel, by decide +kernel⟩ (by decide +kernel) (by decide +kernel) (by decide +kernel) (Nat.le_of_ble_eq_true rfl) (Nat.le_of_ble_eq_true rfl) d_Rv_tell_15 (fun q_n1 L_1 f_1 H hP hD hS hO_1 hE_1 m_n1 nq_1 hL_1 hF_1 => ?_)
    have hA_1 := hA_0.trans hE_1
    have hQ := hQ q_n1 L_1 f_1 nq_1 hL_1 hF_1 hO_1
    refine lv_astore (lv' := [(4, .ref q_n1), (0, .ref q0), (1, .int p_0), (2, .int p_1), (3, .int p_2)]) hx hb d_Rv_tell_17 hl (by decide) rfl (fun ls hl => ?_)
    refine lv_iconst (v := 0) hx hb d_Rv_tell_19 (by decide +kernel) ?_
    refine lv_istore (lv' := [(5, .int 0), (4, .ref q_n1), (0, .ref q0), (1, .int p_0), (2, .int p_1), (3, .int p_2)]) hx hb d_Rv_tell_20 hl (by decide) rfl (fun ls hl => ?_)
    have cut_3 : ∀ (n_3 : Nat) (v5_3 : Int32) (L_2 : List Nat) (f_2 : TF) (H : Heap) (locs : List Loc) (ls : Array Slot), va_P (dC, dI) vwCl (TW ct L_2 f_2) H → va_D A (TW ct L_2 f_2) → va_S A s.heap H locs → Ok L_2 f_2 → Ext WL_Rv_tell_w_22_3 L_1 f_1 L_2 f_2 → ¬ (v5_3 < 0) → ¬ (12 < v5_3) → (12 : Int32).toInt - (v5_3 : Int32).toInt ≤ (n_3 : Int) → wpL_Rv_tell_w_22_3 L f q0 p_0 p_1 p_2 q_1 q_n1 L_1 f_1 Q n_3 v5_3 L_2 f_2 → lv_has ls 6 [(0, .ref q0), (1, .int p_0), (2, .int p_1), (3, .int p_2), (4, .ref q_n1), (5, .int v5_3)] → W p l e (headSpec (.code y_Rv_tell b_Rv_tell 6 none :: TB) ({ frames := 0, cells := 1, slots := 12, locals := 0 })).room s m [.ref q0, .int p_0, .int p_1, .int p_2].toArray below meth c H locs 1 12 (MQ below (va_Qv (fun (u : TSt) => Ok u.1 u.2 ∧ Ext W_Rv_tell_w L f u.1 u.2 ∧ (True) ∧ Q u.1 u.2) (fun (u : TSt) t => va_P (dC, dI) vwCl (TW ct u.1 u.2) t.heap ∧ va_K (dC, dI) vwCl (TT ct) t ∧ va_D (va_A (TW ct L f) s.heap.size) (TW ct u.1 u.2)) (va_A (TW ct L f) s.heap.size)) [.ref q0, .int p_0, .int p_1, .int p_2].toArray s 1 12 (va_A (TW ct L f) s.heap.size)) (F0 m 22 ls []) := by
      intro n_3
      induction n_3 using Nat.strongRecOn with
      | _ n_3 ih_3 =>
        intro v5_3 L_2 f_2 H locs ls hP hD hS hO_2 hE_2 iv0_3 iv1_3 hm_3 hQ hl
        have hA_2 := hA_1.trans hE_2
        rw [wpL_Rv_tell_w_22_3_eq] at hQ
        obtain ⟨rec_3, hrec_3⟩ : ∃ g, wpR_Rv_tell_w_22_3 L f q0 p_0 p_1 p_2 q_1 q_n1 L_1 f_1 Q n_3 = g := ⟨_, rfl⟩
        rw [hrec_3] at hQ
        unfold wpB_Rv_tell_w_22_3 at hQ
        have hQ := hQ hO_2 hE_2
        refine lv_iload hx hb d_Rv_tell_22 (lv_at hl 5 rfl) ?_
        refine lv_bipush (v := 12) hx hb d_Rv_tell_24 (by decide +kernel) ?_
        refine lv_icmp_ge (tgt := 52) hx hb d_Rv_tell_26 (by decide) (fun c_4 => ?_) (fun c_4 => ?_)
        · have hQ := hQ.1 c_4
          refine lv_aload_n hx hb d_Rv_tell_52 rfl (lv_at hl 0 rfl) ?_
          refine tw_getR (D := (dC, dI)) (C := R_Rv) (T := F_Rv) (N := 6) (ci := 1) (kd := 1) (ct := ct) hx hb htb i_Rv hown hK hP (hA_2.m m0) rfl rfl 2 ((hA_2.er m0 rfl).trans e_1) (by decide) (htb (.fieldLink R_Rv 19 "WaterMen$River" "rows" "[[I") tw_136) (fun _ h9 => h9) rfl d_Rv_tell_53 ?_
          refine hb_tv (.ref q_1) rfl ?_
          refine lv_iload_n hx hb d_Rv_tell_56 rfl (lv_at hl 1 rfl) ?_
          refine lv_aload hx hb d_Rv_tell_57 (lv_at hl 4 rfl) ?_
          refine tw_astA (ct := ct) hx hb hK hP hD hS (over_moved (Vm.Alike.refl s.vm) hN.2.2) hO_2 (hA_2.m m_1) rfl (hE_2.m m_n1) rfl (hb_inl as_0 as_1 (by decide +kernel)) d_Rv_tell_59 (fun f_3 H locs hP hD hS hO_3 hE_3 w_5 hF_3 => ?_)
          have hA_3 := hA_2.trans hE_3
          have hQ := hQ f_3 hF_3
          have hQ := hQ hO_3
          refine lv_aload hx hb d_Rv_tell_60 (lv_at hl 4 rfl) ?_
          refine lv_iload_n hx hb d_Rv_tell_62 rfl (lv_at hl 2 rfl) ?_
          refine lv_iload_n hx hb d_Rv_tell_63 rfl (lv_at hl 3 rfl) ?_
          refine tw_astI (ct := ct) (x := p_2) hx hb hK hP hD hS hO_3 (hE_3.m (hE_2.m m_n1)) rfl (hb_inl as_2 as_3 (by decide +kernel)) (i32_full _) d_Rv_tell_64 (fun f_4 H locs hP hD hS hO_4 hE_4 w_6 ow_6 hF_4 => ?_)
          have hA_4 := hA_3.trans hE_4
          have hQ := hQ f_4 hF_4
          have hQ := hQ hO_4
          refine W.widen (k := 1) (n := 12) (Nat.le_of_ble_eq_true rfl) (Nat.le_of_ble_eq_true rfl) ?_
          exact W.vret hx hb hr (fun t ht hW => ⟨⟨(L_2, f_4), rfl, ⟨hO_4, hA_4.mono (by decide +kernel), trivial, hQ⟩, by rw [ht]; exact hP, va_K.moved hW.alike hK, by rw [hAe]; exact hD⟩, by rw [hAe]; exact hS.F ht⟩) (by rw [hAe]; exact hS.2.2) d_Rv_tell_65
        · have hQ := hQ.2 c_4
          refine lv_aload hx hb d_Rv_tell_29 (lv_at hl 4 rfl) ?_
          refine lv_iload hx hb d_Rv_tell_31 (lv_at hl 5 rfl) ?_
          refine lv_aload_n hx hb d_Rv_tell_33 rfl (lv_at hl 0 rfl) ?_
          refine tw_getr (D := (dC, dI)) (C := R_Rv) (T := F_Rv) (N := 6) (ci := 1) (kd := 1) (ct := ct) hx hb htb i_Rv hown hK hP hO_2 (hA_2.m m0) rfl rfl 1 (by decide) (htb (.fieldLink R_Rv 15 "WaterMen$River" "table" "[I") tw_138) (fun _ h9 => h9) rfl d_Rv_tell_34 (fun q_7 e_7 m_7 => ?_)
          have hQ := hQ q_7 e_7
          refine lv_iload hx hb d_Rv_tell_37 (lv_at hl 5 rfl) ?_
          refine lv_iload_n hx hb d_Rv_tell_39 rfl (lv_at hl 1 rfl) ?_
          refine lv_iadd hx hb d_Rv_tell_40 ?_
          refine lv_bipush (v := 12) hx hb d_Rv_tell_41 (by decide +kernel) ?_
          refine lv_irem hx hb d_Rv_tell_43 (by decide) ?_
          refine hb_remn (c := 12) (C1 := 11) (K := 2147483635) (by decide +kernel) (by decide +kernel) (by decide +kernel) (show ¬ ((v5_3 + p_0) < 0) from ((fun (a_0 : Int32) (a_1 : Int32) (k_0 : ¬ (a_0 < 0)) (k_1 : ¬ (499 < a_0)) (k_2 : ¬ (a_1 < 0)) (k_3 : ¬ (12 ≤ a_1)) => (show ¬ ((a_1 + a_0) < 0) from by have z0 : (0 : Int32).toInt = 0 := (by decide +kernel); have z1 : (12 : Int32).toInt = 12 := (by decide +kernel); have z2 : (499 : Int32).toInt = 499 := (by decide +kernel); have r0 := fb_rng (a_0); have r1 := fb_rng (a_1); have e0 := k_0; rw [Int32.lt_iff_toInt_lt, z0] at e0; have e1 := k_1; rw [Int32.lt_iff_toInt_lt, z2] at e1; have e2 := k_2; rw [Int32.lt_iff_toInt_lt, z0] at e2; have e3 := k_3; rw [Int32.le_iff_toInt_le, z1] at e3; obtain ⟨n_0, hn_0, s0⟩ := nd_add (x := (a_1)) (y := (a_0)) (by omega) (by omega); rw [hn_0, Int32.lt_iff_toInt_lt, z0]; omega)) p_0 v5_3 as_0 as_1 iv0_3 c_4)) (show ¬ (2147483635 < (v5_3 + p_0)) from ((fun (a_0 : Int32) (a_1 : Int32) (k_0 : ¬ (499 < a_0)) (k_1 : ¬ (a_1 < 0)) (k_2 : ¬ (12 ≤ a_1)) => (show ¬ (2147483635 < (a_1 + a_0)) from by have z0 : (0 : Int32).toInt = 0 := (by decide +kernel); have z1 : (12 : Int32).toInt = 12 := (by decide +kernel); have z2 : (499 : Int32).toInt = 499 := (by decide +kernel); have z3 : (2147483635 : Int32).toInt = 2147483635 := (by decide +kernel); have r0 := fb_rng (a_0); have r1 := fb_rng (a_1); have e0 := k_0; rw [Int32.lt_iff_toInt_lt, z2] at e0; have e1 := k_1; rw [Int32.lt_iff_toInt_lt, z0] at e1; have e2 := k_2; rw [Int32.le_iff_toInt_le, z1] at e2; obtain ⟨n_0, hn_0, s0⟩ := nd_add (x := (a_1)) (y := (a_0)) (by omega) (by omega); rw [hn_0, Int32.lt_iff_toInt_lt, z3]; omega)) p_0 v5_3 as_1 iv0_3 c_4)) (fun y_8 qu_8 g1_8 g2_8 g3_8 g4_8 g5_8 g9_8 => ?_)
          have hQ := hQ y_8 g9_8
          refine tw_aldI (ct := ct) hx hb hK hP hO_2 m_7 rfl (hb_inl g1_8 g2_8 (by decide +kernel)) d_Rv_tell_44 (fun x_9 e_9 b_9 => ?_)
          have hQ := hQ x_9 e_9
          refine tw_astI (ct := ct) (x := x_9) hx hb hK hP hD hS hO_2 (hE_2.m m_n1) rfl (hb_in iv0_3 c_4 (by decide +kernel)) (i32_full _) d_Rv_tell_45 (fun f_3 H locs hP hD hS hO_3 hE_3 w_10 ow_10 hF_3 => ?_)
          have hA_3 := hA_2.trans hE_3
          have hQ := hQ f_3 hF_3
          have hQ := hQ hO_3
          refine lv_iinc (v := (v5_3 + 1)) (lv' := [(5, .int (v5_3 + 1)), (0, .ref q0), (1, .int p_0), (2, .int p_1), (3, .int p_2), (4, .ref q_n1)]) hx hb d_Rv_tell_46 hl (k := 5) rfl rfl (by decide) rfl (fun ls hl => ?_)
          refine lv_goto (tgt := 22) hx hb d_Rv_tell_49 (by decide) ?_
          exact ih_3 (n_3 - 1) (ms_1 ((fun (a_0 : Int32) (k_0 : ¬ (12 ≤ a_0)) => (show 1 ≤ (12 : Int32).toInt - (a_0).toInt ∧ (12 : Int32).toInt - ((a_0) + (1 : Int32)).toInt + 1 ≤ (12 : Int32).toInt - (a_0).toInt from by have z0 : (1 : Int32).toInt = 1 := (by decide +kernel); have z1 : (12 : Int32).toInt = 12 := (by decide +kernel); have r0 := fb_rng (a_0); have e0 := k_0; rw [Int32.le_iff_toInt_le, z1] at e0; obtain ⟨n_0, hn_0, s0⟩ := nd_add (x := (a_0)) (y := (1 : Int32)) (by (try rw [z0]); omega) (by (try rw [z0]); omega); rw [z0] at s0; rw [hn_0]; (try rw [z1]); omega)) v5_3 c_4) hm_3) (v5_3 + 1) _ _ _ _ _ hP hD hS hO_3 ((hE_2.trans hE_3).mono (by decide +kernel)) (show ¬ ((v5_3 + 1) < 0) from by have e0 := iv0_3; rw [Int32.lt_iff_toInt_lt] at e0; have e1 := c_4; rw [Int32.le_iff_toInt_le] at e1; have z0 : (0 : Int32).toInt = 0 := (by decide +kernel); have z1 : (1 : Int32).toInt = 1 := (by decide +kernel); have z2 : (12 : Int32).toInt = 12 := (by decide +kernel); have ss := fb_addI (x := v5_3) (y := 1) (by omega) (by omega); rw [Int32.lt_iff_toInt_lt]; omega) (show ¬ (12 < (v5_3 + 1)) from by have e0 := iv0_3; rw [Int32.lt_iff_toInt_lt] at e0; have e1 := c_4; rw [Int32.le_iff_toInt_le] at e1; have z0 : (0 : Int32).toInt = 0 := (by decide +kernel); have z1 : (1 : Int32).toInt = 1 := (by decide +kernel); have z2 : (12 : Int32).toInt = 12 := (by decide +kernel); have ss := fb_addI (x := v5_3) (y := 1) (by omega) (by omega); rw [Int32.lt_iff_toInt_lt]; omega) (by exact ms_2 ((fun (a_0 : Int32) (k_0 : ¬ (12 ≤ a_0)) => (show 1 ≤ (12 : Int32).toInt - (a_0).toInt ∧ (12 : Int32).toInt - ((a_0) + (1 : Int32)).toInt + 1 ≤ (12 : Int32).toInt - (a_0).toInt from by have z0 : (1 : Int32).toInt = 1 := (by decide +kernel); have z1 : (12 : Int32).toInt = 12 := (by decide +kernel); have r0 := fb_rng (a_0); have e0 := k_0; rw [Int32.le_iff_toInt_le, z1] at e0; obtain ⟨n_0, hn_0, s0⟩ := nd_add (x := (a_0)) (y := (1 : Int32)) (by (try rw [z0]); omega) (by (try rw [z0]); omega); rw [z0] at s0; rw [hn_0]; (try rw [z1]); omega)) v5_3 c_4) hm_3) (by rw [← hrec_3, wpR_Rv_tell_w_22_3_pos (ms_3 ((fun (a_0 : Int32) (k_0 : ¬ (12 ≤ a_0)) => (show 1 ≤ (12 : Int32).toInt - (a_0).toInt ∧ (12 : Int32).toInt - ((a_0) + (1 : Int32)).toInt + 1 ≤ (12 : Int32).toInt - (a_0).toInt from by have z0 : (1 : Int32).toInt = 1 := (by decide +kernel); have z1 : (12 : Int32).toInt = 12 := (by decide +kernel); have r0 := fb_rng (a_0); have e0 := k_0; rw [Int32.le_iff_toInt_le, z1] at e0; obtain ⟨n_0, hn_0, s0⟩ := nd_add (x := (a_0)) (y := (1 : Int32)) (by (try rw [z0]); omega) (by (try rw [z0]); omega); rw [z0] at s0; rw [hn_0]; (try rw [z1]); omega)) v5_3 c_4) hm_3)] at hQ; exact hQ) (lv_sub hl [1, 2, 3, 4, 5, 0] rfl)
    exact cut_3 ((12 : Int32).toInt - (0 : Int32).toInt).toNat (0 : Int32) _ _ _ _ _ hP hD hS hO_1 Ext.rf (by decide +kernel) (by decide +kernel) (by exact ms_e _ _) hQ (lv_sub hl [2, 3, 4, 5, 1, 0] rfl)
  · have hQ := hQ.2 q_2 e_2
    refine lv_astore (lv' := [(4, .ref q_2), (0, .ref q0), (1, .int p_0), (2, .int p_1), (3, .int p_2)]) hx hb d_Rv_tell_6 hl (by decide) rfl (fun ls hl => ?_)
    refine lv_aload hx hb d_Rv_tell_8 (lv_at hl 0 rfl) ?_
    refine lv_ifnonnull (tgt := 60) hx hb d_Rv_tell_10 (by decide) ?_
    refine lv_aload hx hb d_Rv_tell_60 (lv_at hl 0 rfl) ?_
    refine lv_iload_n hx hb d_Rv_tell_62 rfl (lv_at hl 3 rfl) ?_
    refine lv_iload_n hx hb d_Rv_tell_63 rfl (lv_at hl 4 rfl) ?_
    refine tw_astI (ct := ct) (x := p_2) hx hb hK hP hD hS hO_0 m_2 rfl (hb_inl as_2 as_3 (by decide +kernel)) (i32_full _) d_Rv_tell_64 (fun f_1 H locs hP hD hS hO_1 hE_1 w_11 ow_11 hF_1 => ?_)
    have hA_1 := hA_0.trans hE_1
    have hQ := hQ f_1 hF_1
    have hQ := hQ hO_1
    refine W.widen (k := 1) (n := 12) (Nat.le_of_ble_eq_true rfl) (Nat.le_of_ble_eq_true rfl) ?_
    exact W.vret hx hb hr (fun t ht hW => ⟨⟨(L, f_1), rfl, ⟨hO_1, hA_1.mono (by decide +kernel), trivial, hQ⟩, by rw [ht]; exact hP, va_K.moved hW.alike hK, by rw [hAe]; exact hD⟩, by rw [hAe]; exact hS.F ht⟩) (by rw [hAe]; exact hS.2.2) d_Rv_tell_65
def W_WM_level_w : List (Nat × Nat) := [(4, 1000), (19, 1000)]
def wp_WM_level_w (L : List Nat) (f : TF) (q0 : Nat) (p_0 : Int32) (p_1 : Int32) (p_2 : Int32) (Q : Int32 → List Nat → TF → Prop) : Prop := ((p_0 < 0 → Q (-1) L f) ∧ (¬ (p_0 < 0) → ((500 ≤ p_0 → Q (-1) L f) ∧ (¬ (500 ≤ p_0) → ((p_1 < 0 → Q (-1) L f) ∧ (¬ (p_1 < 0) → ((12 ≤ p_1 → Q (-1) L f) ∧ (¬ (12 ≤ p_1) → ((p_2 < (-90) → Q (-1) L f) ∧ (¬ (p_2 < (-90)) → ((90 < p_2 → Q (-1) L f) ∧ (¬ (90 < p_2) → ∀ q_10 : Nat, tr f q0 0 = some q_10 → wp_Rv_tell_w L f q_10 p_0 p_1 p_2 (fun (L_1 : List Nat) (f_1 : TF) => Ok L_1 f_1 → Ext W_Rv_tell_w L f L_1 f_1 → Q 1 L_1 f_1)))))))))))))
set_option maxHeartbeats 4000000 in
set_option maxRecDepth 100000 in
theorem c_WM_level_w (l : Launch) (dC : Nat → ClassId) (dI : Nat → Nat → Nat) (ct : Nat → ClassId) (L : List Nat) (f : TF) (hO_0 : Ok L f) (q0 : Nat) (m0 : q0 ∈ L ∧ tk f q0 = 0) (sz : Nat) (p_0 : Int32) (p_1 : Int32) (p_2 : Int32)   (Q : Int32 → List Nat → TF → Prop) (hQ : wp_WM_level_w L f q0 p_0 p_1 p_2 Q) : Met l y_WM_level (.code y_WM_level b_WM_level 4 (some .int) :: TB) ({ frames := 1, cells := 1, slots := 12, locals := 25 }) (va_Pc [.ref q0, .int p_0, .int p_1, .int p_2] (PC dC dI (TW ct L f) (TT ct) sz)) (va_Qi (fun r (u : TSt) => Ok u.1 u.2 ∧ Ext W_WM_level_w L f u.1 u.2 ∧ ((r = 1 ∧ ¬ (p_0 < 0) ∧ ¬ (499 < p_0) ∧ ¬ (p_1 < 0) ∧ ¬ (11 < p_1) ∧ ¬ (p_2 < (-90)) ∧ ¬ (90 < p_2) ∧ True) ∨ (r = (-1) ∧ p_0 < 0 ∧ True) ∨ (r = (-1) ∧ 499 < p_0 ∧ True) ∨ (r = (-1) ∧ p_1 < 0 ∧ True) ∨ (r = (-1) ∧ 11 < p_1 ∧ True) ∨ (r = (-1) ∧ p_2 < (-90) ∧ True) ∨ (r = (-1) ∧ 90 < p_2 ∧ True)) ∧ Q r u.1 u.2) (fun (u : TSt) t => va_P (dC, dI) vwCl (TW ct u.1 u.2) t.heap ∧ va_K (dC, dI) vwCl (TT ct) t ∧ va_D (va_A (TW ct L f) sz) (TW ct u.1 u.2)) (va_A (TW ct L f) sz)) 1 12 (va_A (TW ct L f) sz) := by
  refine Met.ofW (cc := b_WM_level) (maxL := 4) (ret := (some .int)) (by decide) rfl ?_
  intro p e s m args below meth c s₁ B hml hv
  obtain ⟨rfl, hsz, hP, hK, hD0, hN⟩ := hv
  have hx := B.exec
  have hb := B.bytes
  have hr := B.returns
  have hts := atoms_spec (ws := (.code y_WM_level b_WM_level 4 (some .int) :: TB)) B.pre
  have htb := fun w (h : w ∈ TB) => hts w (List.mem_cons_of_mem _ h)
  have hown : s.vm.findClass R_WM = some m.cls := findClass_of_methodNamed B.named
  have hlocks := B.notSynchronized
  have hl := lv_entry ([.ref q0, .int p_0, .int p_1, .int p_2]) (n := 4) (Nat.le_of_ble_eq_true rfl)
  rw [lg_entry_eq]
  generalize (lg_sl ([.ref q0, .int p_0, .int p_1, .int p_2]) ++ List.replicate (4 - (lg_sl ([.ref q0, .int p_0, .int p_1, .int p_2])).length) Slot.unset).toArray = ls at hl ⊢
  have hl : lv_has ls 4 [(0, .ref q0), (1, .int p_0), (2, .int p_1), (3, .int p_2)] := hl
  subst hsz
  have hD := hD0.self (sz := s.heap.size)
  obtain ⟨A, hAe⟩ : ∃ A, va_A (TW ct L f) s.heap.size = A := ⟨_, rfl⟩
  rw [hAe] at hD
  have hA : ∀ q : Nat, s.heap.size ≤ q → A q := fun q h => by rw [← hAe]; exact Or.inr h
  have hS : va_S A s.heap s.heap [] := va_S.rf
  have hA_0 : Ext [] L f L f := Ext.rf
  suffices hGo : ∀ (H : Heap) (locs : List Loc), va_P (dC, dI) vwCl (TW ct L f) H → va_S A s.heap H locs → W p l e (headSpec (.code y_WM_level b_WM_level 4 (some .int) :: TB) ({ frames := 1, cells := 1, slots := 12, locals := 25 })).room s m [.ref q0, .int p_0, .int p_1, .int p_2].toArray below meth c H locs 0 0 (MQ below (va_Qi (fun r (u : TSt) => Ok u.1 u.2 ∧ Ext W_WM_level_w L f u.1 u.2 ∧ ((r = 1 ∧ ¬ (p_0 < 0) ∧ ¬ (499 < p_0) ∧ ¬ (p_1 < 0) ∧ ¬ (11 < p_1) ∧ ¬ (p_2 < (-90)) ∧ ¬ (90 < p_2) ∧ True) ∨ (r = (-1) ∧ p_0 < 0 ∧ True) ∨ (r = (-1) ∧ 499 < p_0 ∧ True) ∨ (r = (-1) ∧ p_1 < 0 ∧ True) ∨ (r = (-1) ∧ 11 < p_1 ∧ True) ∨ (r = (-1) ∧ p_2 < (-90) ∧ True) ∨ (r = (-1) ∧ 90 < p_2 ∧ True)) ∧ Q r u.1 u.2) (fun (u : TSt) t => va_P (dC, dI) vwCl (TW ct u.1 u.2) t.heap ∧ va_K (dC, dI) vwCl (TT ct) t ∧ va_D (va_A (TW ct L f) s.heap.size) (TW ct u.1 u.2)) (va_A (TW ct L f) s.heap.size)) [.ref q0, .int p_0, .int p_1, .int p_2].toArray s 1 12 (va_A (TW ct L f) s.heap.size)) (F0 m 0 ls []) from hGo _ _ hP hS
  clear hP hS
  intro H locs hP hS
  unfold wp_WM_level_w at hQ
  refine lv_iload_n hx hb d_WM_level_0 rfl (lv_at hl 1 rfl) ?_
  refine vp_callSi (va_Run.run (va_runS (As := [.int p_0]) (rest := []) ⟨hx, hb, hml, hown, htb⟩ (c_WM_isDay l p_0) (cwS 1 htb (gd_S tw_127 tw_128 tw_26 tw_126) rfl rfl rfl (by decide +kernel) ⟨Nat.le_of_ble_eq_true rfl, Nat.le_of_ble_eq_true rfl⟩) ⟨fun _ _ _ _ h => h, fun U _ _ => ⟨rfl, trivial⟩⟩ rfl rfl hl.1 rfl (lv_room (Nat.le_of_ble_eq_true rfl)) d_WM_level_1 ⟨Nat.le_of_ble_eq_true rfl, Nat.le_of_ble_eq_true rfl⟩)) (fun r er => ?_)
  subst er
  by_cases c_2 : p_0 < 0
  · have hQ := hQ.1 c_2
    refine hb_ti 0 (by unfold f_WM_isDay; rw [if_pos c_2]; first | done | rfl) ?_
    refine lv_if_eq (tgt := 21) hx hb d_WM_level_4 (by decide) (fun _ => ?_) (fun h => absurd (by decide +kernel) h)
    refine lv_iconst (v := (-1)) hx hb d_WM_level_21 (by decide +kernel) ?_
    refine W.widen (k := 1) (n := 12) (Nat.le_of_ble_eq_true rfl) (Nat.le_of_ble_eq_true rfl) ?_
    exact W.iret (v := (-1)) hx hb hr (fun t ht hW => ⟨⟨(-1), (L, f), rfl, ⟨hO_0, hA_0.mono (by decide +kernel), (Or.inr (Or.inl ⟨rfl, c_2, trivial⟩)), hQ⟩, by rw [ht]; exact hP, va_K.moved hW.alike hK, by rw [hAe]; exact hD⟩, by rw [hAe]; exact hS.F ht⟩) (by rw [hAe]; exact hS.2.2) d_WM_level_22
  · have hQ := hQ.2 c_2
    by_cases c_3 : 500 ≤ p_0
    · have hQ := hQ.1 c_3
      refine hb_ti 0 (by unfold f_WM_isDay; rw [if_neg c_2, if_pos c_3]; first | done | rfl) ?_
      refine lv_if_eq (tgt := 21) hx hb d_WM_level_4 (by decide) (fun _ => ?_) (fun h => absurd (by decide +kernel) h)
      refine lv_iconst (v := (-1)) hx hb d_WM_level_21 (by decide +kernel) ?_
      refine W.widen (k := 1) (n := 12) (Nat.le_of_ble_eq_true rfl) (Nat.le_of_ble_eq_true rfl) ?_
      exact W.iret (v := (-1)) hx hb hr (fun t ht hW => ⟨⟨(-1), (L, f), rfl, ⟨hO_0, hA_0.mono (by decide +kernel), (Or.inr (Or.inr (Or.inl ⟨rfl, (show 499 < p_0 from by have e0 := c_3; rw [Int32.le_iff_toInt_le] at e0; have z0 : (499 : Int32).toInt = 499 := (by decide +kernel); have z1 : (500 : Int32).toInt = 500 := (by decide +kernel); rw [Int32.lt_iff_toInt_lt]; omega), trivial⟩))), hQ⟩, by rw [ht]; exact hP, va_K.moved hW.alike hK, by rw [hAe]; exact hD⟩, by rw [hAe]; exact hS.F ht⟩) (by rw [hAe]; exact hS.2.2) d_WM_level_22
    · have hQ := hQ.2 c_3
      refine hb_ti 1 (by unfold f_WM_isDay; rw [if_neg c_2, if_neg c_3]; first | done | rfl) ?_
      refine lv_if_eq (tgt := 21) hx hb d_WM_level_4 (by decide) (fun h => absurd h (by decide +kernel)) (fun _ => ?_)
      refine lv_iload_n hx hb d_WM_level_7 rfl (lv_at hl 2 rfl) ?_
      refine vp_callSi (va_Run.run (va_runS (As := [.int p_1]) (rest := []) ⟨hx, hb, hml, hown, htb⟩ (c_WM_isHour l p_1) (cwS 1 htb (gd_S tw_130 tw_131 tw_26 tw_129) rfl rfl rfl (by decide +kernel) ⟨Nat.le_of_ble_eq_true rfl, Nat.le_of_ble_eq_true rfl⟩) ⟨fun _ _ _ _ h => h, fun U _ _ => ⟨rfl, trivial⟩⟩ rfl rfl hl.1 rfl (lv_room (Nat.le_of_ble_eq_true rfl)) d_WM_level_8 ⟨Nat.le_of_ble_eq_true rfl, Nat.le_of_ble_eq_true rfl⟩)) (fun r er => ?_)
      subst er
      by_cases c_5 : p_1 < 0
      · have hQ := hQ.1 c_5
        refine hb_ti 0 (by unfold f_WM_isHour; rw [if_pos c_5]; first | done | rfl) ?_
        refine lv_if_eq (tgt := 21) hx hb d_WM_level_11 (by decide) (fun _ => ?_) (fun h => absurd (by decide +kernel) h)
        refine lv_iconst (v := (-1)) hx hb d_WM_level_21 (by decide +kernel) ?_
        refine W.widen (k := 1) (n := 12) (Nat.le_of_ble_eq_true rfl) (Nat.le_of_ble_eq_true rfl) ?_
        exact W.iret (v := (-1)) hx hb hr (fun t ht hW => ⟨⟨(-1), (L, f), rfl, ⟨hO_0, hA_0.mono (by decide +kernel), (Or.inr (Or.inr (Or.inr (Or.inl ⟨rfl, c_5, trivial⟩)))), hQ⟩, by rw [ht]; exact hP, va_K.moved hW.alike hK, by rw [hAe]; exact hD⟩, by rw [hAe]; exact hS.F ht⟩) (by rw [hAe]; exact hS.2.2) d_WM_level_22
      · have hQ := hQ.2 c_5
        by_cases c_6 : 12 ≤ p_1
        · have hQ := hQ.1 c_6
          refine hb_ti 0 (by unfold f_WM_isHour; rw [if_neg c_5, if_pos c_6]; first | done | rfl) ?_
          refine lv_if_eq (tgt := 21) hx hb d_WM_level_11 (by decide) (fun _ => ?_) (fun h => absurd (by decide +kernel) h)
          refine lv_iconst (v := (-1)) hx hb d_WM_level_21 (by decide +kernel) ?_
          refine W.widen (k := 1) (n := 12) (Nat.le_of_ble_eq_true rfl) (Nat.le_of_ble_eq_true rfl) ?_
          exact W.iret (v := (-1)) hx hb hr (fun t ht hW => ⟨⟨(-1), (L, f), rfl, ⟨hO_0, hA_0.mono (by decide +kernel), (Or.inr (Or.inr (Or.inr (Or.inr (Or.inl ⟨rfl, (show 11 < p_1 from by have e0 := c_6; rw [Int32.le_iff_toInt_le] at e0; have z0 : (11 : Int32).toInt = 11 := (by decide +kernel); have z1 : (12 : Int32).toInt = 12 := (by decide +kernel); rw [Int32.lt_iff_toInt_lt]; omega), trivial⟩))))), hQ⟩, by rw [ht]; exact hP, va_K.moved hW.alike hK, by rw [hAe]; exact hD⟩, by rw [hAe]; exact hS.F ht⟩) (by rw [hAe]; exact hS.2.2) d_WM_level_22
        · have hQ := hQ.2 c_6
          refine hb_ti 1 (by unfold f_WM_isHour; rw [if_neg c_5, if_neg c_6]; first | done | rfl) ?_
          refine lv_if_eq (tgt := 21) hx hb d_WM_level_11 (by decide) (fun h => absurd h (by decide +kernel)) (fun _ => ?_)
          refine lv_iload_n hx hb d_WM_level_14 rfl (lv_at hl 3 rfl) ?_
          refine vp_callSi (va_Run.run (va_runS (As := [.int p_2]) (rest := []) ⟨hx, hb, hml, hown, htb⟩ (c_WM_isLevel l p_2) (cwS 1 htb (gd_S tw_133 tw_134 tw_26 tw_132) rfl rfl rfl (by decide +kernel) ⟨Nat.le_of_ble_eq_true rfl, Nat.le_of_ble_eq_true rfl⟩) ⟨fun _ _ _ _ h => h, fun U _ _ => ⟨rfl, trivial⟩⟩ rfl rfl hl.1 rfl (lv_room (Nat.le_of_ble_eq_true rfl)) d_WM_level_15 ⟨Nat.le_of_ble_eq_true rfl, Nat.le_of_ble_eq_true rfl⟩)) (fun r er => ?_)
          subst er
          by_cases c_8 : p_2 < (-90)
          · have hQ := hQ.1 c_8
            refine hb_ti 0 (by unfold f_WM_isLevel; rw [if_pos c_8]; first | done | rfl) ?_
            refine lv_if_ne (tgt := 23) hx hb d_WM_level_18 (by decide) (fun h => absurd (by decide +kernel) h) (fun _ => ?_)
            refine lv_iconst (v := (-1)) hx hb d_WM_level_21 (by decide +kernel) ?_
            refine W.widen (k := 1) (n := 12) (Nat.le_of_ble_eq_true rfl) (Nat.le_of_ble_eq_true rfl) ?_
            exact W.iret (v := (-1)) hx hb hr (fun t ht hW => ⟨⟨(-1), (L, f), rfl, ⟨hO_0, hA_0.mono (by decide +kernel), (Or.inr (Or.inr (Or.inr (Or.inr (Or.inr (Or.inl ⟨rfl, c_8, trivial⟩)))))), hQ⟩, by rw [ht]; exact hP, va_K.moved hW.alike hK, by rw [hAe]; exact hD⟩, by rw [hAe]; exact hS.F ht⟩) (by rw [hAe]; exact hS.2.2) d_WM_level_22
          · have hQ := hQ.2 c_8
            by_cases c_9 : 90 < p_2
            · have hQ := hQ.1 c_9
              refine hb_ti 0 (by unfold f_WM_isLevel; rw [if_neg c_8, if_pos c_9]; first | done | rfl) ?_
              refine lv_if_ne (tgt := 23) hx hb d_WM_level_18 (by decide) (fun h => absurd (by decide +kernel) h) (fun _ => ?_)
              refine lv_iconst (v := (-1)) hx hb d_WM_level_21 (by decide +kernel) ?_
              refine W.widen (k := 1) (n := 12) (Nat.le_of_ble_eq_true rfl) (Nat.le_of_ble_eq_true rfl) ?_
              exact W.iret (v := (-1)) hx hb hr (fun t ht hW => ⟨⟨(-1), (L, f), rfl, ⟨hO_0, hA_0.mono (by decide +kernel), (Or.inr (Or.inr (Or.inr (Or.inr (Or.inr (Or.inr ⟨rfl, c_9, trivial⟩)))))), hQ⟩, by rw [ht]; exact hP, va_K.moved hW.alike hK, by rw [hAe]; exact hD⟩, by rw [hAe]; exact hS.F ht⟩) (by rw [hAe]; exact hS.2.2) d_WM_level_22
            · have hQ := hQ.2 c_9
              refine hb_ti 1 (by unfold f_WM_isLevel; rw [if_neg c_8, if_neg c_9]; first | done | rfl) ?_
              refine lv_if_ne (tgt := 23) hx hb d_WM_level_18 (by decide) (fun _ => ?_) (fun h => absurd h (by decide +kernel))
              refine lv_aload_n hx hb d_WM_level_23 rfl (lv_at hl 0 rfl) ?_
              refine tw_getr (D := (dC, dI)) (C := R_WM) (T := F_WM) (N := 13) (ci := 0) (kd := 0) (ct := ct) hx hb htb i_WM hown hK hP hO_0 m0 rfl rfl 0 (by decide) (htb (.fieldLink R_WM 12 "WaterMen" "river" "LWaterMen$River;") tw_135) (fun _ h9 => h9) rfl d_WM_level_24 (fun q_10 e_10 m_10 => ?_)
              have hQ := hQ q_10 e_10
              refine lv_iload_n hx hb d_WM_level_27 rfl (lv_at hl 1 rfl) ?_
              refine lv_iload_n hx hb d_WM_level_28 rfl (lv_at hl 2 rfl) ?_
              refine lv_iload_n hx hb d_WM_level_29 rfl (lv_at hl 3 rfl) ?_
              have hFc := hb_free hD hS hA
              refine va_callv (va_runV (As := [.int p_0, .int p_1, .int p_2]) (rest := []) ⟨hx, hb, hml, hown, htb⟩ (c_Rv_tell_w l dC dI ct L f hO_0 q_10 m_10 _ p_0 p_1 p_2 c_2 (show ¬ (499 < p_0) from by have e0 := c_2; rw [Int32.lt_iff_toInt_lt] at e0; have e1 := c_3; rw [Int32.le_iff_toInt_le] at e1; have z0 : (0 : Int32).toInt = 0 := (by decide +kernel); have z1 : (499 : Int32).toInt = 499 := (by decide +kernel); have z2 : (500 : Int32).toInt = 500 := (by decide +kernel); rw [Int32.lt_iff_toInt_lt]; omega) c_5 (show ¬ (11 < p_1) from by have e0 := c_5; rw [Int32.lt_iff_toInt_lt] at e0; have e1 := c_6; rw [Int32.le_iff_toInt_le] at e1; have z0 : (0 : Int32).toInt = 0 := (by decide +kernel); have z1 : (11 : Int32).toInt = 11 := (by decide +kernel); have z2 : (12 : Int32).toInt = 12 := (by decide +kernel); rw [Int32.lt_iff_toInt_lt]; omega) _ hQ) (cwV 3 htb (gd_V tw_141 tw_142 tw_143 tw_140 tw_139) rfl rfl rfl (by decide +kernel) ⟨Nat.le_of_ble_eq_true rfl, Nat.le_of_ble_eq_true rfl⟩) ⟨pc_blind, tw_recv hK hP m_10 rfl rfl, pc_pre hP hK hD hN⟩ rfl rfl hl.1 rfl (lv_room (Nat.le_of_ble_eq_true rfl)) d_WM_level_30 ⟨Nat.le_of_ble_eq_true rfl, Nat.le_of_ble_eq_true rfl⟩) hS (fun q _ h => hFc q h) hFc (fun u t H locs ht hvm er hB hz1 hk1 hS => ?_)
              obtain ⟨L_1, f_1⟩ := u
              obtain ⟨hO_1, hE_1, er, hQ⟩ := er
              obtain ⟨hP, hK1, hD1⟩ := hB
              rw [ht] at hP
              have hP : va_P (dC, dI) vwCl (TW ct L_1 f_1) H := hP
              have hD : va_D A (TW ct L_1 f_1) := hD1.weaken (fun _ q _ h => hFc q.1 h)
              have hO_1 : Ok L_1 f_1 := hO_1
              have hE_1 : Ext W_Rv_tell_w L f L_1 f_1 := hE_1
              clear hK1 hD1 ht hvm hz1 hk1
              have hA_1 := hA_0.trans hE_1
              have hQ := hQ hO_1 hE_1
              clear er
              refine lv_iconst (v := 1) hx hb d_WM_level_33 (by decide +kernel) ?_
              refine W.widen (k := 1) (n := 12) (Nat.le_of_ble_eq_true rfl) (Nat.le_of_ble_eq_true rfl) ?_
              exact W.iret (v := 1) hx hb hr (fun t ht hW => ⟨⟨1, (L_1, f_1), rfl, ⟨hO_1, hA_1.mono (by decide +kernel), (Or.inl ⟨rfl, c_2, (show ¬ (499 < p_0) from by have e0 := c_2; rw [Int32.lt_iff_toInt_lt] at e0; have e1 := c_3; rw [Int32.le_iff_toInt_le] at e1; have z0 : (0 : Int32).toInt = 0 := (by decide +kernel); have z1 : (499 : Int32).toInt = 499 := (by decide +kernel); have z2 : (500 : Int32).toInt = 500 := (by decide +kernel); rw [Int32.lt_iff_toInt_lt]; omega), c_5, (show ¬ (11 < p_1) from by have e0 := c_5; rw [Int32.lt_iff_toInt_lt] at e0; have e1 := c_6; rw [Int32.le_iff_toInt_le] at e1; have z0 : (0 : Int32).toInt = 0 := (by decide +kernel); have z1 : (11 : Int32).toInt = 11 := (by decide +kernel); have z2 : (12 : Int32).toInt = 12 := (by decide +kernel); rw [Int32.lt_iff_toInt_lt]; omega), c_8, c_9, trivial⟩), hQ⟩, by rw [ht]; exact hP, va_K.moved hW.alike hK, by rw [hAe]; exact hD⟩, by rw [hAe]; exact hS.F ht⟩) (by rw [hAe]; exact hS.2.2) d_WM_level_34
def f_Md_isDay  (p_0 : Int32) : Int32 := if p_0 < 0 then (0) else (if 499 < p_0 then (0) else (1))
set_option maxHeartbeats 4000000 in
set_option maxRecDepth 100000 in
theorem c_Md_isDay (l : Launch)  (p_0 : Int32)  : Met l y_Md_isDay (.code y_Md_isDay b_Md_isDay 1 (some .boolean) :: TB) ({ frames := 1, cells := 0, slots := 0, locals := 22 }) (va_Pc [.int p_0] (fun _ => True)) (vp_Si (fun r => r = f_Md_isDay p_0)) 0 0 (fun _ => False) := by
  refine Met.ofW (cc := b_Md_isDay) (maxL := 1) (ret := (some .boolean)) (by decide) rfl ?_
  intro p e s m args below meth c s₁ B hml hv
  obtain ⟨rfl, -⟩ := hv
  have hx := B.exec
  have hb := B.bytes
  have hr := B.returns
  have hts := atoms_spec (ws := (.code y_Md_isDay b_Md_isDay 1 (some .boolean) :: TB)) B.pre
  have htb := fun w (h : w ∈ TB) => hts w (List.mem_cons_of_mem _ h)
  have hown : s.vm.findClass R_Md = some m.cls := findClass_of_methodNamed B.named
  have hlocks := B.notSynchronized
  have hl := lv_entry ([.int p_0]) (n := 1) (Nat.le_of_ble_eq_true rfl)
  rw [lg_entry_eq]
  generalize (lg_sl ([.int p_0]) ++ List.replicate (1 - (lg_sl ([.int p_0])).length) Slot.unset).toArray = ls at hl ⊢
  have hl : lv_has ls 1 [(0, .int p_0)] := hl
  refine lv_iload_n hx hb d_Md_isDay_0 rfl (lv_at hl 0 rfl) ?_
  refine lv_iconst (v := 0) hx hb d_Md_isDay_1 (by decide +kernel) ?_
  refine lv_sipush (v := 499) hx hb d_Md_isDay_2 (by decide +kernel) ?_
  refine vp_callSi (va_Run.run (va_runS (As := [.int p_0, .int 0, .int 499]) (rest := []) ⟨hx, hb, hml, hown, htb⟩ (c_Md_in l p_0 0 499) (cwS 3 htb (gd_S tw_90 tw_91 tw_89 tw_88) rfl rfl rfl (by decide +kernel) ⟨Nat.le_of_ble_eq_true rfl, Nat.le_of_ble_eq_true rfl⟩) ⟨fun _ _ _ _ h => h, fun U _ _ => ⟨rfl, trivial⟩⟩ rfl rfl hl.1 rfl (lv_room (Nat.le_of_ble_eq_true rfl)) d_Md_isDay_5 ⟨Nat.le_of_ble_eq_true rfl, Nat.le_of_ble_eq_true rfl⟩)) (fun r er => ?_)
  subst er
  by_cases c_2 : p_0 < 0
  · refine hb_ti 0 (by unfold f_Md_in; rw [if_pos c_2]) ?_
    exact W.zret (v := 0) hx hb hr (by decide +kernel) (fun t ht hW => ⟨0, rfl, (by unfold f_Md_isDay; rw [if_pos c_2]), ht⟩) t_nil d_Md_isDay_8
  · by_cases c_3 : 499 < p_0
    · refine hb_ti 0 (by unfold f_Md_in; rw [if_neg c_2, if_pos c_3]) ?_
      exact W.zret (v := 0) hx hb hr (by decide +kernel) (fun t ht hW => ⟨0, rfl, (by unfold f_Md_isDay; rw [if_neg c_2, if_pos c_3]), ht⟩) t_nil d_Md_isDay_8
    · refine hb_ti 1 (by unfold f_Md_in; rw [if_neg c_2, if_neg c_3]) ?_
      exact W.zret (v := 1) hx hb hr (by decide +kernel) (fun t ht hW => ⟨1, rfl, (by unfold f_Md_isDay; rw [if_neg c_2, if_neg c_3]), ht⟩) t_nil d_Md_isDay_8
def WL_Md_level_w_33_10 : List (Nat × Nat) := [(31, 1000)]
def W_Md_level_w : List (Nat × Nat) := [(30, 1000), (31, 1000)]
def wpB_Md_level_w_33_10 (L : List Nat) (f : TF) (q0 : Nat) (p_0 : Int32) (p_1 : Int32) (p_2 : Int32) (Q : Int32 → List Nat → TF → Prop) (rec_10 : Int32 → List Nat → TF → Prop) (v4_10 : Int32) (L_1 : List Nat) (f_1 : TF) : Prop := Ok L_1 f_1 → Ext WL_Md_level_w_33_10 L f L_1 f_1 → ((12 ≤ v4_10 → ∀ q_12 : Nat, tr f_1 q0 6 = some q_12 → ∀ f_2 : TF, f_2 = sI f_1 q_12 (p_0 : Int32).toNatClampNeg (vp_nar .boolean 1) → Ok L_1 f_2 → ∀ q_14 : Nat, tr f_2 q0 7 = some q_14 → ∀ f_3 : TF, f_3 = sI f_2 q_14 (((12 * p_0) + p_1) : Int32).toNatClampNeg p_2 → Ok L_1 f_3 → Q 1 L_1 f_3) ∧ (¬ (12 ≤ v4_10) → ∀ q_16 : Nat, tr f_1 q0 6 = some q_16 → ∀ x_17 : Int32, ti f_1 q_16 (p_0 : Int32).toNatClampNeg = x_17 → ((x_17 = 0 → ∀ q_22 : Nat, tr f_1 q0 7 = some q_22 → ∀ q_23 : Nat, tr f_1 q0 5 = some q_23 → ∀ y_24 : Int32, y_24 = (v4_10 + p_0) - (v4_10 + p_0) / 12 * 12 → ∀ x_25 : Int32, ti f_1 q_23 (y_24 : Int32).toNatClampNeg = x_25 → ∀ f_2 : TF, f_2 = sI f_1 q_22 (((12 * p_0) + v4_10) : Int32).toNatClampNeg x_25 → Ok L_1 f_2 → rec_10 (v4_10 + 1) L_1 f_2) ∧ (¬ (x_17 = 0) → ∀ f_2 : TF, f_2 = sI f_1 q_16 (p_0 : Int32).toNatClampNeg (vp_nar .boolean 1) → Ok L_1 f_2 → ∀ q_20 : Nat, tr f_2 q0 7 = some q_20 → ∀ f_3 : TF, f_3 = sI f_2 q_20 (((12 * p_0) + p_1) : Int32).toNatClampNeg p_2 → Ok L_1 f_3 → Q 1 L_1 f_3))))
def wpL_Md_level_w_33_10 (L : List Nat) (f : TF) (q0 : Nat) (p_0 : Int32) (p_1 : Int32) (p_2 : Int32) (Q : Int32 → List Nat → TF → Prop) : Nat → Int32 → List Nat → TF → Prop
  | 0 => fun v4_10 L_1 f_1 => wpB_Md_level_w_33_10 L f q0 p_0 p_1 p_2 Q (fun _ _ _ => True) v4_10 L_1 f_1
  | n + 1 => fun v4_10 L_1 f_1 => wpB_Md_level_w_33_10 L f q0 p_0 p_1 p_2 Q (wpL_Md_level_w_33_10 L f q0 p_0 p_1 p_2 Q n) v4_10 L_1 f_1
def wpR_Md_level_w_33_10 (L : List Nat) (f : TF) (q0 : Nat) (p_0 : Int32) (p_1 : Int32) (p_2 : Int32) (Q : Int32 → List Nat → TF → Prop) : Nat → Int32 → List Nat → TF → Prop
  | 0 => fun _ _ _ => True
  | n + 1 => wpL_Md_level_w_33_10 L f q0 p_0 p_1 p_2 Q n
theorem wpL_Md_level_w_33_10_eq {L : List Nat} {f : TF} {q0 : Nat} {p_0 : Int32} {p_1 : Int32} {p_2 : Int32} {Q : Int32 → List Nat → TF → Prop} {n : Nat} : wpL_Md_level_w_33_10 L f q0 p_0 p_1 p_2 Q n = wpB_Md_level_w_33_10 L f q0 p_0 p_1 p_2 Q (wpR_Md_level_w_33_10 L f q0 p_0 p_1 p_2 Q n) := by cases n <;> rfl
theorem wpR_Md_level_w_33_10_pos {L : List Nat} {f : TF} {q0 : Nat} {p_0 : Int32} {p_1 : Int32} {p_2 : Int32} {Q : Int32 → List Nat → TF → Prop} {n : Nat} (h : 0 < n) : wpR_Md_level_w_33_10 L f q0 p_0 p_1 p_2 Q n = wpL_Md_level_w_33_10 L f q0 p_0 p_1 p_2 Q (n - 1) := by
  cases n with
  | zero => omega
  | succ n => rfl
def wp_Md_level_w (L : List Nat) (f : TF) (q0 : Nat) (p_0 : Int32) (p_1 : Int32) (p_2 : Int32) (Q : Int32 → List Nat → TF → Prop) : Prop := ((p_0 < 0 → Q (-1) L f) ∧ (¬ (p_0 < 0) → ((499 < p_0 → Q (-1) L f) ∧ (¬ (499 < p_0) → ((p_1 < 0 → Q (-1) L f) ∧ (¬ (p_1 < 0) → ((11 < p_1 → Q (-1) L f) ∧ (¬ (11 < p_1) → ((p_2 < (-90) → Q (-1) L f) ∧ (¬ (p_2 < (-90)) → ((90 < p_2 → Q (-1) L f) ∧ (¬ (90 < p_2) → wpL_Md_level_w_33_10 L f q0 p_0 p_1 p_2 Q (((12 : Int32).toInt - (0 : Int32).toInt).toNat) (0 : Int32) L f))))))))))))
set_option maxHeartbeats 4000000 in
set_option maxRecDepth 100000 in
theorem c_Md_level_w (l : Launch) (dC : Nat → ClassId) (dI : Nat → Nat → Nat) (ct : Nat → ClassId) (L : List Nat) (f : TF) (hO_0 : Ok L f) (q0 : Nat) (m0 : q0 ∈ L ∧ tk f q0 = 27) (sz : Nat) (p_0 : Int32) (p_1 : Int32) (p_2 : Int32)   (Q : Int32 → List Nat → TF → Prop) (hQ : wp_Md_level_w L f q0 p_0 p_1 p_2 Q) : Met l y_Md_level (.code y_Md_level b_Md_level 5 (some .int) :: TB) ({ frames := 2, cells := 0, slots := 0, locals := 42 }) (va_Pc [.ref q0, .int p_0, .int p_1, .int p_2] (PC dC dI (TW ct L f) (TT ct) sz)) (va_Qi (fun r (u : TSt) => Ok u.1 u.2 ∧ Ext W_Md_level_w L f u.1 u.2 ∧ ((r = 1 ∧ ¬ (p_0 < 0) ∧ ¬ (499 < p_0) ∧ ¬ (p_1 < 0) ∧ ¬ (11 < p_1) ∧ ¬ (p_2 < (-90)) ∧ ¬ (90 < p_2) ∧ True) ∨ (r = (-1) ∧ p_0 < 0 ∧ True) ∨ (r = (-1) ∧ 499 < p_0 ∧ True) ∨ (r = (-1) ∧ p_1 < 0 ∧ True) ∨ (r = (-1) ∧ 11 < p_1 ∧ True) ∨ (r = (-1) ∧ p_2 < (-90) ∧ True) ∨ (r = (-1) ∧ 90 < p_2 ∧ True)) ∧ Q r u.1 u.2) (fun (u : TSt) t => va_P (dC, dI) vwCl (TW ct u.1 u.2) t.heap ∧ va_K (dC, dI) vwCl (TT ct) t ∧ va_D (va_A (TW ct L f) sz) (TW ct u.1 u.2)) (va_A (TW ct L f) sz)) 0 0 (va_A (TW ct L f) sz) := by
  refine Met.ofW (cc := b_Md_level) (maxL := 5) (ret := (some .int)) (by decide) rfl ?_
  intro p e s m args below meth c s₁ B hml hv
  obtain ⟨rfl, hsz, hP, hK, hD0, hN⟩ := hv
  have hx := B.exec
  have hb := B.bytes
  have hr := B.returns
  have hts := atoms_spec (ws := (.code y_Md_level b_Md_level 5 (some .int) :: TB)) B.pre
  have htb := fun w (h : w ∈ TB) => hts w (List.mem_cons_of_mem _ h)
  have hown : s.vm.findClass R_Md = some m.cls := findClass_of_methodNamed B.named
  have hlocks := B.notSynchronized
  have hl := lv_entry ([.ref q0, .int p_0, .int p_1, .int p_2]) (n := 5) (Nat.le_of_ble_eq_true rfl)
  rw [lg_entry_eq]
  generalize (lg_sl ([.ref q0, .int p_0, .int p_1, .int p_2]) ++ List.replicate (5 - (lg_sl ([.ref q0, .int p_0, .int p_1, .int p_2])).length) Slot.unset).toArray = ls at hl ⊢
  have hl : lv_has ls 5 [(0, .ref q0), (1, .int p_0), (2, .int p_1), (3, .int p_2)] := hl
  subst hsz
  have hD := hD0.self (sz := s.heap.size)
  obtain ⟨A, hAe⟩ : ∃ A, va_A (TW ct L f) s.heap.size = A := ⟨_, rfl⟩
  rw [hAe] at hD
  have hA : ∀ q : Nat, s.heap.size ≤ q → A q := fun q h => by rw [← hAe]; exact Or.inr h
  have hS : va_S A s.heap s.heap [] := va_S.rf
  have hA_0 : Ext [] L f L f := Ext.rf
  suffices hGo : ∀ (H : Heap) (locs : List Loc), va_P (dC, dI) vwCl (TW ct L f) H → va_S A s.heap H locs → W p l e (headSpec (.code y_Md_level b_Md_level 5 (some .int) :: TB) ({ frames := 2, cells := 0, slots := 0, locals := 42 })).room s m [.ref q0, .int p_0, .int p_1, .int p_2].toArray below meth c H locs 0 0 (MQ below (va_Qi (fun r (u : TSt) => Ok u.1 u.2 ∧ Ext W_Md_level_w L f u.1 u.2 ∧ ((r = 1 ∧ ¬ (p_0 < 0) ∧ ¬ (499 < p_0) ∧ ¬ (p_1 < 0) ∧ ¬ (11 < p_1) ∧ ¬ (p_2 < (-90)) ∧ ¬ (90 < p_2) ∧ True) ∨ (r = (-1) ∧ p_0 < 0 ∧ True) ∨ (r = (-1) ∧ 499 < p_0 ∧ True) ∨ (r = (-1) ∧ p_1 < 0 ∧ True) ∨ (r = (-1) ∧ 11 < p_1 ∧ True) ∨ (r = (-1) ∧ p_2 < (-90) ∧ True) ∨ (r = (-1) ∧ 90 < p_2 ∧ True)) ∧ Q r u.1 u.2) (fun (u : TSt) t => va_P (dC, dI) vwCl (TW ct u.1 u.2) t.heap ∧ va_K (dC, dI) vwCl (TT ct) t ∧ va_D (va_A (TW ct L f) s.heap.size) (TW ct u.1 u.2)) (va_A (TW ct L f) s.heap.size)) [.ref q0, .int p_0, .int p_1, .int p_2].toArray s 0 0 (va_A (TW ct L f) s.heap.size)) (F0 m 0 ls []) from hGo _ _ hP hS
  clear hP hS
  intro H locs hP hS
  unfold wp_Md_level_w at hQ
  refine lv_iload_n hx hb d_Md_level_0 rfl (lv_at hl 1 rfl) ?_
  refine vp_callSi (va_Run.run (va_runS (As := [.int p_0]) (rest := []) ⟨hx, hb, hml, hown, htb⟩ (c_Md_isDay l p_0) (cwS 1 htb (gd_S tw_145 tw_146 tw_89 tw_144) rfl rfl rfl (by decide +kernel) ⟨Nat.le_of_ble_eq_true rfl, Nat.le_of_ble_eq_true rfl⟩) ⟨fun _ _ _ _ h => h, fun U _ _ => ⟨rfl, trivial⟩⟩ rfl rfl hl.1 rfl (lv_room (Nat.le_of_ble_eq_true rfl)) d_Md_level_1 ⟨Nat.le_of_ble_eq_true rfl, Nat.le_of_ble_eq_true rfl⟩)) (fun r er => ?_)
  subst er
  by_cases c_2 : p_0 < 0
  · have hQ := hQ.1 c_2
    refine hb_ti 0 (by unfold f_Md_isDay; rw [if_pos c_2]; first | done | rfl) ?_
    refine lv_if_eq (tgt := 28) hx hb d_Md_level_4 (by decide) (fun _ => ?_) (fun h => absurd (by decide +kernel) h)
    refine lv_iconst (v := (-1)) hx hb d_Md_level_28 (by decide +kernel) ?_
    refine W.widen (k := 0) (n := 0) (Nat.le_of_ble_eq_true rfl) (Nat.le_of_ble_eq_true rfl) ?_
    exact W.iret (v := (-1)) hx hb hr (fun t ht hW => ⟨⟨(-1), (L, f), rfl, ⟨hO_0, hA_0.mono (by decide +kernel), (Or.inr (Or.inl ⟨rfl, c_2, trivial⟩)), hQ⟩, by rw [ht]; exact hP, va_K.moved hW.alike hK, by rw [hAe]; exact hD⟩, by rw [hAe]; exact hS.F ht⟩) (by rw [hAe]; exact hS.2.2) d_Md_level_29
  · have hQ := hQ.2 c_2
    by_cases c_3 : 499 < p_0
    · have hQ := hQ.1 c_3
      refine hb_ti 0 (by unfold f_Md_isDay; rw [if_neg c_2, if_pos c_3]; first | done | rfl) ?_
      refine lv_if_eq (tgt := 28) hx hb d_Md_level_4 (by decide) (fun _ => ?_) (fun h => absurd (by decide +kernel) h)
      refine lv_iconst (v := (-1)) hx hb d_Md_level_28 (by decide +kernel) ?_
      refine W.widen (k := 0) (n := 0) (Nat.le_of_ble_eq_true rfl) (Nat.le_of_ble_eq_true rfl) ?_
      exact W.iret (v := (-1)) hx hb hr (fun t ht hW => ⟨⟨(-1), (L, f), rfl, ⟨hO_0, hA_0.mono (by decide +kernel), (Or.inr (Or.inr (Or.inl ⟨rfl, c_3, trivial⟩))), hQ⟩, by rw [ht]; exact hP, va_K.moved hW.alike hK, by rw [hAe]; exact hD⟩, by rw [hAe]; exact hS.F ht⟩) (by rw [hAe]; exact hS.2.2) d_Md_level_29
    · have hQ := hQ.2 c_3
      refine hb_ti 1 (by unfold f_Md_isDay; rw [if_neg c_2, if_neg c_3]; first | done | rfl) ?_
      refine lv_if_eq (tgt := 28) hx hb d_Md_level_4 (by decide) (fun h => absurd h (by decide +kernel)) (fun _ => ?_)
      refine lv_iload_n hx hb d_Md_level_7 rfl (lv_at hl 2 rfl) ?_
      refine lv_iconst (v := 0) hx hb d_Md_level_8 (by decide +kernel) ?_
      refine lv_bipush (v := 11) hx hb d_Md_level_9 (by decide +kernel) ?_
      refine vp_callSi (va_Run.run (va_runS (As := [.int p_1, .int 0, .int 11]) (rest := []) ⟨hx, hb, hml, hown, htb⟩ (c_Md_in l p_1 0 11) (cwS 3 htb (gd_S tw_90 tw_91 tw_89 tw_88) rfl rfl rfl (by decide +kernel) ⟨Nat.le_of_ble_eq_true rfl, Nat.le_of_ble_eq_true rfl⟩) ⟨fun _ _ _ _ h => h, fun U _ _ => ⟨rfl, trivial⟩⟩ rfl rfl hl.1 rfl (lv_room (Nat.le_of_ble_eq_true rfl)) d_Md_level_11 ⟨Nat.le_of_ble_eq_true rfl, Nat.le_of_ble_eq_true rfl⟩)) (fun r er => ?_)
      subst er
      by_cases c_5 : p_1 < 0
      · have hQ := hQ.1 c_5
        refine hb_ti 0 (by unfold f_Md_in; rw [if_pos c_5]; first | done | rfl) ?_
        refine lv_if_eq (tgt := 28) hx hb d_Md_level_14 (by decide) (fun _ => ?_) (fun h => absurd (by decide +kernel) h)
        refine lv_iconst (v := (-1)) hx hb d_Md_level_28 (by decide +kernel) ?_
        refine W.widen (k := 0) (n := 0) (Nat.le_of_ble_eq_true rfl) (Nat.le_of_ble_eq_true rfl) ?_
        exact W.iret (v := (-1)) hx hb hr (fun t ht hW => ⟨⟨(-1), (L, f), rfl, ⟨hO_0, hA_0.mono (by decide +kernel), (Or.inr (Or.inr (Or.inr (Or.inl ⟨rfl, c_5, trivial⟩)))), hQ⟩, by rw [ht]; exact hP, va_K.moved hW.alike hK, by rw [hAe]; exact hD⟩, by rw [hAe]; exact hS.F ht⟩) (by rw [hAe]; exact hS.2.2) d_Md_level_29
      · have hQ := hQ.2 c_5
        by_cases c_6 : 11 < p_1
        · have hQ := hQ.1 c_6
          refine hb_ti 0 (by unfold f_Md_in; rw [if_neg c_5, if_pos c_6]; first | done | rfl) ?_
          refine lv_if_eq (tgt := 28) hx hb d_Md_level_14 (by decide) (fun _ => ?_) (fun h => absurd (by decide +kernel) h)
          refine lv_iconst (v := (-1)) hx hb d_Md_level_28 (by decide +kernel) ?_
          refine W.widen (k := 0) (n := 0) (Nat.le_of_ble_eq_true rfl) (Nat.le_of_ble_eq_true rfl) ?_
          exact W.iret (v := (-1)) hx hb hr (fun t ht hW => ⟨⟨(-1), (L, f), rfl, ⟨hO_0, hA_0.mono (by decide +kernel), (Or.inr (Or.inr (Or.inr (Or.inr (Or.inl ⟨rfl, c_6, trivial⟩))))), hQ⟩, by rw [ht]; exact hP, va_K.moved hW.alike hK, by rw [hAe]; exact hD⟩, by rw [hAe]; exact hS.F ht⟩) (by rw [hAe]; exact hS.2.2) d_Md_level_29
        · have hQ := hQ.2 c_6
          refine hb_ti 1 (by unfold f_Md_in; rw [if_neg c_5, if_neg c_6]; first | done | rfl) ?_
          refine lv_if_eq (tgt := 28) hx hb d_Md_level_14 (by decide) (fun h => absurd h (by decide +kernel)) (fun _ => ?_)
          refine lv_iload_n hx hb d_Md_level_17 rfl (lv_at hl 3 rfl) ?_
          refine lv_bipush (v := (-90)) hx hb d_Md_level_18 (by decide +kernel) ?_
          refine lv_bipush (v := 90) hx hb d_Md_level_20 (by decide +kernel) ?_
          refine vp_callSi (va_Run.run (va_runS (As := [.int p_2, .int (-90), .int 90]) (rest := []) ⟨hx, hb, hml, hown, htb⟩ (c_Md_in l p_2 (-90) 90) (cwS 3 htb (gd_S tw_90 tw_91 tw_89 tw_88) rfl rfl rfl (by decide +kernel) ⟨Nat.le_of_ble_eq_true rfl, Nat.le_of_ble_eq_true rfl⟩) ⟨fun _ _ _ _ h => h, fun U _ _ => ⟨rfl, trivial⟩⟩ rfl rfl hl.1 rfl (lv_room (Nat.le_of_ble_eq_true rfl)) d_Md_level_22 ⟨Nat.le_of_ble_eq_true rfl, Nat.le_of_ble_eq_true rfl⟩)) (fun r er => ?_)
          subst er
          by_cases c_8 : p_2 < (-90)
          · have hQ := hQ.1 c_8
            refine hb_ti 0 (by unfold f_Md_in; rw [if_pos c_8]; first | done | rfl) ?_
            refine lv_if_ne (tgt := 30) hx hb d_Md_level_25 (by decide) (fun h => absurd (by decide +kernel) h) (fun _ => ?_)
            refine lv_iconst (v := (-1)) hx hb d_Md_level_28 (by decide +kernel) ?_
            refine W.widen (k := 0) (n := 0) (Nat.le_of_ble_eq_true rfl) (Nat.le_of_ble_eq_true rfl) ?_
            exact W.iret (v := (-1)) hx hb hr (fun t ht hW => ⟨⟨(-1), (L, f), rfl, ⟨hO_0, hA_0.mono (by decide +kernel), (Or.inr (Or.inr (Or.inr (Or.inr (Or.inr (Or.inl ⟨rfl, c_8, trivial⟩)))))), hQ⟩, by rw [ht]; exact hP, va_K.moved hW.alike hK, by rw [hAe]; exact hD⟩, by rw [hAe]; exact hS.F ht⟩) (by rw [hAe]; exact hS.2.2) d_Md_level_29
          · have hQ := hQ.2 c_8
            by_cases c_9 : 90 < p_2
            · have hQ := hQ.1 c_9
              refine hb_ti 0 (by unfold f_Md_in; rw [if_neg c_8, if_pos c_9]; first | done | rfl) ?_
              refine lv_if_ne (tgt := 30) hx hb d_Md_level_25 (by decide) (fun h => absurd (by decide +kernel) h) (fun _ => ?_)
              refine lv_iconst (v := (-1)) hx hb d_Md_level_28 (by decide +kernel) ?_
              refine W.widen (k := 0) (n := 0) (Nat.le_of_ble_eq_true rfl) (Nat.le_of_ble_eq_true rfl) ?_
              exact W.iret (v := (-1)) hx hb hr (fun t ht hW => ⟨⟨(-1), (L, f), rfl, ⟨hO_0, hA_0.mono (by decide +kernel), (Or.inr (Or.inr (Or.inr (Or.inr (Or.inr (Or.inr ⟨rfl, c_9, trivial⟩)))))), hQ⟩, by rw [ht]; exact hP, va_K.moved hW.alike hK, by rw [hAe]; exact hD⟩, by rw [hAe]; exact hS.F ht⟩) (by rw [hAe]; exact hS.2.2) d_Md_level_29
            · have hQ := hQ.2 c_9
              refine hb_ti 1 (by unfold f_Md_in; rw [if_neg c_8, if_neg c_9]; first | done | rfl) ?_
              refine lv_if_ne (tgt := 30) hx hb d_Md_level_25 (by decide) (fun _ => ?_) (fun h => absurd h (by decide +kernel))
              refine lv_iconst (v := 0) hx hb d_Md_level_30 (by decide +kernel) ?_
              refine lv_istore (lv' := [(4, .int 0), (0, .ref q0), (1, .int p_0), (2, .int p_1), (3, .int p_2)]) hx hb d_Md_level_31 hl (by decide) rfl (fun ls hl => ?_)
              have cut_10 : ∀ (n_10 : Nat) (v4_10 : Int32) (L_1 : List Nat) (f_1 : TF) (H : Heap) (locs : List Loc) (ls : Array Slot), va_P (dC, dI) vwCl (TW ct L_1 f_1) H → va_D A (TW ct L_1 f_1) → va_S A s.heap H locs → Ok L_1 f_1 → Ext WL_Md_level_w_33_10 L f L_1 f_1 → ¬ (v4_10 < 0) → ¬ (12 < v4_10) → (12 : Int32).toInt - (v4_10 : Int32).toInt ≤ (n_10 : Int) → wpL_Md_level_w_33_10 L f q0 p_0 p_1 p_2 Q n_10 v4_10 L_1 f_1 → lv_has ls 5 [(0, .ref q0), (1, .int p_0), (2, .int p_1), (3, .int p_2), (4, .int v4_10)] → W p l e (headSpec (.code y_Md_level b_Md_level 5 (some .int) :: TB) ({ frames := 2, cells := 0, slots := 0, locals := 42 })).room s m [.ref q0, .int p_0, .int p_1, .int p_2].toArray below meth c H locs 0 0 (MQ below (va_Qi (fun r (u : TSt) => Ok u.1 u.2 ∧ Ext W_Md_level_w L f u.1 u.2 ∧ ((r = 1 ∧ ¬ (p_0 < 0) ∧ ¬ (499 < p_0) ∧ ¬ (p_1 < 0) ∧ ¬ (11 < p_1) ∧ ¬ (p_2 < (-90)) ∧ ¬ (90 < p_2) ∧ True) ∨ (r = (-1) ∧ p_0 < 0 ∧ True) ∨ (r = (-1) ∧ 499 < p_0 ∧ True) ∨ (r = (-1) ∧ p_1 < 0 ∧ True) ∨ (r = (-1) ∧ 11 < p_1 ∧ True) ∨ (r = (-1) ∧ p_2 < (-90) ∧ True) ∨ (r = (-1) ∧ 90 < p_2 ∧ True)) ∧ Q r u.1 u.2) (fun (u : TSt) t => va_P (dC, dI) vwCl (TW ct u.1 u.2) t.heap ∧ va_K (dC, dI) vwCl (TT ct) t ∧ va_D (va_A (TW ct L f) s.heap.size) (TW ct u.1 u.2)) (va_A (TW ct L f) s.heap.size)) [.ref q0, .int p_0, .int p_1, .int p_2].toArray s 0 0 (va_A (TW ct L f) s.heap.size)) (F0 m 33 ls []) := by
                intro n_10
                induction n_10 using Nat.strongRecOn with
                | _ n_10 ih_10 =>
                  intro v4_10 L_1 f_1 H locs ls hP hD hS hO_1 hE_1 iv0_10 iv1_10 hm_10 hQ hl
                  have hA_1 := hA_0.trans hE_1
                  rw [wpL_Md_level_w_33_10_eq] at hQ
                  obtain ⟨rec_10, hrec_10⟩ : ∃ g, wpR_Md_level_w_33_10 L f q0 p_0 p_1 p_2 Q n_10 = g := ⟨_, rfl⟩
                  rw [hrec_10] at hQ
                  unfold wpB_Md_level_w_33_10 at hQ
                  have hQ := hQ hO_1 hE_1
                  refine lv_iload hx hb d_Md_level_33 (lv_at hl 4 rfl) ?_
                  refine lv_bipush (v := 12) hx hb d_Md_level_35 (by decide +kernel) ?_
                  refine lv_icmp_ge (tgt := 79) hx hb d_Md_level_37 (by decide) (fun c_11 => ?_) (fun c_11 => ?_)
                  · have hQ := hQ.1 c_11
                    refine lv_aload_n hx hb d_Md_level_79 rfl (lv_at hl 0 rfl) ?_
                    refine tw_getr (D := (dC, dI)) (C := R_Md) (T := F_Md) (N := 64) (ci := 7) (kd := 27) (ct := ct) hx hb htb i_Md hown hK hP hO_1 (hA_1.m m0) rfl rfl 6 (by decide) (htb (.fieldLink R_Md 17 "WaterMenModel" "hasRow" "[Z") tw_147) (fun _ h9 => h9) rfl d_Md_level_80 (fun q_12 e_12 m_12 => ?_)
                    have hQ := hQ q_12 e_12
                    refine lv_iload_n hx hb d_Md_level_83 rfl (lv_at hl 1 rfl) ?_
                    refine lv_iconst (v := 1) hx hb d_Md_level_84 (by decide +kernel) ?_
                    refine tw_astZ (ct := ct) (x := 1) hx hb hK hP hD hS hO_1 m_12 rfl (hb_inl c_2 c_3 (by decide +kernel)) ⟨by decide +kernel, by decide +kernel⟩ d_Md_level_85 (fun f_2 H locs hP hD hS hO_2 hE_2 w_13 ow_13 hF_2 => ?_)
                    have hA_2 := hA_1.trans hE_2
                    have hQ := hQ f_2 hF_2
                    have hQ := hQ hO_2
                    refine lv_aload_n hx hb d_Md_level_86 rfl (lv_at hl 0 rfl) ?_
                    refine tw_getr (D := (dC, dI)) (C := R_Md) (T := F_Md) (N := 64) (ci := 7) (kd := 27) (ct := ct) hx hb htb i_Md hown hK hP hO_2 (hA_2.m m0) rfl rfl 7 (by decide) (htb (.fieldLink R_Md 21 "WaterMenModel" "rows" "[I") tw_148) (fun _ h9 => h9) rfl d_Md_level_87 (fun q_14 e_14 m_14 => ?_)
                    have hQ := hQ q_14 e_14
                    refine lv_bipush (v := 12) hx hb d_Md_level_90 (by decide +kernel) ?_
                    refine lv_iload_n hx hb d_Md_level_92 rfl (lv_at hl 1 rfl) ?_
                    refine lv_imul hx hb d_Md_level_93 ?_
                    refine lv_iload_n hx hb d_Md_level_94 rfl (lv_at hl 2 rfl) ?_
                    refine lv_iadd hx hb d_Md_level_95 ?_
                    refine lv_iload_n hx hb d_Md_level_96 rfl (lv_at hl 3 rfl) ?_
                    refine tw_astI (ct := ct) (x := p_2) hx hb hK hP hD hS hO_2 m_14 rfl ((fun (a_0 : Int32) (a_1 : Int32) (k_0 : ¬ (a_0 < 0)) (k_1 : ¬ (499 < a_0)) (k_2 : ¬ (a_1 < 0)) (k_3 : ¬ (11 < a_1)) => (show vp_in (((12 * a_0) + a_1)) 6000 from by have z0 : (0 : Int32).toInt = 0 := (by decide +kernel); have z1 : (11 : Int32).toInt = 11 := (by decide +kernel); have z2 : (12 : Int32).toInt = 12 := (by decide +kernel); have z3 : (499 : Int32).toInt = 499 := (by decide +kernel); have r0 := fb_rng (a_0); have r1 := fb_rng (a_1); have e0 := k_0; rw [Int32.lt_iff_toInt_lt, z0] at e0; have e1 := k_1; rw [Int32.lt_iff_toInt_lt, z3] at e1; have e2 := k_2; rw [Int32.lt_iff_toInt_lt, z0] at e2; have e3 := k_3; rw [Int32.lt_iff_toInt_lt, z1] at e3; obtain ⟨n_0, hn_0, s0⟩ := nd_mul (x := (12 : Int32)) (y := (a_0)) (by (try rw [z2]); omega) (by (try rw [z2]); omega); rw [z2] at s0; obtain ⟨n_1, hn_1, s1⟩ := nd_add (x := n_0) (y := (a_1)) (by omega) (by omega); rw [hn_0, hn_1, vp_in_iff]; omega)) p_0 p_1 c_2 c_3 c_5 c_6) (i32_full _) d_Md_level_97 (fun f_3 H locs hP hD hS hO_3 hE_3 w_15 ow_15 hF_3 => ?_)
                    have hA_3 := hA_2.trans hE_3
                    have hQ := hQ f_3 hF_3
                    have hQ := hQ hO_3
                    refine lv_iconst (v := 1) hx hb d_Md_level_98 (by decide +kernel) ?_
                    refine W.widen (k := 0) (n := 0) (Nat.le_of_ble_eq_true rfl) (Nat.le_of_ble_eq_true rfl) ?_
                    exact W.iret (v := 1) hx hb hr (fun t ht hW => ⟨⟨1, (L_1, f_3), rfl, ⟨hO_3, hA_3.mono (by decide +kernel), (Or.inl ⟨rfl, c_2, c_3, c_5, c_6, c_8, c_9, trivial⟩), hQ⟩, by rw [ht]; exact hP, va_K.moved hW.alike hK, by rw [hAe]; exact hD⟩, by rw [hAe]; exact hS.F ht⟩) (by rw [hAe]; exact hS.2.2) d_Md_level_99
                  · have hQ := hQ.2 c_11
                    refine lv_aload_n hx hb d_Md_level_40 rfl (lv_at hl 0 rfl) ?_
                    refine tw_getr (D := (dC, dI)) (C := R_Md) (T := F_Md) (N := 64) (ci := 7) (kd := 27) (ct := ct) hx hb htb i_Md hown hK hP hO_1 (hA_1.m m0) rfl rfl 6 (by decide) (htb (.fieldLink R_Md 17 "WaterMenModel" "hasRow" "[Z") tw_147) (fun _ h9 => h9) rfl d_Md_level_41 (fun q_16 e_16 m_16 => ?_)
                    have hQ := hQ q_16 e_16
                    refine lv_iload_n hx hb d_Md_level_44 rfl (lv_at hl 1 rfl) ?_
                    refine tw_aldZ (ct := ct) hx hb hK hP hO_1 m_16 rfl (hb_inl c_2 c_3 (by decide +kernel)) d_Md_level_45 (fun x_17 e_17 b_17 => ?_)
                    have hQ := hQ x_17 e_17
                    refine lv_if_ne (tgt := 79) hx hb d_Md_level_46 (by decide) (fun c_18 => ?_) (fun c_18 => ?_)
                    · have hQ := hQ.2 c_18
                      refine lv_aload_n hx hb d_Md_level_79 rfl (lv_at hl 0 rfl) ?_
                      refine tw_getR (D := (dC, dI)) (C := R_Md) (T := F_Md) (N := 64) (ci := 7) (kd := 27) (ct := ct) hx hb htb i_Md hown hK hP (hA_1.m m0) rfl rfl 6 e_16 (by decide) (htb (.fieldLink R_Md 17 "WaterMenModel" "hasRow" "[Z") tw_147) (fun _ h9 => h9) rfl d_Md_level_80 ?_
                      refine hb_tv (.ref q_16) rfl ?_
                      refine lv_iload_n hx hb d_Md_level_83 rfl (lv_at hl 1 rfl) ?_
                      refine lv_iconst (v := 1) hx hb d_Md_level_84 (by decide +kernel) ?_
                      refine tw_astZ (ct := ct) (x := 1) hx hb hK hP hD hS hO_1 m_16 rfl (hb_inl c_2 c_3 (by decide +kernel)) ⟨by decide +kernel, by decide +kernel⟩ d_Md_level_85 (fun f_2 H locs hP hD hS hO_2 hE_2 w_19 ow_19 hF_2 => ?_)
                      have hA_2 := hA_1.trans hE_2
                      have hQ := hQ f_2 hF_2
                      have hQ := hQ hO_2
                      refine lv_aload_n hx hb d_Md_level_86 rfl (lv_at hl 0 rfl) ?_
                      refine tw_getr (D := (dC, dI)) (C := R_Md) (T := F_Md) (N := 64) (ci := 7) (kd := 27) (ct := ct) hx hb htb i_Md hown hK hP hO_2 (hA_2.m m0) rfl rfl 7 (by decide) (htb (.fieldLink R_Md 21 "WaterMenModel" "rows" "[I") tw_148) (fun _ h9 => h9) rfl d_Md_level_87 (fun q_20 e_20 m_20 => ?_)
                      have hQ := hQ q_20 e_20
                      refine lv_bipush (v := 12) hx hb d_Md_level_90 (by decide +kernel) ?_
                      refine lv_iload_n hx hb d_Md_level_92 rfl (lv_at hl 1 rfl) ?_
                      refine lv_imul hx hb d_Md_level_93 ?_
                      refine lv_iload_n hx hb d_Md_level_94 rfl (lv_at hl 2 rfl) ?_
                      refine lv_iadd hx hb d_Md_level_95 ?_
                      refine lv_iload_n hx hb d_Md_level_96 rfl (lv_at hl 3 rfl) ?_
                      refine tw_astI (ct := ct) (x := p_2) hx hb hK hP hD hS hO_2 m_20 rfl ((fun (a_0 : Int32) (a_1 : Int32) (k_0 : ¬ (a_0 < 0)) (k_1 : ¬ (499 < a_0)) (k_2 : ¬ (a_1 < 0)) (k_3 : ¬ (11 < a_1)) => (show vp_in (((12 * a_0) + a_1)) 6000 from by have z0 : (0 : Int32).toInt = 0 := (by decide +kernel); have z1 : (11 : Int32).toInt = 11 := (by decide +kernel); have z2 : (12 : Int32).toInt = 12 := (by decide +kernel); have z3 : (499 : Int32).toInt = 499 := (by decide +kernel); have r0 := fb_rng (a_0); have r1 := fb_rng (a_1); have e0 := k_0; rw [Int32.lt_iff_toInt_lt, z0] at e0; have e1 := k_1; rw [Int32.lt_iff_toInt_lt, z3] at e1; have e2 := k_2; rw [Int32.lt_iff_toInt_lt, z0] at e2; have e3 := k_3; rw [Int32.lt_iff_toInt_lt, z1] at e3; obtain ⟨n_0, hn_0, s0⟩ := nd_mul (x := (12 : Int32)) (y := (a_0)) (by (try rw [z2]); omega) (by (try rw [z2]); omega); rw [z2] at s0; obtain ⟨n_1, hn_1, s1⟩ := nd_add (x := n_0) (y := (a_1)) (by omega) (by omega); rw [hn_0, hn_1, vp_in_iff]; omega)) p_0 p_1 c_2 c_3 c_5 c_6) (i32_full _) d_Md_level_97 (fun f_3 H locs hP hD hS hO_3 hE_3 w_21 ow_21 hF_3 => ?_)
                      have hA_3 := hA_2.trans hE_3
                      have hQ := hQ f_3 hF_3
                      have hQ := hQ hO_3
                      refine lv_iconst (v := 1) hx hb d_Md_level_98 (by decide +kernel) ?_
                      refine W.widen (k := 0) (n := 0) (Nat.le_of_ble_eq_true rfl) (Nat.le_of_ble_eq_true rfl) ?_
                      exact W.iret (v := 1) hx hb hr (fun t ht hW => ⟨⟨1, (L_1, f_3), rfl, ⟨hO_3, hA_3.mono (by decide +kernel), (Or.inl ⟨rfl, c_2, c_3, c_5, c_6, c_8, c_9, trivial⟩), hQ⟩, by rw [ht]; exact hP, va_K.moved hW.alike hK, by rw [hAe]; exact hD⟩, by rw [hAe]; exact hS.F ht⟩) (by rw [hAe]; exact hS.2.2) d_Md_level_99
                    · have hQ := hQ.1 c_18
                      refine lv_aload_n hx hb d_Md_level_49 rfl (lv_at hl 0 rfl) ?_
                      refine tw_getr (D := (dC, dI)) (C := R_Md) (T := F_Md) (N := 64) (ci := 7) (kd := 27) (ct := ct) hx hb htb i_Md hown hK hP hO_1 (hA_1.m m0) rfl rfl 7 (by decide) (htb (.fieldLink R_Md 21 "WaterMenModel" "rows" "[I") tw_148) (fun _ h9 => h9) rfl d_Md_level_50 (fun q_22 e_22 m_22 => ?_)
                      have hQ := hQ q_22 e_22
                      refine lv_bipush (v := 12) hx hb d_Md_level_53 (by decide +kernel) ?_
                      refine lv_iload_n hx hb d_Md_level_55 rfl (lv_at hl 1 rfl) ?_
                      refine lv_imul hx hb d_Md_level_56 ?_
                      refine lv_iload hx hb d_Md_level_57 (lv_at hl 4 rfl) ?_
                      refine lv_iadd hx hb d_Md_level_59 ?_
                      refine lv_aload_n hx hb d_Md_level_60 rfl (lv_at hl 0 rfl) ?_
                      refine tw_getr (D := (dC, dI)) (C := R_Md) (T := F_Md) (N := 64) (ci := 7) (kd := 27) (ct := ct) hx hb htb i_Md hown hK hP hO_1 (hA_1.m m0) rfl rfl 5 (by decide) (htb (.fieldLink R_Md 25 "WaterMenModel" "table" "[I") tw_149) (fun _ h9 => h9) rfl d_Md_level_61 (fun q_23 e_23 m_23 => ?_)
                      have hQ := hQ q_23 e_23
                      refine lv_iload hx hb d_Md_level_64 (lv_at hl 4 rfl) ?_
                      refine lv_iload_n hx hb d_Md_level_66 rfl (lv_at hl 1 rfl) ?_
                      refine lv_iadd hx hb d_Md_level_67 ?_
                      refine lv_bipush (v := 12) hx hb d_Md_level_68 (by decide +kernel) ?_
                      refine lv_irem hx hb d_Md_level_70 (by decide) ?_
                      refine hb_remn (c := 12) (C1 := 11) (K := 2147483635) (by decide +kernel) (by decide +kernel) (by decide +kernel) (show ¬ ((v4_10 + p_0) < 0) from ((fun (a_0 : Int32) (a_1 : Int32) (k_0 : ¬ (a_0 < 0)) (k_1 : ¬ (499 < a_0)) (k_2 : ¬ (a_1 < 0)) (k_3 : ¬ (12 ≤ a_1)) => (show ¬ ((a_1 + a_0) < 0) from by have z0 : (0 : Int32).toInt = 0 := (by decide +kernel); have z1 : (12 : Int32).toInt = 12 := (by decide +kernel); have z2 : (499 : Int32).toInt = 499 := (by decide +kernel); have r0 := fb_rng (a_0); have r1 := fb_rng (a_1); have e0 := k_0; rw [Int32.lt_iff_toInt_lt, z0] at e0; have e1 := k_1; rw [Int32.lt_iff_toInt_lt, z2] at e1; have e2 := k_2; rw [Int32.lt_iff_toInt_lt, z0] at e2; have e3 := k_3; rw [Int32.le_iff_toInt_le, z1] at e3; obtain ⟨n_0, hn_0, s0⟩ := nd_add (x := (a_1)) (y := (a_0)) (by omega) (by omega); rw [hn_0, Int32.lt_iff_toInt_lt, z0]; omega)) p_0 v4_10 c_2 c_3 iv0_10 c_11)) (show ¬ (2147483635 < (v4_10 + p_0)) from ((fun (a_0 : Int32) (a_1 : Int32) (k_0 : ¬ (499 < a_0)) (k_1 : ¬ (a_1 < 0)) (k_2 : ¬ (12 ≤ a_1)) => (show ¬ (2147483635 < (a_1 + a_0)) from by have z0 : (0 : Int32).toInt = 0 := (by decide +kernel); have z1 : (12 : Int32).toInt = 12 := (by decide +kernel); have z2 : (499 : Int32).toInt = 499 := (by decide +kernel); have z3 : (2147483635 : Int32).toInt = 2147483635 := (by decide +kernel); have r0 := fb_rng (a_0); have r1 := fb_rng (a_1); have e0 := k_0; rw [Int32.lt_iff_toInt_lt, z2] at e0; have e1 := k_1; rw [Int32.lt_iff_toInt_lt, z0] at e1; have e2 := k_2; rw [Int32.le_iff_toInt_le, z1] at e2; obtain ⟨n_0, hn_0, s0⟩ := nd_add (x := (a_1)) (y := (a_0)) (by omega) (by omega); rw [hn_0, Int32.lt_iff_toInt_lt, z3]; omega)) p_0 v4_10 c_3 iv0_10 c_11)) (fun y_24 qu_24 g1_24 g2_24 g3_24 g4_24 g5_24 g9_24 => ?_)
                      have hQ := hQ y_24 g9_24
                      refine tw_aldI (ct := ct) hx hb hK hP hO_1 m_23 rfl (hb_inl g1_24 g2_24 (by decide +kernel)) d_Md_level_71 (fun x_25 e_25 b_25 => ?_)
                      have hQ := hQ x_25 e_25
                      refine tw_astI (ct := ct) (x := x_25) hx hb hK hP hD hS hO_1 m_22 rfl ((fun (a_0 : Int32) (a_1 : Int32) (a_2 : Int32) (k_0 : ¬ (a_0 < 0)) (k_1 : ¬ (499 < a_0)) (k_2 : ¬ (12 ≤ a_2)) (k_3 : ¬ ((a_2 + a_0) < a_1)) (k_4 : ¬ (a_1 < 0)) => (show vp_in (((12 * a_0) + a_2)) 6000 from by have z0 : (0 : Int32).toInt = 0 := (by decide +kernel); have z1 : (12 : Int32).toInt = 12 := (by decide +kernel); have z2 : (499 : Int32).toInt = 499 := (by decide +kernel); have r0 := fb_rng (a_0); have r1 := fb_rng (a_1); have r2 := fb_rng (a_2); have e0 := k_0; rw [Int32.lt_iff_toInt_lt, z0] at e0; have e1 := k_1; rw [Int32.lt_iff_toInt_lt, z2] at e1; have e2 := k_2; rw [Int32.le_iff_toInt_le, z1] at e2; obtain ⟨n_0, hn_0, s0⟩ := nd_add (x := (a_2)) (y := (a_0)) (by omega) (by omega); have e3 := k_3; rw [hn_0, Int32.lt_iff_toInt_lt] at e3; have e4 := k_4; rw [Int32.lt_iff_toInt_lt, z0] at e4; obtain ⟨n_1, hn_1, s1⟩ := nd_mul (x := (12 : Int32)) (y := (a_0)) (by (try rw [z1]); omega) (by (try rw [z1]); omega); rw [z1] at s1; obtain ⟨n_2, hn_2, s2⟩ := nd_add (x := n_1) (y := (a_2)) (by omega) (by omega); rw [hn_1, hn_2, vp_in_iff]; omega)) p_0 qu_24 v4_10 c_2 c_3 c_11 g4_24 g3_24) (i32_full _) d_Md_level_72 (fun f_2 H locs hP hD hS hO_2 hE_2 w_26 ow_26 hF_2 => ?_)
                      have hA_2 := hA_1.trans hE_2
                      have hQ := hQ f_2 hF_2
                      have hQ := hQ hO_2
                      refine lv_iinc (v := (v4_10 + 1)) (lv' := [(4, .int (v4_10 + 1)), (0, .ref q0), (1, .int p_0), (2, .int p_1), (3, .int p_2)]) hx hb d_Md_level_73 hl (k := 4) rfl rfl (by decide) rfl (fun ls hl => ?_)
                      refine lv_goto (tgt := 33) hx hb d_Md_level_76 (by decide) ?_
                      exact ih_10 (n_10 - 1) (ms_1 ((fun (a_0 : Int32) (k_0 : ¬ (12 ≤ a_0)) => (show 1 ≤ (12 : Int32).toInt - (a_0).toInt ∧ (12 : Int32).toInt - ((a_0) + (1 : Int32)).toInt + 1 ≤ (12 : Int32).toInt - (a_0).toInt from by have z0 : (1 : Int32).toInt = 1 := (by decide +kernel); have z1 : (12 : Int32).toInt = 12 := (by decide +kernel); have r0 := fb_rng (a_0); have e0 := k_0; rw [Int32.le_iff_toInt_le, z1] at e0; obtain ⟨n_0, hn_0, s0⟩ := nd_add (x := (a_0)) (y := (1 : Int32)) (by (try rw [z0]); omega) (by (try rw [z0]); omega); rw [z0] at s0; rw [hn_0]; (try rw [z1]); omega)) v4_10 c_11) hm_10) (v4_10 + 1) _ _ _ _ _ hP hD hS hO_2 ((hE_1.trans hE_2).mono (by decide +kernel)) (show ¬ ((v4_10 + 1) < 0) from by have e0 := iv0_10; rw [Int32.lt_iff_toInt_lt] at e0; have e1 := c_11; rw [Int32.le_iff_toInt_le] at e1; have z0 : (0 : Int32).toInt = 0 := (by decide +kernel); have z1 : (1 : Int32).toInt = 1 := (by decide +kernel); have z2 : (12 : Int32).toInt = 12 := (by decide +kernel); have ss := fb_addI (x := v4_10) (y := 1) (by omega) (by omega); rw [Int32.lt_iff_toInt_lt]; omega) (show ¬ (12 < (v4_10 + 1)) from by have e0 := iv0_10; rw [Int32.lt_iff_toInt_lt] at e0; have e1 := c_11; rw [Int32.le_iff_toInt_le] at e1; have z0 : (0 : Int32).toInt = 0 := (by decide +kernel); have z1 : (1 : Int32).toInt = 1 := (by decide +kernel); have z2 : (12 : Int32).toInt = 12 := (by decide +kernel); have ss := fb_addI (x := v4_10) (y := 1) (by omega) (by omega); rw [Int32.lt_iff_toInt_lt]; omega) (by exact ms_2 ((fun (a_0 : Int32) (k_0 : ¬ (12 ≤ a_0)) => (show 1 ≤ (12 : Int32).toInt - (a_0).toInt ∧ (12 : Int32).toInt - ((a_0) + (1 : Int32)).toInt + 1 ≤ (12 : Int32).toInt - (a_0).toInt from by have z0 : (1 : Int32).toInt = 1 := (by decide +kernel); have z1 : (12 : Int32).toInt = 12 := (by decide +kernel); have r0 := fb_rng (a_0); have e0 := k_0; rw [Int32.le_iff_toInt_le, z1] at e0; obtain ⟨n_0, hn_0, s0⟩ := nd_add (x := (a_0)) (y := (1 : Int32)) (by (try rw [z0]); omega) (by (try rw [z0]); omega); rw [z0] at s0; rw [hn_0]; (try rw [z1]); omega)) v4_10 c_11) hm_10) (by rw [← hrec_10, wpR_Md_level_w_33_10_pos (ms_3 ((fun (a_0 : Int32) (k_0 : ¬ (12 ≤ a_0)) => (show 1 ≤ (12 : Int32).toInt - (a_0).toInt ∧ (12 : Int32).toInt - ((a_0) + (1 : Int32)).toInt + 1 ≤ (12 : Int32).toInt - (a_0).toInt from by have z0 : (1 : Int32).toInt = 1 := (by decide +kernel); have z1 : (12 : Int32).toInt = 12 := (by decide +kernel); have r0 := fb_rng (a_0); have e0 := k_0; rw [Int32.le_iff_toInt_le, z1] at e0; obtain ⟨n_0, hn_0, s0⟩ := nd_add (x := (a_0)) (y := (1 : Int32)) (by (try rw [z0]); omega) (by (try rw [z0]); omega); rw [z0] at s0; rw [hn_0]; (try rw [z1]); omega)) v4_10 c_11) hm_10)] at hQ; exact hQ) (lv_sub hl [1, 2, 3, 4, 0] rfl)
              exact cut_10 ((12 : Int32).toInt - (0 : Int32).toInt).toNat (0 : Int32) _ _ _ _ _ hP hD hS hO_0 Ext.rf (by decide +kernel) (by decide +kernel) (by exact ms_e _ _) hQ (lv_sub hl [1, 2, 3, 4, 0] rfl)
