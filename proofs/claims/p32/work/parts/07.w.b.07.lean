def WL_Md_part_w_52_6 : List (Nat × Nat) := [(39, 1000), (42, 1000)]
def WL_Md_part_w_52_31 : List (Nat × Nat) := [(39, 1000), (42, 1000)]
def W_Md_part_w : List (Nat × Nat) := [(27, 56), (27, 57), (39, 1000), (42, 1000), (71, 1000)]
def wpB_Md_part_w_52_6 (L : List Nat) (f : TF) (q0 : Nat) (p_0 : Int32) (v2_1 : Int32) (v3_1 : Int32) (rec_1 : Int32 → Int32 → Prop) (x_4 : Int64) (y_5 : Int64) (Q : List Nat → TF → Prop) (rec_6 : Int32 → List Nat → TF → Prop) (v5_6 : Int32) (L_1 : List Nat) (f_1 : TF) : Prop := Ok L_1 f_1 → Ext WL_Md_part_w_52_6 L f L_1 f_1 → ((40 ≤ v5_6 → ∀ x_8 : Int64, tl f_1 q0 56 = x_8 → ∀ x_9 : Int64, tl f_1 q0 57 = x_9 → ∀ y_10 : Int64, y_10 = (y_5 : Int64) * ((v2_1 : Int32).toInt64 : Int64) → ∀ y_11 : Int64, y_11 = (x_9 : Int64) - (y_10 : Int64) → ∀ y_12 : Int64, y_12 = (x_8 : Int64) + (y_11 : Int64) → ∀ f_2 : TF, f_2 = sL f_1 q0 56 y_12 → Ok L_1 f_2 → ∀ q_14 : Nat, tr f_2 q0 59 = some q_14 → ∀ x_15 : Int64, tl f_2 q_14 (p_0 : Int32).toNatClampNeg = x_15 → ∀ x_16 : Int64, tl f_2 q0 57 = x_16 → ∀ y_17 : Int64, y_17 = (y_5 : Int64) * ((v2_1 : Int32).toInt64 : Int64) → ∀ y_18 : Int64, y_18 = (x_16 : Int64) - (y_17 : Int64) → ∀ y_19 : Int64, y_19 = (x_15 : Int64) + (y_18 : Int64) → ∀ f_3 : TF, f_3 = sL f_2 q_14 (p_0 : Int32).toNatClampNeg y_19 → Ok L_1 f_3 → ∀ f_4 : TF, f_4 = sL f_3 q0 57 0 → Ok L_1 f_4 → Q L_1 f_4) ∧ (¬ (40 ≤ v5_6) → ∀ q_22 : Nat, tr f_1 q0 18 = some q_22 → ∀ x_23 : Int32, ti f_1 q_22 (v5_6 : Int32).toNatClampNeg = x_23 → ((x_23 = 0 → ∀ f_2 : TF, f_2 = sI f_1 q_22 (v5_6 : Int32).toNatClampNeg (vp_nar .boolean 0) → Ok L_1 f_2 → rec_6 (v5_6 + 1) L_1 f_2) ∧ (¬ (x_23 = 0) → ∀ q_26 : Nat, tr f_1 q0 15 = some q_26 → ∀ x_27 : Int32, ti f_1 q_26 (v5_6 : Int32).toNatClampNeg = x_27 → ∀ y_28 : Int32, y_28 = (y_5 : Int64).toInt32 → ∀ f_2 : TF, f_2 = sI f_1 q_26 (v5_6 : Int32).toNatClampNeg (x_27 + y_28) → Ok L_1 f_2 → ∀ f_3 : TF, f_3 = sI f_2 q_22 (v5_6 : Int32).toNatClampNeg (vp_nar .boolean 0) → Ok L_1 f_3 → rec_6 (v5_6 + 1) L_1 f_3))))
def wpL_Md_part_w_52_6 (L : List Nat) (f : TF) (q0 : Nat) (p_0 : Int32) (v2_1 : Int32) (v3_1 : Int32) (rec_1 : Int32 → Int32 → Prop) (x_4 : Int64) (y_5 : Int64) (Q : List Nat → TF → Prop) : Nat → Int32 → List Nat → TF → Prop
  | 0 => fun v5_6 L_1 f_1 => wpB_Md_part_w_52_6 L f q0 p_0 v2_1 v3_1 rec_1 x_4 y_5 Q (fun _ _ _ => True) v5_6 L_1 f_1
  | n + 1 => fun v5_6 L_1 f_1 => wpB_Md_part_w_52_6 L f q0 p_0 v2_1 v3_1 rec_1 x_4 y_5 Q (wpL_Md_part_w_52_6 L f q0 p_0 v2_1 v3_1 rec_1 x_4 y_5 Q n) v5_6 L_1 f_1
def wpR_Md_part_w_52_6 (L : List Nat) (f : TF) (q0 : Nat) (p_0 : Int32) (v2_1 : Int32) (v3_1 : Int32) (rec_1 : Int32 → Int32 → Prop) (x_4 : Int64) (y_5 : Int64) (Q : List Nat → TF → Prop) : Nat → Int32 → List Nat → TF → Prop
  | 0 => fun _ _ _ => True
  | n + 1 => wpL_Md_part_w_52_6 L f q0 p_0 v2_1 v3_1 rec_1 x_4 y_5 Q n
theorem wpL_Md_part_w_52_6_eq {L : List Nat} {f : TF} {q0 : Nat} {p_0 : Int32} {v2_1 : Int32} {v3_1 : Int32} {rec_1 : Int32 → Int32 → Prop} {x_4 : Int64} {y_5 : Int64} {Q : List Nat → TF → Prop} {n : Nat} : wpL_Md_part_w_52_6 L f q0 p_0 v2_1 v3_1 rec_1 x_4 y_5 Q n = wpB_Md_part_w_52_6 L f q0 p_0 v2_1 v3_1 rec_1 x_4 y_5 Q (wpR_Md_part_w_52_6 L f q0 p_0 v2_1 v3_1 rec_1 x_4 y_5 Q n) := by cases n <;> rfl
theorem wpR_Md_part_w_52_6_pos {L : List Nat} {f : TF} {q0 : Nat} {p_0 : Int32} {v2_1 : Int32} {v3_1 : Int32} {rec_1 : Int32 → Int32 → Prop} {x_4 : Int64} {y_5 : Int64} {Q : List Nat → TF → Prop} {n : Nat} (h : 0 < n) : wpR_Md_part_w_52_6 L f q0 p_0 v2_1 v3_1 rec_1 x_4 y_5 Q n = wpL_Md_part_w_52_6 L f q0 p_0 v2_1 v3_1 rec_1 x_4 y_5 Q (n - 1) := by
  cases n with
  | zero => omega
  | succ n => rfl
def wpB_Md_part_w_52_31 (L : List Nat) (f : TF) (q0 : Nat) (p_0 : Int32) (v2_1 : Int32) (v3_1 : Int32) (rec_1 : Int32 → Int32 → Prop) (Q : List Nat → TF → Prop) (rec_31 : Int32 → List Nat → TF → Prop) (v5_31 : Int32) (L_1 : List Nat) (f_1 : TF) : Prop := Ok L_1 f_1 → Ext WL_Md_part_w_52_31 L f L_1 f_1 → ((40 ≤ v5_31 → ∀ x_33 : Int64, tl f_1 q0 56 = x_33 → ∀ x_34 : Int64, tl f_1 q0 57 = x_34 → ∀ y_35 : Int64, y_35 = (0 : Int64) * ((v2_1 : Int32).toInt64 : Int64) → ∀ y_36 : Int64, y_36 = (x_34 : Int64) - (y_35 : Int64) → ∀ y_37 : Int64, y_37 = (x_33 : Int64) + (y_36 : Int64) → ∀ f_2 : TF, f_2 = sL f_1 q0 56 y_37 → Ok L_1 f_2 → ∀ q_39 : Nat, tr f_2 q0 59 = some q_39 → ∀ x_40 : Int64, tl f_2 q_39 (p_0 : Int32).toNatClampNeg = x_40 → ∀ x_41 : Int64, tl f_2 q0 57 = x_41 → ∀ y_42 : Int64, y_42 = (0 : Int64) * ((v2_1 : Int32).toInt64 : Int64) → ∀ y_43 : Int64, y_43 = (x_41 : Int64) - (y_42 : Int64) → ∀ y_44 : Int64, y_44 = (x_40 : Int64) + (y_43 : Int64) → ∀ f_3 : TF, f_3 = sL f_2 q_39 (p_0 : Int32).toNatClampNeg y_44 → Ok L_1 f_3 → ∀ f_4 : TF, f_4 = sL f_3 q0 57 0 → Ok L_1 f_4 → Q L_1 f_4) ∧ (¬ (40 ≤ v5_31) → ∀ q_47 : Nat, tr f_1 q0 18 = some q_47 → ∀ x_48 : Int32, ti f_1 q_47 (v5_31 : Int32).toNatClampNeg = x_48 → ((x_48 = 0 → ∀ f_2 : TF, f_2 = sI f_1 q_47 (v5_31 : Int32).toNatClampNeg (vp_nar .boolean 0) → Ok L_1 f_2 → rec_31 (v5_31 + 1) L_1 f_2) ∧ (¬ (x_48 = 0) → ∀ q_51 : Nat, tr f_1 q0 15 = some q_51 → ∀ x_52 : Int32, ti f_1 q_51 (v5_31 : Int32).toNatClampNeg = x_52 → ∀ y_53 : Int32, y_53 = (0 : Int64).toInt32 → ∀ f_2 : TF, f_2 = sI f_1 q_51 (v5_31 : Int32).toNatClampNeg (x_52 + y_53) → Ok L_1 f_2 → ∀ f_3 : TF, f_3 = sI f_2 q_47 (v5_31 : Int32).toNatClampNeg (vp_nar .boolean 0) → Ok L_1 f_3 → rec_31 (v5_31 + 1) L_1 f_3))))
def wpL_Md_part_w_52_31 (L : List Nat) (f : TF) (q0 : Nat) (p_0 : Int32) (v2_1 : Int32) (v3_1 : Int32) (rec_1 : Int32 → Int32 → Prop) (Q : List Nat → TF → Prop) : Nat → Int32 → List Nat → TF → Prop
  | 0 => fun v5_31 L_1 f_1 => wpB_Md_part_w_52_31 L f q0 p_0 v2_1 v3_1 rec_1 Q (fun _ _ _ => True) v5_31 L_1 f_1
  | n + 1 => fun v5_31 L_1 f_1 => wpB_Md_part_w_52_31 L f q0 p_0 v2_1 v3_1 rec_1 Q (wpL_Md_part_w_52_31 L f q0 p_0 v2_1 v3_1 rec_1 Q n) v5_31 L_1 f_1
def wpR_Md_part_w_52_31 (L : List Nat) (f : TF) (q0 : Nat) (p_0 : Int32) (v2_1 : Int32) (v3_1 : Int32) (rec_1 : Int32 → Int32 → Prop) (Q : List Nat → TF → Prop) : Nat → Int32 → List Nat → TF → Prop
  | 0 => fun _ _ _ => True
  | n + 1 => wpL_Md_part_w_52_31 L f q0 p_0 v2_1 v3_1 rec_1 Q n
theorem wpL_Md_part_w_52_31_eq {L : List Nat} {f : TF} {q0 : Nat} {p_0 : Int32} {v2_1 : Int32} {v3_1 : Int32} {rec_1 : Int32 → Int32 → Prop} {Q : List Nat → TF → Prop} {n : Nat} : wpL_Md_part_w_52_31 L f q0 p_0 v2_1 v3_1 rec_1 Q n = wpB_Md_part_w_52_31 L f q0 p_0 v2_1 v3_1 rec_1 Q (wpR_Md_part_w_52_31 L f q0 p_0 v2_1 v3_1 rec_1 Q n) := by cases n <;> rfl
theorem wpR_Md_part_w_52_31_pos {L : List Nat} {f : TF} {q0 : Nat} {p_0 : Int32} {v2_1 : Int32} {v3_1 : Int32} {rec_1 : Int32 → Int32 → Prop} {Q : List Nat → TF → Prop} {n : Nat} (h : 0 < n) : wpR_Md_part_w_52_31 L f q0 p_0 v2_1 v3_1 rec_1 Q n = wpL_Md_part_w_52_31 L f q0 p_0 v2_1 v3_1 rec_1 Q (n - 1) := by
  cases n with
  | zero => omega
  | succ n => rfl
def wpB_Md_part_w_4_1 (L : List Nat) (f : TF) (q0 : Nat) (p_0 : Int32) (Q : List Nat → TF → Prop) (rec_1 : Int32 → Int32 → Prop) (v2_1 : Int32) (v3_1 : Int32) : Prop := ((40 ≤ v3_1 → ((v2_1 = 0 → wpL_Md_part_w_52_31 L f q0 p_0 v2_1 v3_1 rec_1 Q (((40 : Int32).toInt - (0 : Int32).toInt).toNat) (0 : Int32) L f) ∧ (¬ (v2_1 = 0) → ∀ x_4 : Int64, tl f q0 57 = x_4 → ∀ y_5 : Int64, y_5 = (x_4 : Int64) / ((v2_1 : Int32).toInt64 : Int64) → wpL_Md_part_w_52_6 L f q0 p_0 v2_1 v3_1 rec_1 x_4 y_5 Q (((40 : Int32).toInt - (0 : Int32).toInt).toNat) (0 : Int32) L f))) ∧ (¬ (40 ≤ v3_1) → ∀ q_56 : Nat, tr f q0 18 = some q_56 → ∀ x_57 : Int32, ti f q_56 (v3_1 : Int32).toNatClampNeg = x_57 → ((x_57 = 0 → rec_1 (v2_1 + 0) (v3_1 + 1)) ∧ (¬ (x_57 = 0) → rec_1 (v2_1 + 1) (v3_1 + 1)))))
def wpL_Md_part_w_4_1 (L : List Nat) (f : TF) (q0 : Nat) (p_0 : Int32) (Q : List Nat → TF → Prop) : Nat → Int32 → Int32 → Prop
  | 0 => fun v2_1 v3_1 => wpB_Md_part_w_4_1 L f q0 p_0 Q (fun _ _ => True) v2_1 v3_1
  | n + 1 => fun v2_1 v3_1 => wpB_Md_part_w_4_1 L f q0 p_0 Q (wpL_Md_part_w_4_1 L f q0 p_0 Q n) v2_1 v3_1
def wpR_Md_part_w_4_1 (L : List Nat) (f : TF) (q0 : Nat) (p_0 : Int32) (Q : List Nat → TF → Prop) : Nat → Int32 → Int32 → Prop
  | 0 => fun _ _ => True
  | n + 1 => wpL_Md_part_w_4_1 L f q0 p_0 Q n
theorem wpL_Md_part_w_4_1_eq {L : List Nat} {f : TF} {q0 : Nat} {p_0 : Int32} {Q : List Nat → TF → Prop} {n : Nat} : wpL_Md_part_w_4_1 L f q0 p_0 Q n = wpB_Md_part_w_4_1 L f q0 p_0 Q (wpR_Md_part_w_4_1 L f q0 p_0 Q n) := by cases n <;> rfl
theorem wpR_Md_part_w_4_1_pos {L : List Nat} {f : TF} {q0 : Nat} {p_0 : Int32} {Q : List Nat → TF → Prop} {n : Nat} (h : 0 < n) : wpR_Md_part_w_4_1 L f q0 p_0 Q n = wpL_Md_part_w_4_1 L f q0 p_0 Q (n - 1) := by
  cases n with
  | zero => omega
  | succ n => rfl
def wp_Md_part_w (L : List Nat) (f : TF) (q0 : Nat) (p_0 : Int32) (Q : List Nat → TF → Prop) : Prop := wpL_Md_part_w_4_1 L f q0 p_0 Q (((40 : Int32).toInt - (0 : Int32).toInt).toNat) (0 : Int32) (0 : Int32)
set_option maxHeartbeats 4000000 in
set_option maxRecDepth 100000 in
theorem c_Md_part_w (l : Launch) (dC : Nat → ClassId) (dI : Nat → Nat → Nat) (ct : Nat → ClassId) (L : List Nat) (f : TF) (hO_0 : Ok L f) (q0 : Nat) (m0 : q0 ∈ L ∧ tk f q0 = 27) (sz : Nat) (p_0 : Int32)  (as_0 : ¬ (p_0 < 0)) (as_1 : ¬ (499 < p_0)) (Q : List Nat → TF → Prop) (hQ : wp_Md_part_w L f q0 p_0 Q) : Met l y_Md_part (.code y_Md_part b_Md_part 6 none :: TB) ({ frames := 0, cells := 0, slots := 0, locals := 0 }) (va_Pc [.ref q0, .int p_0] (PC dC dI (TW ct L f) (TT ct) sz)) (va_Qv (fun (u : TSt) => Ok u.1 u.2 ∧ Ext W_Md_part_w L f u.1 u.2 ∧ (True) ∧ Q u.1 u.2) (fun (u : TSt) t => va_P (dC, dI) vwCl (TW ct u.1 u.2) t.heap ∧ va_K (dC, dI) vwCl (TT ct) t ∧ va_D (va_A (TW ct L f) sz) (TW ct u.1 u.2)) (va_A (TW ct L f) sz)) 0 0 (va_A (TW ct L f) sz) := by
  refine Met.ofW (cc := b_Md_part) (maxL := 6) (ret := none) (by decide) rfl ?_
  intro p e s m args below meth c s₁ B hml hv
  obtain ⟨rfl, hsz, hP, hK, hD0, hN⟩ := hv
  have hx := B.exec
  have hb := B.bytes
  have hr := B.returns
  have hts := atoms_spec (ws := (.code y_Md_part b_Md_part 6 none :: TB)) B.pre
  have htb := fun w (h : w ∈ TB) => hts w (List.mem_cons_of_mem _ h)
  have hown : s.vm.findClass R_Md = some m.cls := findClass_of_methodNamed B.named
  have hlocks := B.notSynchronized
  have hl := lv_entry ([.ref q0, .int p_0]) (n := 6) (Nat.le_of_ble_eq_true rfl)
  rw [lg_entry_eq]
  generalize (lg_sl ([.ref q0, .int p_0]) ++ List.replicate (6 - (lg_sl ([.ref q0, .int p_0])).length) Slot.unset).toArray = ls at hl ⊢
  have hl : lv_has ls 6 [(0, .ref q0), (1, .int p_0)] := hl
  subst hsz
  have hD := hD0.self (sz := s.heap.size)
  obtain ⟨A, hAe⟩ : ∃ A, va_A (TW ct L f) s.heap.size = A := ⟨_, rfl⟩
  rw [hAe] at hD
  have hA : ∀ q : Nat, s.heap.size ≤ q → A q := fun q h => by rw [← hAe]; exact Or.inr h
  have hS : va_S A s.heap s.heap [] := va_S.rf
  have hA_0 : Ext [] L f L f := Ext.rf
  suffices hGo : ∀ (H : Heap) (locs : List Loc), va_P (dC, dI) vwCl (TW ct L f) H → va_S A s.heap H locs → W p l e (headSpec (.code y_Md_part b_Md_part 6 none :: TB) ({ frames := 0, cells := 0, slots := 0, locals := 0 })).room s m [.ref q0, .int p_0].toArray below meth c H locs 0 0 (MQ below (va_Qv (fun (u : TSt) => Ok u.1 u.2 ∧ Ext W_Md_part_w L f u.1 u.2 ∧ (True) ∧ Q u.1 u.2) (fun (u : TSt) t => va_P (dC, dI) vwCl (TW ct u.1 u.2) t.heap ∧ va_K (dC, dI) vwCl (TT ct) t ∧ va_D (va_A (TW ct L f) s.heap.size) (TW ct u.1 u.2)) (va_A (TW ct L f) s.heap.size)) [.ref q0, .int p_0].toArray s 0 0 (va_A (TW ct L f) s.heap.size)) (F0 m 0 ls []) from hGo _ _ hP hS
  clear hP hS
  intro H locs hP hS
  unfold wp_Md_part_w at hQ
  refine lv_iconst (v := 0) hx hb d_Md_part_0 (by decide +kernel) ?_
  refine lv_istore_n (lv' := [(2, .int 0), (0, .ref q0), (1, .int p_0)]) hx hb d_Md_part_1 rfl hl (by decide) rfl (fun ls hl => ?_)
  refine lv_iconst (v := 0) hx hb d_Md_part_2 (by decide +kernel) ?_
  refine lv_istore_n (lv' := [(3, .int 0), (2, .int 0), (0, .ref q0), (1, .int p_0)]) hx hb d_Md_part_3 rfl hl (by decide) rfl (fun ls hl => ?_)
  have cut_1 : ∀ (n_1 : Nat) (v2_1 v3_1 : Int32) (ls : Array Slot), ¬ (v3_1 < 0) → ¬ (40 < v3_1) → (40 : Int32).toInt - (v3_1 : Int32).toInt ≤ (n_1 : Int) → wpL_Md_part_w_4_1 L f q0 p_0 Q n_1 v2_1 v3_1 → lv_has ls 6 [(0, .ref q0), (1, .int p_0), (2, .int v2_1), (3, .int v3_1)] → W p l e (headSpec (.code y_Md_part b_Md_part 6 none :: TB) ({ frames := 0, cells := 0, slots := 0, locals := 0 })).room s m [.ref q0, .int p_0].toArray below meth c H locs 0 0 (MQ below (va_Qv (fun (u : TSt) => Ok u.1 u.2 ∧ Ext W_Md_part_w L f u.1 u.2 ∧ (True) ∧ Q u.1 u.2) (fun (u : TSt) t => va_P (dC, dI) vwCl (TW ct u.1 u.2) t.heap ∧ va_K (dC, dI) vwCl (TT ct) t ∧ va_D (va_A (TW ct L f) s.heap.size) (TW ct u.1 u.2)) (va_A (TW ct L f) s.heap.size)) [.ref q0, .int p_0].toArray s 0 0 (va_A (TW ct L f) s.heap.size)) (F0 m 4 ls []) := by
    intro n_1
    induction n_1 using Nat.strongRecOn with
    | _ n_1 ih_1 =>
      intro v2_1 v3_1 ls iv0_1 iv1_1 hm_1 hQ hl
      rw [wpL_Md_part_w_4_1_eq] at hQ
      obtain ⟨rec_1, hrec_1⟩ : ∃ g, wpR_Md_part_w_4_1 L f q0 p_0 Q n_1 = g := ⟨_, rfl⟩
      rw [hrec_1] at hQ
      unfold wpB_Md_part_w_4_1 at hQ
      refine lv_iload_n hx hb d_Md_part_4 rfl (lv_at hl 3 rfl) ?_
      refine lv_bipush (v := 40) hx hb d_Md_part_5 (by decide +kernel) ?_
      refine lv_icmp_ge (tgt := 33) hx hb d_Md_part_7 (by decide) (fun c_2 => ?_) (fun c_2 => ?_)
      · have hQ := hQ.1 c_2
        refine lv_iload_n hx hb d_Md_part_33 rfl (lv_at hl 2 rfl) ?_
        refine lv_if_ne (tgt := 41) hx hb d_Md_part_34 (by decide) (fun c_3 => ?_) (fun c_3 => ?_)
        · have hQ := hQ.2 c_3
          refine lv_aload_n hx hb d_Md_part_41 rfl (lv_at hl 0 rfl) ?_
          refine tw_getl (D := (dC, dI)) (C := R_Md) (T := F_Md) (N := 64) (ci := 7) (kd := 27) (ct := ct) hx hb htb i_Md hown hK hP m0 rfl rfl 57 (by decide) (htb (.fieldLink R_Md 320 "WaterMenModel" "pot" "J") tw_212) (fun _ h9 => h9) rfl d_Md_part_42 (fun x_4 e_4 => ?_)
          have hQ := hQ x_4 e_4
          refine lv_iload_n hx hb d_Md_part_45 rfl (lv_at hl 2 rfl) ?_
          refine lv_i2l hx hb d_Md_part_46 rfl ?_
          refine lv_ldiv hx hb d_Md_part_47 (hb_l0 c_3) ?_
          refine hb_eql (fun y_5 hy_5 => ?_)
          have hQ := hQ y_5 hy_5
          refine lv_lstore_n (lv' := [(3, .long y_5), (0, .ref q0), (1, .int p_0), (2, .int v2_1)]) hx hb d_Md_part_48 rfl hl (by decide) rfl (fun ls hl => ?_)
          refine lv_iconst (v := 0) hx hb d_Md_part_49 (by decide +kernel) ?_
          refine lv_istore (lv' := [(5, .int 0), (3, .long y_5), (0, .ref q0), (1, .int p_0), (2, .int v2_1)]) hx hb d_Md_part_50 hl (by decide) rfl (fun ls hl => ?_)
          have cut_6 : ∀ (n_6 : Nat) (v5_6 : Int32) (L_1 : List Nat) (f_1 : TF) (H : Heap) (locs : List Loc) (ls : Array Slot), va_P (dC, dI) vwCl (TW ct L_1 f_1) H → va_D A (TW ct L_1 f_1) → va_S A s.heap H locs → Ok L_1 f_1 → Ext WL_Md_part_w_52_6 L f L_1 f_1 → ¬ (v5_6 < 0) → ¬ (40 < v5_6) → (40 : Int32).toInt - (v5_6 : Int32).toInt ≤ (n_6 : Int) → wpL_Md_part_w_52_6 L f q0 p_0 v2_1 v3_1 rec_1 x_4 y_5 Q n_6 v5_6 L_1 f_1 → lv_has ls 6 [(0, .ref q0), (1, .int p_0), (2, .int v2_1), (3, .long y_5), (5, .int v5_6)] → W p l e (headSpec (.code y_Md_part b_Md_part 6 none :: TB) ({ frames := 0, cells := 0, slots := 0, locals := 0 })).room s m [.ref q0, .int p_0].toArray below meth c H locs 0 0 (MQ below (va_Qv (fun (u : TSt) => Ok u.1 u.2 ∧ Ext W_Md_part_w L f u.1 u.2 ∧ (True) ∧ Q u.1 u.2) (fun (u : TSt) t => va_P (dC, dI) vwCl (TW ct u.1 u.2) t.heap ∧ va_K (dC, dI) vwCl (TT ct) t ∧ va_D (va_A (TW ct L f) s.heap.size) (TW ct u.1 u.2)) (va_A (TW ct L f) s.heap.size)) [.ref q0, .int p_0].toArray s 0 0 (va_A (TW ct L f) s.heap.size)) (F0 m 52 ls []) := by
            intro n_6
            induction n_6 using Nat.strongRecOn with
            | _ n_6 ih_6 =>
              intro v5_6 L_1 f_1 H locs ls hP hD hS hO_1 hE_1 iv0_6 iv1_6 hm_6 hQ hl
              have hA_1 := hA_0.trans hE_1
              rw [wpL_Md_part_w_52_6_eq] at hQ
              obtain ⟨rec_6, hrec_6⟩ : ∃ g, wpR_Md_part_w_52_6 L f q0 p_0 v2_1 v3_1 rec_1 x_4 y_5 Q n_6 = g := ⟨_, rfl⟩
              rw [hrec_6] at hQ
              unfold wpB_Md_part_w_52_6 at hQ
              have hQ := hQ hO_1 hE_1
              refine lv_iload hx hb d_Md_part_52 (lv_at hl 4 rfl) ?_
              refine lv_bipush (v := 40) hx hb d_Md_part_54 (by decide +kernel) ?_
              refine lv_icmp_ge (tgt := 95) hx hb d_Md_part_56 (by decide) (fun c_7 => ?_) (fun c_7 => ?_)
              · have hQ := hQ.1 c_7
                refine lv_aload_n hx hb d_Md_part_95 rfl (lv_at hl 0 rfl) ?_
                refine lv_dup hx hb d_Md_part_96 rfl ?_
                refine tw_getl (D := (dC, dI)) (C := R_Md) (T := F_Md) (N := 64) (ci := 7) (kd := 27) (ct := ct) hx hb htb i_Md hown hK hP (hA_1.m m0) rfl rfl 56 (by decide) (htb (.fieldLink R_Md 316 "WaterMenModel" "box" "J") tw_204) (fun _ h9 => h9) rfl d_Md_part_97 (fun x_8 e_8 => ?_)
                have hQ := hQ x_8 e_8
                refine lv_aload_n hx hb d_Md_part_100 rfl (lv_at hl 0 rfl) ?_
                refine tw_getl (D := (dC, dI)) (C := R_Md) (T := F_Md) (N := 64) (ci := 7) (kd := 27) (ct := ct) hx hb htb i_Md hown hK hP (hA_1.m m0) rfl rfl 57 (by decide) (htb (.fieldLink R_Md 320 "WaterMenModel" "pot" "J") tw_212) (fun _ h9 => h9) rfl d_Md_part_101 (fun x_9 e_9 => ?_)
                have hQ := hQ x_9 e_9
                refine lv_lload_n hx hb d_Md_part_104 rfl (lv_at hl 3 rfl) ?_
                refine lv_iload_n hx hb d_Md_part_105 rfl (lv_at hl 2 rfl) ?_
                refine lv_i2l hx hb d_Md_part_106 rfl ?_
                refine lv_lmul hx hb d_Md_part_107 ?_
                refine hb_eql (fun y_10 hy_10 => ?_)
                have hQ := hQ y_10 hy_10
                refine lv_lsub hx hb d_Md_part_108 ?_
                refine hb_eql (fun y_11 hy_11 => ?_)
                have hQ := hQ y_11 hy_11
                refine lv_ladd hx hb d_Md_part_109 ?_
                refine hb_eql (fun y_12 hy_12 => ?_)
                have hQ := hQ y_12 hy_12
                refine tw_putl (v := y_12) (D := (dC, dI)) (C := R_Md) (T := F_Md) (N := 64) (ci := 7) (kd := 27) (ct := ct) (ty := .long) hx hb htb i_Md t_Md t_Md_ok n_Md hown hK hP hD hS hO_1 (hA_1.m m0) rfl rfl 56 (by decide) (htb (.fieldLink R_Md 316 "WaterMenModel" "box" "J") tw_204) (fun _ h9 => h9) rfl (by decide +kernel) rfl rfl rfl d_Md_part_110 (fun f_2 H locs hP hD hS hO_2 hE_2 w_13 hF_2 => ?_)
                have hA_2 := hA_1.trans hE_2
                have hQ := hQ f_2 hF_2
                have hQ := hQ hO_2
                refine lv_aload_n hx hb d_Md_part_113 rfl (lv_at hl 0 rfl) ?_
                refine tw_getr (D := (dC, dI)) (C := R_Md) (T := F_Md) (N := 64) (ci := 7) (kd := 27) (ct := ct) hx hb htb i_Md hown hK hP hO_2 (hA_2.m m0) rfl rfl 59 (by decide) (htb (.fieldLink R_Md 173 "WaterMenModel" "boxIn" "[J") tw_213) (fun _ h9 => h9) rfl d_Md_part_114 (fun q_14 e_14 m_14 => ?_)
                have hQ := hQ q_14 e_14
                refine lv_iload_n hx hb d_Md_part_117 rfl (lv_at hl 1 rfl) ?_
                refine lv_dup2_11 hx hb d_Md_part_118 rfl rfl ?_
                refine tw_aldJ (ct := ct) hx hb hK hP m_14 rfl (hb_inl as_0 as_1 (by decide +kernel)) d_Md_part_119 (fun x_15 e_15 => ?_)
                have hQ := hQ x_15 e_15
                refine lv_aload_n hx hb d_Md_part_120 rfl (lv_at hl 0 rfl) ?_
                refine tw_getl (D := (dC, dI)) (C := R_Md) (T := F_Md) (N := 64) (ci := 7) (kd := 27) (ct := ct) hx hb htb i_Md hown hK hP (hA_2.m m0) rfl rfl 57 (by decide) (htb (.fieldLink R_Md 320 "WaterMenModel" "pot" "J") tw_212) (fun _ h9 => h9) rfl d_Md_part_121 (fun x_16 e_16 => ?_)
                have hQ := hQ x_16 e_16
                refine lv_lload_n hx hb d_Md_part_124 rfl (lv_at hl 3 rfl) ?_
                refine lv_iload_n hx hb d_Md_part_125 rfl (lv_at hl 2 rfl) ?_
                refine lv_i2l hx hb d_Md_part_126 rfl ?_
                refine lv_lmul hx hb d_Md_part_127 ?_
                refine hb_eql (fun y_17 hy_17 => ?_)
                have hQ := hQ y_17 hy_17
                refine lv_lsub hx hb d_Md_part_128 ?_
                refine hb_eql (fun y_18 hy_18 => ?_)
                have hQ := hQ y_18 hy_18
                refine lv_ladd hx hb d_Md_part_129 ?_
                refine hb_eql (fun y_19 hy_19 => ?_)
                have hQ := hQ y_19 hy_19
                refine tw_astJ (ct := ct) (x := y_19) hx hb hK hP hD hS hO_2 m_14 rfl (hb_inl as_0 as_1 (by decide +kernel)) d_Md_part_130 (fun f_3 H locs hP hD hS hO_3 hE_3 w_20 ow_20 hF_3 => ?_)
                have hA_3 := hA_2.trans hE_3
                have hQ := hQ f_3 hF_3
                have hQ := hQ hO_3
                refine lv_aload_n hx hb d_Md_part_131 rfl (lv_at hl 0 rfl) ?_
                refine lv_lconst (v := 0) hx hb d_Md_part_132 (by decide +kernel) ?_
                refine tw_putl (v := 0) (D := (dC, dI)) (C := R_Md) (T := F_Md) (N := 64) (ci := 7) (kd := 27) (ct := ct) (ty := .long) hx hb htb i_Md t_Md t_Md_ok n_Md hown hK hP hD hS hO_3 (hA_3.m m0) rfl rfl 57 (by decide) (htb (.fieldLink R_Md 320 "WaterMenModel" "pot" "J") tw_212) (fun _ h9 => h9) rfl (by decide +kernel) rfl rfl rfl d_Md_part_133 (fun f_4 H locs hP hD hS hO_4 hE_4 w_21 hF_4 => ?_)
                have hA_4 := hA_3.trans hE_4
                have hQ := hQ f_4 hF_4
                have hQ := hQ hO_4
                refine W.widen (k := 0) (n := 0) (Nat.le_of_ble_eq_true rfl) (Nat.le_of_ble_eq_true rfl) ?_
                exact W.vret hx hb hr (fun t ht hW => ⟨⟨(L_1, f_4), rfl, ⟨hO_4, hA_4.mono (by decide +kernel), trivial, hQ⟩, by rw [ht]; exact hP, va_K.moved hW.alike hK, by rw [hAe]; exact hD⟩, by rw [hAe]; exact hS.F ht⟩) (by rw [hAe]; exact hS.2.2) d_Md_part_136
              · have hQ := hQ.2 c_7
                refine lv_aload_n hx hb d_Md_part_59 rfl (lv_at hl 0 rfl) ?_
                refine tw_getr (D := (dC, dI)) (C := R_Md) (T := F_Md) (N := 64) (ci := 7) (kd := 27) (ct := ct) hx hb htb i_Md hown hK hP hO_1 (hA_1.m m0) rfl rfl 18 (by decide) (htb (.fieldLink R_Md 85 "WaterMenModel" "shares" "[Z") tw_214) (fun _ h9 => h9) rfl d_Md_part_60 (fun q_22 e_22 m_22 => ?_)
                have hQ := hQ q_22 e_22
                refine lv_iload hx hb d_Md_part_63 (lv_at hl 4 rfl) ?_
                refine tw_aldZ (ct := ct) hx hb hK hP hO_1 m_22 rfl (hb_in iv0_6 c_7 (by decide +kernel)) d_Md_part_65 (fun x_23 e_23 b_23 => ?_)
                have hQ := hQ x_23 e_23
                refine lv_if_eq (tgt := 81) hx hb d_Md_part_66 (by decide) (fun c_24 => ?_) (fun c_24 => ?_)
                · have hQ := hQ.1 c_24
                  refine lv_aload_n hx hb d_Md_part_81 rfl (lv_at hl 0 rfl) ?_
                  refine tw_getR (D := (dC, dI)) (C := R_Md) (T := F_Md) (N := 64) (ci := 7) (kd := 27) (ct := ct) hx hb htb i_Md hown hK hP (hA_1.m m0) rfl rfl 18 e_22 (by decide) (htb (.fieldLink R_Md 85 "WaterMenModel" "shares" "[Z") tw_214) (fun _ h9 => h9) rfl d_Md_part_82 ?_
                  refine hb_tv (.ref q_22) rfl ?_
                  refine lv_iload hx hb d_Md_part_85 (lv_at hl 4 rfl) ?_
                  refine lv_iconst (v := 0) hx hb d_Md_part_87 (by decide +kernel) ?_
                  refine tw_astZ (ct := ct) (x := 0) hx hb hK hP hD hS hO_1 m_22 rfl (hb_in iv0_6 c_7 (by decide +kernel)) ⟨by decide +kernel, by decide +kernel⟩ d_Md_part_88 (fun f_2 H locs hP hD hS hO_2 hE_2 w_25 ow_25 hF_2 => ?_)
                  have hA_2 := hA_1.trans hE_2
                  have hQ := hQ f_2 hF_2
                  have hQ := hQ hO_2
                  refine lv_iinc (v := (v5_6 + 1)) (lv' := [(5, .int (v5_6 + 1)), (0, .ref q0), (1, .int p_0), (2, .int v2_1), (3, .long y_5)]) hx hb d_Md_part_89 hl (k := 4) rfl rfl (by decide) rfl (fun ls hl => ?_)
                  refine lv_goto (tgt := 52) hx hb d_Md_part_92 (by decide) ?_
                  exact ih_6 (n_6 - 1) (ms_1 ((fun (a_0 : Int32) (k_0 : ¬ (40 ≤ a_0)) => (show 1 ≤ (40 : Int32).toInt - (a_0).toInt ∧ (40 : Int32).toInt - ((a_0) + (1 : Int32)).toInt + 1 ≤ (40 : Int32).toInt - (a_0).toInt from by have z0 : (1 : Int32).toInt = 1 := (by decide +kernel); have z1 : (40 : Int32).toInt = 40 := (by decide +kernel); have r0 := fb_rng (a_0); have e0 := k_0; rw [Int32.le_iff_toInt_le, z1] at e0; obtain ⟨n_0, hn_0, s0⟩ := nd_add (x := (a_0)) (y := (1 : Int32)) (by (try rw [z0]); omega) (by (try rw [z0]); omega); rw [z0] at s0; rw [hn_0]; (try rw [z1]); omega)) v5_6 c_7) hm_6) (v5_6 + 1) _ _ _ _ _ hP hD hS hO_2 ((hE_1.trans hE_2).mono (by decide +kernel)) (show ¬ ((v5_6 + 1) < 0) from by have e0 := iv0_6; rw [Int32.lt_iff_toInt_lt] at e0; have e1 := c_7; rw [Int32.le_iff_toInt_le] at e1; have z0 : (0 : Int32).toInt = 0 := (by decide +kernel); have z1 : (1 : Int32).toInt = 1 := (by decide +kernel); have z2 : (40 : Int32).toInt = 40 := (by decide +kernel); have ss := fb_addI (x := v5_6) (y := 1) (by omega) (by omega); rw [Int32.lt_iff_toInt_lt]; omega) (show ¬ (40 < (v5_6 + 1)) from by have e0 := iv0_6; rw [Int32.lt_iff_toInt_lt] at e0; have e1 := c_7; rw [Int32.le_iff_toInt_le] at e1; have z0 : (0 : Int32).toInt = 0 := (by decide +kernel); have z1 : (1 : Int32).toInt = 1 := (by decide +kernel); have z2 : (40 : Int32).toInt = 40 := (by decide +kernel); have ss := fb_addI (x := v5_6) (y := 1) (by omega) (by omega); rw [Int32.lt_iff_toInt_lt]; omega) (by exact ms_2 ((fun (a_0 : Int32) (k_0 : ¬ (40 ≤ a_0)) => (show 1 ≤ (40 : Int32).toInt - (a_0).toInt ∧ (40 : Int32).toInt - ((a_0) + (1 : Int32)).toInt + 1 ≤ (40 : Int32).toInt - (a_0).toInt from by have z0 : (1 : Int32).toInt = 1 := (by decide +kernel); have z1 : (40 : Int32).toInt = 40 := (by decide +kernel); have r0 := fb_rng (a_0); have e0 := k_0; rw [Int32.le_iff_toInt_le, z1] at e0; obtain ⟨n_0, hn_0, s0⟩ := nd_add (x := (a_0)) (y := (1 : Int32)) (by (try rw [z0]); omega) (by (try rw [z0]); omega); rw [z0] at s0; rw [hn_0]; (try rw [z1]); omega)) v5_6 c_7) hm_6) (by rw [← hrec_6, wpR_Md_part_w_52_6_pos (ms_3 ((fun (a_0 : Int32) (k_0 : ¬ (40 ≤ a_0)) => (show 1 ≤ (40 : Int32).toInt - (a_0).toInt ∧ (40 : Int32).toInt - ((a_0) + (1 : Int32)).toInt + 1 ≤ (40 : Int32).toInt - (a_0).toInt from by have z0 : (1 : Int32).toInt = 1 := (by decide +kernel); have z1 : (40 : Int32).toInt = 40 := (by decide +kernel); have r0 := fb_rng (a_0); have e0 := k_0; rw [Int32.le_iff_toInt_le, z1] at e0; obtain ⟨n_0, hn_0, s0⟩ := nd_add (x := (a_0)) (y := (1 : Int32)) (by (try rw [z0]); omega) (by (try rw [z0]); omega); rw [z0] at s0; rw [hn_0]; (try rw [z1]); omega)) v5_6 c_7) hm_6)] at hQ; exact hQ) (lv_sub hl [1, 2, 3, 4, 0] rfl)
                · have hQ := hQ.2 c_24
                  refine lv_aload_n hx hb d_Md_part_69 rfl (lv_at hl 0 rfl) ?_
                  refine tw_getr (D := (dC, dI)) (C := R_Md) (T := F_Md) (N := 64) (ci := 7) (kd := 27) (ct := ct) hx hb htb i_Md hown hK hP hO_1 (hA_1.m m0) rfl rfl 15 (by decide) (htb (.fieldLink R_Md 76 "WaterMenModel" "coins" "[I") tw_68) (fun _ h9 => h9) rfl d_Md_part_70 (fun q_26 e_26 m_26 => ?_)
                  have hQ := hQ q_26 e_26
                  refine lv_iload hx hb d_Md_part_73 (lv_at hl 4 rfl) ?_
                  refine lv_dup2_11 hx hb d_Md_part_75 rfl rfl ?_
                  refine tw_aldI (ct := ct) hx hb hK hP hO_1 m_26 rfl (hb_in iv0_6 c_7 (by decide +kernel)) d_Md_part_76 (fun x_27 e_27 b_27 => ?_)
                  have hQ := hQ x_27 e_27
                  refine lv_lload_n hx hb d_Md_part_77 rfl (lv_at hl 3 rfl) ?_
                  refine lv_l2i hx hb d_Md_part_78 rfl ?_
                  refine hb_eqi (fun y_28 hy_28 => ?_)
                  have hQ := hQ y_28 hy_28
                  refine lv_iadd hx hb d_Md_part_79 ?_
                  refine tw_astI (ct := ct) (x := (x_27 + y_28)) hx hb hK hP hD hS hO_1 m_26 rfl (hb_in iv0_6 c_7 (by decide +kernel)) (i32_full _) d_Md_part_80 (fun f_2 H locs hP hD hS hO_2 hE_2 w_29 ow_29 hF_2 => ?_)
                  have hA_2 := hA_1.trans hE_2
                  have hQ := hQ f_2 hF_2
                  have hQ := hQ hO_2
                  refine lv_aload_n hx hb d_Md_part_81 rfl (lv_at hl 0 rfl) ?_
                  refine tw_getR (D := (dC, dI)) (C := R_Md) (T := F_Md) (N := 64) (ci := 7) (kd := 27) (ct := ct) hx hb htb i_Md hown hK hP (hA_2.m m0) rfl rfl 18 ((hE_2.er (hA_1.m m0) rfl).trans e_22) (by decide) (htb (.fieldLink R_Md 85 "WaterMenModel" "shares" "[Z") tw_214) (fun _ h9 => h9) rfl d_Md_part_82 ?_
                  refine hb_tv (.ref q_22) rfl ?_
                  refine lv_iload hx hb d_Md_part_85 (lv_at hl 4 rfl) ?_
                  refine lv_iconst (v := 0) hx hb d_Md_part_87 (by decide +kernel) ?_
                  refine tw_astZ (ct := ct) (x := 0) hx hb hK hP hD hS hO_2 (hE_2.m m_22) rfl (hb_in iv0_6 c_7 (by decide +kernel)) ⟨by decide +kernel, by decide +kernel⟩ d_Md_part_88 (fun f_3 H locs hP hD hS hO_3 hE_3 w_30 ow_30 hF_3 => ?_)
                  have hA_3 := hA_2.trans hE_3
                  have hQ := hQ f_3 hF_3
                  have hQ := hQ hO_3
                  refine lv_iinc (v := (v5_6 + 1)) (lv' := [(5, .int (v5_6 + 1)), (0, .ref q0), (1, .int p_0), (2, .int v2_1), (3, .long y_5)]) hx hb d_Md_part_89 hl (k := 4) rfl rfl (by decide) rfl (fun ls hl => ?_)
                  refine lv_goto (tgt := 52) hx hb d_Md_part_92 (by decide) ?_
                  exact ih_6 (n_6 - 1) (ms_1 ((fun (a_0 : Int32) (k_0 : ¬ (40 ≤ a_0)) => (show 1 ≤ (40 : Int32).toInt - (a_0).toInt ∧ (40 : Int32).toInt - ((a_0) + (1 : Int32)).toInt + 1 ≤ (40 : Int32).toInt - (a_0).toInt from by have z0 : (1 : Int32).toInt = 1 := (by decide +kernel); have z1 : (40 : Int32).toInt = 40 := (by decide +kernel); have r0 := fb_rng (a_0); have e0 := k_0; rw [Int32.le_iff_toInt_le, z1] at e0; obtain ⟨n_0, hn_0, s0⟩ := nd_add (x := (a_0)) (y := (1 : Int32)) (by (try rw [z0]); omega) (by (try rw [z0]); omega); rw [z0] at s0; rw [hn_0]; (try rw [z1]); omega)) v5_6 c_7) hm_6) (v5_6 + 1) _ _ _ _ _ hP hD hS hO_3 (((hE_1.trans hE_2).trans hE_3).mono (by decide +kernel)) (show ¬ ((v5_6 + 1) < 0) from by have e0 := iv0_6; rw [Int32.lt_iff_toInt_lt] at e0; have e1 := c_7; rw [Int32.le_iff_toInt_le] at e1; have z0 : (0 : Int32).toInt = 0 := (by decide +kernel); have z1 : (1 : Int32).toInt = 1 := (by decide +kernel); have z2 : (40 : Int32).toInt = 40 := (by decide +kernel); have ss := fb_addI (x := v5_6) (y := 1) (by omega) (by omega); rw [Int32.lt_iff_toInt_lt]; omega) (show ¬ (40 < (v5_6 + 1)) from by have e0 := iv0_6; rw [Int32.lt_iff_toInt_lt] at e0; have e1 := c_7; rw [Int32.le_iff_toInt_le] at e1; have z0 : (0 : Int32).toInt = 0 := (by decide +kernel); have z1 : (1 : Int32).toInt = 1 := (by decide +kernel); have z2 : (40 : Int32).toInt = 40 := (by decide +kernel); have ss := fb_addI (x := v5_6) (y := 1) (by omega) (by omega); rw [Int32.lt_iff_toInt_lt]; omega) (by exact ms_2 ((fun (a_0 : Int32) (k_0 : ¬ (40 ≤ a_0)) => (show 1 ≤ (40 : Int32).toInt - (a_0).toInt ∧ (40 : Int32).toInt - ((a_0) + (1 : Int32)).toInt + 1 ≤ (40 : Int32).toInt - (a_0).toInt from by have z0 : (1 : Int32).toInt = 1 := (by decide +kernel); have z1 : (40 : Int32).toInt = 40 := (by decide +kernel); have r0 := fb_rng (a_0); have e0 := k_0; rw [Int32.le_iff_toInt_le, z1] at e0; obtain ⟨n_0, hn_0, s0⟩ := nd_add (x := (a_0)) (y := (1 : Int32)) (by (try rw [z0]); omega) (by (try rw [z0]); omega); rw [z0] at s0; rw [hn_0]; (try rw [z1]); omega)) v5_6 c_7) hm_6) (by rw [← hrec_6, wpR_Md_part_w_52_6_pos (ms_3 ((fun (a_0 : Int32) (k_0 : ¬ (40 ≤ a_0)) => (show 1 ≤ (40 : Int32).toInt - (a_0).toInt ∧ (40 : Int32).toInt - ((a_0) + (1 : Int32)).toInt + 1 ≤ (40 : Int32).toInt - (a_0).toInt from by have z0 : (1 : Int32).toInt = 1 := (by decide +kernel); have z1 : (40 : Int32).toInt = 40 := (by decide +kernel); have r0 := fb_rng (a_0); have e0 := k_0; rw [Int32.le_iff_toInt_le, z1] at e0; obtain ⟨n_0, hn_0, s0⟩ := nd_add (x := (a_0)) (y := (1 : Int32)) (by (try rw [z0]); omega) (by (try rw [z0]); omega); rw [z0] at s0; rw [hn_0]; (try rw [z1]); omega)) v5_6 c_7) hm_6)] at hQ; exact hQ) (lv_sub hl [1, 2, 3, 4, 0] rfl)
          exact cut_6 ((40 : Int32).toInt - (0 : Int32).toInt).toNat (0 : Int32) _ _ _ _ _ hP hD hS hO_0 Ext.rf (by decide +kernel) (by decide +kernel) (by exact ms_e _ _) hQ (lv_sub hl [2, 3, 4, 1, 0] rfl)
        · have hQ := hQ.1 c_3
          refine lv_lconst (v := 0) hx hb d_Md_part_37 (by decide +kernel) ?_
          refine lv_goto (tgt := 48) hx hb d_Md_part_38 (by decide) ?_
          refine lv_lstore_n (lv' := [(3, .long 0), (0, .ref q0), (1, .int p_0), (2, .int v2_1)]) hx hb d_Md_part_48 rfl hl (by decide) rfl (fun ls hl => ?_)
          refine lv_iconst (v := 0) hx hb d_Md_part_49 (by decide +kernel) ?_
          refine lv_istore (lv' := [(5, .int 0), (3, .long 0), (0, .ref q0), (1, .int p_0), (2, .int v2_1)]) hx hb d_Md_part_50 hl (by decide) rfl (fun ls hl => ?_)
          have cut_31 : ∀ (n_31 : Nat) (v5_31 : Int32) (L_1 : List Nat) (f_1 : TF) (H : Heap) (locs : List Loc) (ls : Array Slot), va_P (dC, dI) vwCl (TW ct L_1 f_1) H → va_D A (TW ct L_1 f_1) → va_S A s.heap H locs → Ok L_1 f_1 → Ext WL_Md_part_w_52_31 L f L_1 f_1 → ¬ (v5_31 < 0) → ¬ (40 < v5_31) → (40 : Int32).toInt - (v5_31 : Int32).toInt ≤ (n_31 : Int) → wpL_Md_part_w_52_31 L f q0 p_0 v2_1 v3_1 rec_1 Q n_31 v5_31 L_1 f_1 → lv_has ls 6 [(0, .ref q0), (1, .int p_0), (2, .int v2_1), (3, .long 0), (5, .int v5_31)] → W p l e (headSpec (.code y_Md_part b_Md_part 6 none :: TB) ({ frames := 0, cells := 0, slots := 0, locals := 0 })).room s m [.ref q0, .int p_0].toArray below meth c H locs 0 0 (MQ below (va_Qv (fun (u : TSt) => Ok u.1 u.2 ∧ Ext W_Md_part_w L f u.1 u.2 ∧ (True) ∧ Q u.1 u.2) (fun (u : TSt) t => va_P (dC, dI) vwCl (TW ct u.1 u.2) t.heap ∧ va_K (dC, dI) vwCl (TT ct) t ∧ va_D (va_A (TW ct L f) s.heap.size) (TW ct u.1 u.2)) (va_A (TW ct L f) s.heap.size)) [.ref q0, .int p_0].toArray s 0 0 (va_A (TW ct L f) s.heap.size)) (F0 m 52 ls []) := by
            intro n_31
            induction n_31 using Nat.strongRecOn with
            | _ n_31 ih_31 =>
              intro v5_31 L_1 f_1 H locs ls hP hD hS hO_1 hE_1 iv0_31 iv1_31 hm_31 hQ hl
              have hA_1 := hA_0.trans hE_1
              rw [wpL_Md_part_w_52_31_eq] at hQ
              obtain ⟨rec_31, hrec_31⟩ : ∃ g, wpR_Md_part_w_52_31 L f q0 p_0 v2_1 v3_1 rec_1 Q n_31 = g := ⟨_, rfl⟩
              rw [hrec_31] at hQ
              unfold wpB_Md_part_w_52_31 at hQ
              have hQ := hQ hO_1 hE_1
              refine lv_iload hx hb d_Md_part_52 (lv_at hl 4 rfl) ?_
              refine lv_bipush (v := 40) hx hb d_Md_part_54 (by decide +kernel) ?_
              refine lv_icmp_ge (tgt := 95) hx hb d_Md_part_56 (by decide) (fun c_32 => ?_) (fun c_32 => ?_)
              · have hQ := hQ.1 c_32
                refine lv_aload_n hx hb d_Md_part_95 rfl (lv_at hl 0 rfl) ?_
                refine lv_dup hx hb d_Md_part_96 rfl ?_
                refine tw_getl (D := (dC, dI)) (C := R_Md) (T := F_Md) (N := 64) (ci := 7) (kd := 27) (ct := ct) hx hb htb i_Md hown hK hP (hA_1.m m0) rfl rfl 56 (by decide) (htb (.fieldLink R_Md 316 "WaterMenModel" "box" "J") tw_204) (fun _ h9 => h9) rfl d_Md_part_97 (fun x_33 e_33 => ?_)
                have hQ := hQ x_33 e_33
                refine lv_aload_n hx hb d_Md_part_100 rfl (lv_at hl 0 rfl) ?_
                refine tw_getl (D := (dC, dI)) (C := R_Md) (T := F_Md) (N := 64) (ci := 7) (kd := 27) (ct := ct) hx hb htb i_Md hown hK hP (hA_1.m m0) rfl rfl 57 (by decide) (htb (.fieldLink R_Md 320 "WaterMenModel" "pot" "J") tw_212) (fun _ h9 => h9) rfl d_Md_part_101 (fun x_34 e_34 => ?_)
                have hQ := hQ x_34 e_34
                refine lv_lload_n hx hb d_Md_part_104 rfl (lv_at hl 3 rfl) ?_
                refine lv_iload_n hx hb d_Md_part_105 rfl (lv_at hl 2 rfl) ?_
                refine lv_i2l hx hb d_Md_part_106 rfl ?_
                refine lv_lmul hx hb d_Md_part_107 ?_
                refine hb_eql (fun y_35 hy_35 => ?_)
                have hQ := hQ y_35 hy_35
                refine lv_lsub hx hb d_Md_part_108 ?_
                refine hb_eql (fun y_36 hy_36 => ?_)
                have hQ := hQ y_36 hy_36
                refine lv_ladd hx hb d_Md_part_109 ?_
                refine hb_eql (fun y_37 hy_37 => ?_)
                have hQ := hQ y_37 hy_37
                refine tw_putl (v := y_37) (D := (dC, dI)) (C := R_Md) (T := F_Md) (N := 64) (ci := 7) (kd := 27) (ct := ct) (ty := .long) hx hb htb i_Md t_Md t_Md_ok n_Md hown hK hP hD hS hO_1 (hA_1.m m0) rfl rfl 56 (by decide) (htb (.fieldLink R_Md 316 "WaterMenModel" "box" "J") tw_204) (fun _ h9 => h9) rfl (by decide +kernel) rfl rfl rfl d_Md_part_110 (fun f_2 H locs hP hD hS hO_2 hE_2 w_38 hF_2 => ?_)
                have hA_2 := hA_1.trans hE_2
                have hQ := hQ f_2 hF_2
                have hQ := hQ hO_2
                refine lv_aload_n hx hb d_Md_part_113 rfl (lv_at hl 0 rfl) ?_
                refine tw_getr (D := (dC, dI)) (C := R_Md) (T := F_Md) (N := 64) (ci := 7) (kd := 27) (ct := ct) hx hb htb i_Md hown hK hP hO_2 (hA_2.m m0) rfl rfl 59 (by decide) (htb (.fieldLink R_Md 173 "WaterMenModel" "boxIn" "[J") tw_213) (fun _ h9 => h9) rfl d_Md_part_114 (fun q_39 e_39 m_39 => ?_)
                have hQ := hQ q_39 e_39
                refine lv_iload_n hx hb d_Md_part_117 rfl (lv_at hl 1 rfl) ?_
                refine lv_dup2_11 hx hb d_Md_part_118 rfl rfl ?_
                refine tw_aldJ (ct := ct) hx hb hK hP m_39 rfl (hb_inl as_0 as_1 (by decide +kernel)) d_Md_part_119 (fun x_40 e_40 => ?_)
                have hQ := hQ x_40 e_40
                refine lv_aload_n hx hb d_Md_part_120 rfl (lv_at hl 0 rfl) ?_
                refine tw_getl (D := (dC, dI)) (C := R_Md) (T := F_Md) (N := 64) (ci := 7) (kd := 27) (ct := ct) hx hb htb i_Md hown hK hP (hA_2.m m0) rfl rfl 57 (by decide) (htb (.fieldLink R_Md 320 "WaterMenModel" "pot" "J") tw_212) (fun _ h9 => h9) rfl d_Md_part_121 (fun x_41 e_41 => ?_)
                have hQ := hQ x_41 e_41
                refine lv_lload_n hx hb d_Md_part_124 rfl (lv_at hl 3 rfl) ?_
                refine lv_iload_n hx hb d_Md_part_125 rfl (lv_at hl 2 rfl) ?_
                refine lv_i2l hx hb d_Md_part_126 rfl ?_
                refine lv_lmul hx hb d_Md_part_127 ?_
                refine hb_eql (fun y_42 hy_42 => ?_)
                have hQ := hQ y_42 hy_42
                refine lv_lsub hx hb d_Md_part_128 ?_
                refine hb_eql (fun y_43 hy_43 => ?_)
                have hQ := hQ y_43 hy_43
                refine lv_ladd hx hb d_Md_part_129 ?_
                refine hb_eql (fun y_44 hy_44 => ?_)
                have hQ := hQ y_44 hy_44
                refine tw_astJ (ct := ct) (x := y_44) hx hb hK hP hD hS hO_2 m_39 rfl (hb_inl as_0 as_1 (by decide +kernel)) d_Md_part_130 (fun f_3 H locs hP hD hS hO_3 hE_3 w_45 ow_45 hF_3 => ?_)
                have hA_3 := hA_2.trans hE_3
                have hQ := hQ f_3 hF_3
                have hQ := hQ hO_3
                refine lv_aload_n hx hb d_Md_part_131 rfl (lv_at hl 0 rfl) ?_
                refine lv_lconst (v := 0) hx hb d_Md_part_132 (by decide +kernel) ?_
                refine tw_putl (v := 0) (D := (dC, dI)) (C := R_Md) (T := F_Md) (N := 64) (ci := 7) (kd := 27) (ct := ct) (ty := .long) hx hb htb i_Md t_Md t_Md_ok n_Md hown hK hP hD hS hO_3 (hA_3.m m0) rfl rfl 57 (by decide) (htb (.fieldLink R_Md 320 "WaterMenModel" "pot" "J") tw_212) (fun _ h9 => h9) rfl (by decide +kernel) rfl rfl rfl d_Md_part_133 (fun f_4 H locs hP hD hS hO_4 hE_4 w_46 hF_4 => ?_)
                have hA_4 := hA_3.trans hE_4
                have hQ := hQ f_4 hF_4
                have hQ := hQ hO_4
                refine W.widen (k := 0) (n := 0) (Nat.le_of_ble_eq_true rfl) (Nat.le_of_ble_eq_true rfl) ?_
                exact W.vret hx hb hr (fun t ht hW => ⟨⟨(L_1, f_4), rfl, ⟨hO_4, hA_4.mono (by decide +kernel), trivial, hQ⟩, by rw [ht]; exact hP, va_K.moved hW.alike hK, by rw [hAe]; exact hD⟩, by rw [hAe]; exact hS.F ht⟩) (by rw [hAe]; exact hS.2.2) d_Md_part_136
              · have hQ := hQ.2 c_32
                refine lv_aload_n hx hb d_Md_part_59 rfl (lv_at hl 0 rfl) ?_
                refine tw_getr (D := (dC, dI)) (C := R_Md) (T := F_Md) (N := 64) (ci := 7) (kd := 27) (ct := ct) hx hb htb i_Md hown hK hP hO_1 (hA_1.m m0) rfl rfl 18 (by decide) (htb (.fieldLink R_Md 85 "WaterMenModel" "shares" "[Z") tw_214) (fun _ h9 => h9) rfl d_Md_part_60 (fun q_47 e_47 m_47 => ?_)
                have hQ := hQ q_47 e_47
                refine lv_iload hx hb d_Md_part_63 (lv_at hl 4 rfl) ?_
                refine tw_aldZ (ct := ct) hx hb hK hP hO_1 m_47 rfl (hb_in iv0_31 c_32 (by decide +kernel)) d_Md_part_65 (fun x_48 e_48 b_48 => ?_)
                have hQ := hQ x_48 e_48
                refine lv_if_eq (tgt := 81) hx hb d_Md_part_66 (by decide) (fun c_49 => ?_) (fun c_49 => ?_)
                · have hQ := hQ.1 c_49
                  refine lv_aload_n hx hb d_Md_part_81 rfl (lv_at hl 0 rfl) ?_
                  refine tw_getR (D := (dC, dI)) (C := R_Md) (T := F_Md) (N := 64) (ci := 7) (kd := 27) (ct := ct) hx hb htb i_Md hown hK hP (hA_1.m m0) rfl rfl 18 e_47 (by decide) (htb (.fieldLink R_Md 85 "WaterMenModel" "shares" "[Z") tw_214) (fun _ h9 => h9) rfl d_Md_part_82 ?_
                  refine hb_tv (.ref q_47) rfl ?_
                  refine lv_iload hx hb d_Md_part_85 (lv_at hl 4 rfl) ?_
                  refine lv_iconst (v := 0) hx hb d_Md_part_87 (by decide +kernel) ?_
                  refine tw_astZ (ct := ct) (x := 0) hx hb hK hP hD hS hO_1 m_47 rfl (hb_in iv0_31 c_32 (by decide +kernel)) ⟨by decide +kernel, by decide +kernel⟩ d_Md_part_88 (fun f_2 H locs hP hD hS hO_2 hE_2 w_50 ow_50 hF_2 => ?_)
                  have hA_2 := hA_1.trans hE_2
                  have hQ := hQ f_2 hF_2
                  have hQ := hQ hO_2
                  refine lv_iinc (v := (v5_31 + 1)) (lv' := [(5, .int (v5_31 + 1)), (0, .ref q0), (1, .int p_0), (2, .int v2_1), (3, .long 0)]) hx hb d_Md_part_89 hl (k := 4) rfl rfl (by decide) rfl (fun ls hl => ?_)
                  refine lv_goto (tgt := 52) hx hb d_Md_part_92 (by decide) ?_
                  exact ih_31 (n_31 - 1) (ms_1 ((fun (a_0 : Int32) (k_0 : ¬ (40 ≤ a_0)) => (show 1 ≤ (40 : Int32).toInt - (a_0).toInt ∧ (40 : Int32).toInt - ((a_0) + (1 : Int32)).toInt + 1 ≤ (40 : Int32).toInt - (a_0).toInt from by have z0 : (1 : Int32).toInt = 1 := (by decide +kernel); have z1 : (40 : Int32).toInt = 40 := (by decide +kernel); have r0 := fb_rng (a_0); have e0 := k_0; rw [Int32.le_iff_toInt_le, z1] at e0; obtain ⟨n_0, hn_0, s0⟩ := nd_add (x := (a_0)) (y := (1 : Int32)) (by (try rw [z0]); omega) (by (try rw [z0]); omega); rw [z0] at s0; rw [hn_0]; (try rw [z1]); omega)) v5_31 c_32) hm_31) (v5_31 + 1) _ _ _ _ _ hP hD hS hO_2 ((hE_1.trans hE_2).mono (by decide +kernel)) (show ¬ ((v5_31 + 1) < 0) from by have e0 := iv0_31; rw [Int32.lt_iff_toInt_lt] at e0; have e1 := c_32; rw [Int32.le_iff_toInt_le] at e1; have z0 : (0 : Int32).toInt = 0 := (by decide +kernel); have z1 : (1 : Int32).toInt = 1 := (by decide +kernel); have z2 : (40 : Int32).toInt = 40 := (by decide +kernel); have ss := fb_addI (x := v5_31) (y := 1) (by omega) (by omega); rw [Int32.lt_iff_toInt_lt]; omega) (show ¬ (40 < (v5_31 + 1)) from by have e0 := iv0_31; rw [Int32.lt_iff_toInt_lt] at e0; have e1 := c_32; rw [Int32.le_iff_toInt_le] at e1; have z0 : (0 : Int32).toInt = 0 := (by decide +kernel); have z1 : (1 : Int32).toInt = 1 := (by decide +kernel); have z2 : (40 : Int32).toInt = 40 := (by decide +kernel); have ss := fb_addI (x := v5_31) (y := 1) (by omega) (by omega); rw [Int32.lt_iff_toInt_lt]; omega) (by exact ms_2 ((fun (a_0 : Int32) (k_0 : ¬ (40 ≤ a_0)) => (show 1 ≤ (40 : Int32).toInt - (a_0).toInt ∧ (40 : Int32).toInt - ((a_0) + (1 : Int32)).toInt + 1 ≤ (40 : Int32).toInt - (a_0).toInt from by have z0 : (1 : Int32).toInt = 1 := (by decide +kernel); have z1 : (40 : Int32).toInt = 40 := (by decide +kernel); have r0 := fb_rng (a_0); have e0 := k_0; rw [Int32.le_iff_toInt_le, z1] at e0; obtain ⟨n_0, hn_0, s0⟩ := nd_add (x := (a_0)) (y := (1 : Int32)) (by (try rw [z0]); omega) (by (try rw [z0]); omega); rw [z0] at s0; rw [hn_0]; (try rw [z1]); omega)) v5_31 c_32) hm_31) (by rw [← hrec_31, wpR_Md_part_w_52_31_pos (ms_3 ((fun (a_0 : Int32) (k_0 : ¬ (40 ≤ a_0)) => (show 1 ≤ (40 : Int32).toInt - (a_0).toInt ∧ (40 : Int32).toInt - ((a_0) + (1 : Int32)).toInt + 1 ≤ (40 : Int32).toInt - (a_0).toInt from by have z0 : (1 : Int32).toInt = 1 := (by decide +kernel); have z1 : (40 : Int32).toInt = 40 := (by decide +kernel); have r0 := fb_rng (a_0); have e0 := k_0; rw [Int32.le_iff_toInt_le, z1] at e0; obtain ⟨n_0, hn_0, s0⟩ := nd_add (x := (a_0)) (y := (1 : Int32)) (by (try rw [z0]); omega) (by (try rw [z0]); omega); rw [z0] at s0; rw [hn_0]; (try rw [z1]); omega)) v5_31 c_32) hm_31)] at hQ; exact hQ) (lv_sub hl [1, 2, 3, 4, 0] rfl)
                · have hQ := hQ.2 c_49
                  refine lv_aload_n hx hb d_Md_part_69 rfl (lv_at hl 0 rfl) ?_
                  refine tw_getr (D := (dC, dI)) (C := R_Md) (T := F_Md) (N := 64) (ci := 7) (kd := 27) (ct := ct) hx hb htb i_Md hown hK hP hO_1 (hA_1.m m0) rfl rfl 15 (by decide) (htb (.fieldLink R_Md 76 "WaterMenModel" "coins" "[I") tw_68) (fun _ h9 => h9) rfl d_Md_part_70 (fun q_51 e_51 m_51 => ?_)
                  have hQ := hQ q_51 e_51
                  refine lv_iload hx hb d_Md_part_73 (lv_at hl 4 rfl) ?_
                  refine lv_dup2_11 hx hb d_Md_part_75 rfl rfl ?_
                  refine tw_aldI (ct := ct) hx hb hK hP hO_1 m_51 rfl (hb_in iv0_31 c_32 (by decide +kernel)) d_Md_part_76 (fun x_52 e_52 b_52 => ?_)
                  have hQ := hQ x_52 e_52
                  refine lv_lload_n hx hb d_Md_part_77 rfl (lv_at hl 3 rfl) ?_
                  refine lv_l2i hx hb d_Md_part_78 rfl ?_
                  refine hb_eqi (fun y_53 hy_53 => ?_)
                  have hQ := hQ y_53 hy_53
                  refine lv_iadd hx hb d_Md_part_79 ?_
                  refine tw_astI (ct := ct) (x := (x_52 + y_53)) hx hb hK hP hD hS hO_1 m_51 rfl (hb_in iv0_31 c_32 (by decide +kernel)) (i32_full _) d_Md_part_80 (fun f_2 H locs hP hD hS hO_2 hE_2 w_54 ow_54 hF_2 => ?_)
                  have hA_2 := hA_1.trans hE_2
                  have hQ := hQ f_2 hF_2
                  have hQ := hQ hO_2
                  refine lv_aload_n hx hb d_Md_part_81 rfl (lv_at hl 0 rfl) ?_
                  refine tw_getR (D := (dC, dI)) (C := R_Md) (T := F_Md) (N := 64) (ci := 7) (kd := 27) (ct := ct) hx hb htb i_Md hown hK hP (hA_2.m m0) rfl rfl 18 ((hE_2.er (hA_1.m m0) rfl).trans e_47) (by decide) (htb (.fieldLink R_Md 85 "WaterMenModel" "shares" "[Z") tw_214) (fun _ h9 => h9) rfl d_Md_part_82 ?_
                  refine hb_tv (.ref q_47) rfl ?_
                  refine lv_iload hx hb d_Md_part_85 (lv_at hl 4 rfl) ?_
                  refine lv_iconst (v := 0) hx hb d_Md_part_87 (by decide +kernel) ?_
                  refine tw_astZ (ct := ct) (x := 0) hx hb hK hP hD hS hO_2 (hE_2.m m_47) rfl (hb_in iv0_31 c_32 (by decide +kernel)) ⟨by decide +kernel, by decide +kernel⟩ d_Md_part_88 (fun f_3 H locs hP hD hS hO_3 hE_3 w_55 ow_55 hF_3 => ?_)
                  have hA_3 := hA_2.trans hE_3
                  have hQ := hQ f_3 hF_3
                  have hQ := hQ hO_3
                  refine lv_iinc (v := (v5_31 + 1)) (lv' := [(5, .int (v5_31 + 1)), (0, .ref q0), (1, .int p_0), (2, .int v2_1), (3, .long 0)]) hx hb d_Md_part_89 hl (k := 4) rfl rfl (by decide) rfl (fun ls hl => ?_)
                  refine lv_goto (tgt := 52) hx hb d_Md_part_92 (by decide) ?_
                  exact ih_31 (n_31 - 1) (ms_1 ((fun (a_0 : Int32) (k_0 : ¬ (40 ≤ a_0)) => (show 1 ≤ (40 : Int32).toInt - (a_0).toInt ∧ (40 : Int32).toInt - ((a_0) + (1 : Int32)).toInt + 1 ≤ (40 : Int32).toInt - (a_0).toInt from by have z0 : (1 : Int32).toInt = 1 := (by decide +kernel); have z1 : (40 : Int32).toInt = 40 := (by decide +kernel); have r0 := fb_rng (a_0); have e0 := k_0; rw [Int32.le_iff_toInt_le, z1] at e0; obtain ⟨n_0, hn_0, s0⟩ := nd_add (x := (a_0)) (y := (1 : Int32)) (by (try rw [z0]); omega) (by (try rw [z0]); omega); rw [z0] at s0; rw [hn_0]; (try rw [z1]); omega)) v5_31 c_32) hm_31) (v5_31 + 1) _ _ _ _ _ hP hD hS hO_3 (((hE_1.trans hE_2).trans hE_3).mono (by decide +kernel)) (show ¬ ((v5_31 + 1) < 0) from by have e0 := iv0_31; rw [Int32.lt_iff_toInt_lt] at e0; have e1 := c_32; rw [Int32.le_iff_toInt_le] at e1; have z0 : (0 : Int32).toInt = 0 := (by decide +kernel); have z1 : (1 : Int32).toInt = 1 := (by decide +kernel); have z2 : (40 : Int32).toInt = 40 := (by decide +kernel); have ss := fb_addI (x := v5_31) (y := 1) (by omega) (by omega); rw [Int32.lt_iff_toInt_lt]; omega) (show ¬ (40 < (v5_31 + 1)) from by have e0 := iv0_31; rw [Int32.lt_iff_toInt_lt] at e0; have e1 := c_32; rw [Int32.le_iff_toInt_le] at e1; have z0 : (0 : Int32).toInt = 0 := (by decide +kernel); have z1 : (1 : Int32).toInt = 1 := (by decide +kernel); have z2 : (40 : Int32).toInt = 40 := (by decide +kernel); have ss := fb_addI (x := v5_31) (y := 1) (by omega) (by omega); rw [Int32.lt_iff_toInt_lt]; omega) (by exact ms_2 ((fun (a_0 : Int32) (k_0 : ¬ (40 ≤ a_0)) => (show 1 ≤ (40 : Int32).toInt - (a_0).toInt ∧ (40 : Int32).toInt - ((a_0) + (1 : Int32)).toInt + 1 ≤ (40 : Int32).toInt - (a_0).toInt from by have z0 : (1 : Int32).toInt = 1 := (by decide +kernel); have z1 : (40 : Int32).toInt = 40 := (by decide +kernel); have r0 := fb_rng (a_0); have e0 := k_0; rw [Int32.le_iff_toInt_le, z1] at e0; obtain ⟨n_0, hn_0, s0⟩ := nd_add (x := (a_0)) (y := (1 : Int32)) (by (try rw [z0]); omega) (by (try rw [z0]); omega); rw [z0] at s0; rw [hn_0]; (try rw [z1]); omega)) v5_31 c_32) hm_31) (by rw [← hrec_31, wpR_Md_part_w_52_31_pos (ms_3 ((fun (a_0 : Int32) (k_0 : ¬ (40 ≤ a_0)) => (show 1 ≤ (40 : Int32).toInt - (a_0).toInt ∧ (40 : Int32).toInt - ((a_0) + (1 : Int32)).toInt + 1 ≤ (40 : Int32).toInt - (a_0).toInt from by have z0 : (1 : Int32).toInt = 1 := (by decide +kernel); have z1 : (40 : Int32).toInt = 40 := (by decide +kernel); have r0 := fb_rng (a_0); have e0 := k_0; rw [Int32.le_iff_toInt_le, z1] at e0; obtain ⟨n_0, hn_0, s0⟩ := nd_add (x := (a_0)) (y := (1 : Int32)) (by (try rw [z0]); omega) (by (try rw [z0]); omega); rw [z0] at s0; rw [hn_0]; (try rw [z1]); omega)) v5_31 c_32) hm_31)] at hQ; exact hQ) (lv_sub hl [1, 2, 3, 4, 0] rfl)
          exact cut_31 ((40 : Int32).toInt - (0 : Int32).toInt).toNat (0 : Int32) _ _ _ _ _ hP hD hS hO_0 Ext.rf (by decide +kernel) (by decide +kernel) (by exact ms_e _ _) hQ (lv_sub hl [2, 3, 4, 1, 0] rfl)
      · have hQ := hQ.2 c_2
        refine lv_iload_n hx hb d_Md_part_10 rfl (lv_at hl 2 rfl) ?_
        refine lv_aload_n hx hb d_Md_part_11 rfl (lv_at hl 0 rfl) ?_
        refine tw_getr (D := (dC, dI)) (C := R_Md) (T := F_Md) (N := 64) (ci := 7) (kd := 27) (ct := ct) hx hb htb i_Md hown hK hP hO_0 m0 rfl rfl 18 (by decide) (htb (.fieldLink R_Md 85 "WaterMenModel" "shares" "[Z") tw_214) (fun _ h9 => h9) rfl d_Md_part_12 (fun q_56 e_56 m_56 => ?_)
        have hQ := hQ q_56 e_56
        refine lv_iload_n hx hb d_Md_part_15 rfl (lv_at hl 3 rfl) ?_
        refine tw_aldZ (ct := ct) hx hb hK hP hO_0 m_56 rfl (hb_in iv0_1 c_2 (by decide +kernel)) d_Md_part_16 (fun x_57 e_57 b_57 => ?_)
        have hQ := hQ x_57 e_57
        refine lv_if_eq (tgt := 24) hx hb d_Md_part_17 (by decide) (fun c_58 => ?_) (fun c_58 => ?_)
        · have hQ := hQ.1 c_58
          refine lv_iconst (v := 0) hx hb d_Md_part_24 (by decide +kernel) ?_
          refine lv_iadd hx hb d_Md_part_25 ?_
          refine lv_istore_n (lv' := [(2, .int (v2_1 + 0)), (0, .ref q0), (1, .int p_0), (3, .int v3_1)]) hx hb d_Md_part_26 rfl hl (by decide) rfl (fun ls hl => ?_)
          refine lv_iinc (v := (v3_1 + 1)) (lv' := [(3, .int (v3_1 + 1)), (2, .int (v2_1 + 0)), (0, .ref q0), (1, .int p_0)]) hx hb d_Md_part_27 hl (k := 3) rfl rfl (by decide) rfl (fun ls hl => ?_)
          refine lv_goto (tgt := 4) hx hb d_Md_part_30 (by decide) ?_
          exact ih_1 (n_1 - 1) (ms_1 ((fun (a_0 : Int32) (k_0 : ¬ (40 ≤ a_0)) => (show 1 ≤ (40 : Int32).toInt - (a_0).toInt ∧ (40 : Int32).toInt - ((a_0) + (1 : Int32)).toInt + 1 ≤ (40 : Int32).toInt - (a_0).toInt from by have z0 : (1 : Int32).toInt = 1 := (by decide +kernel); have z1 : (40 : Int32).toInt = 40 := (by decide +kernel); have r0 := fb_rng (a_0); have e0 := k_0; rw [Int32.le_iff_toInt_le, z1] at e0; obtain ⟨n_0, hn_0, s0⟩ := nd_add (x := (a_0)) (y := (1 : Int32)) (by (try rw [z0]); omega) (by (try rw [z0]); omega); rw [z0] at s0; rw [hn_0]; (try rw [z1]); omega)) v3_1 c_2) hm_1) (v2_1 + 0) (v3_1 + 1) _ (show ¬ ((v3_1 + 1) < 0) from by have e0 := iv0_1; rw [Int32.lt_iff_toInt_lt] at e0; have e1 := c_2; rw [Int32.le_iff_toInt_le] at e1; have z0 : (0 : Int32).toInt = 0 := (by decide +kernel); have z1 : (1 : Int32).toInt = 1 := (by decide +kernel); have z2 : (40 : Int32).toInt = 40 := (by decide +kernel); have ss := fb_addI (x := v3_1) (y := 1) (by omega) (by omega); rw [Int32.lt_iff_toInt_lt]; omega) (show ¬ (40 < (v3_1 + 1)) from by have e0 := iv0_1; rw [Int32.lt_iff_toInt_lt] at e0; have e1 := c_2; rw [Int32.le_iff_toInt_le] at e1; have z0 : (0 : Int32).toInt = 0 := (by decide +kernel); have z1 : (1 : Int32).toInt = 1 := (by decide +kernel); have z2 : (40 : Int32).toInt = 40 := (by decide +kernel); have ss := fb_addI (x := v3_1) (y := 1) (by omega) (by omega); rw [Int32.lt_iff_toInt_lt]; omega) (by exact ms_2 ((fun (a_0 : Int32) (k_0 : ¬ (40 ≤ a_0)) => (show 1 ≤ (40 : Int32).toInt - (a_0).toInt ∧ (40 : Int32).toInt - ((a_0) + (1 : Int32)).toInt + 1 ≤ (40 : Int32).toInt - (a_0).toInt from by have z0 : (1 : Int32).toInt = 1 := (by decide +kernel); have z1 : (40 : Int32).toInt = 40 := (by decide +kernel); have r0 := fb_rng (a_0); have e0 := k_0; rw [Int32.le_iff_toInt_le, z1] at e0; obtain ⟨n_0, hn_0, s0⟩ := nd_add (x := (a_0)) (y := (1 : Int32)) (by (try rw [z0]); omega) (by (try rw [z0]); omega); rw [z0] at s0; rw [hn_0]; (try rw [z1]); omega)) v3_1 c_2) hm_1) (by rw [← hrec_1, wpR_Md_part_w_4_1_pos (ms_3 ((fun (a_0 : Int32) (k_0 : ¬ (40 ≤ a_0)) => (show 1 ≤ (40 : Int32).toInt - (a_0).toInt ∧ (40 : Int32).toInt - ((a_0) + (1 : Int32)).toInt + 1 ≤ (40 : Int32).toInt - (a_0).toInt from by have z0 : (1 : Int32).toInt = 1 := (by decide +kernel); have z1 : (40 : Int32).toInt = 40 := (by decide +kernel); have r0 := fb_rng (a_0); have e0 := k_0; rw [Int32.le_iff_toInt_le, z1] at e0; obtain ⟨n_0, hn_0, s0⟩ := nd_add (x := (a_0)) (y := (1 : Int32)) (by (try rw [z0]); omega) (by (try rw [z0]); omega); rw [z0] at s0; rw [hn_0]; (try rw [z1]); omega)) v3_1 c_2) hm_1)] at hQ; exact hQ) (lv_sub hl [2, 3, 1, 0] rfl)
        · have hQ := hQ.2 c_58
          refine lv_iconst (v := 1) hx hb d_Md_part_20 (by decide +kernel) ?_
          refine lv_goto (tgt := 25) hx hb d_Md_part_21 (by decide) ?_
          refine lv_iadd hx hb d_Md_part_25 ?_
          refine lv_istore_n (lv' := [(2, .int (v2_1 + 1)), (0, .ref q0), (1, .int p_0), (3, .int v3_1)]) hx hb d_Md_part_26 rfl hl (by decide) rfl (fun ls hl => ?_)
          refine lv_iinc (v := (v3_1 + 1)) (lv' := [(3, .int (v3_1 + 1)), (2, .int (v2_1 + 1)), (0, .ref q0), (1, .int p_0)]) hx hb d_Md_part_27 hl (k := 3) rfl rfl (by decide) rfl (fun ls hl => ?_)
          refine lv_goto (tgt := 4) hx hb d_Md_part_30 (by decide) ?_
          exact ih_1 (n_1 - 1) (ms_1 ((fun (a_0 : Int32) (k_0 : ¬ (40 ≤ a_0)) => (show 1 ≤ (40 : Int32).toInt - (a_0).toInt ∧ (40 : Int32).toInt - ((a_0) + (1 : Int32)).toInt + 1 ≤ (40 : Int32).toInt - (a_0).toInt from by have z0 : (1 : Int32).toInt = 1 := (by decide +kernel); have z1 : (40 : Int32).toInt = 40 := (by decide +kernel); have r0 := fb_rng (a_0); have e0 := k_0; rw [Int32.le_iff_toInt_le, z1] at e0; obtain ⟨n_0, hn_0, s0⟩ := nd_add (x := (a_0)) (y := (1 : Int32)) (by (try rw [z0]); omega) (by (try rw [z0]); omega); rw [z0] at s0; rw [hn_0]; (try rw [z1]); omega)) v3_1 c_2) hm_1) (v2_1 + 1) (v3_1 + 1) _ (show ¬ ((v3_1 + 1) < 0) from by have e0 := iv0_1; rw [Int32.lt_iff_toInt_lt] at e0; have e1 := c_2; rw [Int32.le_iff_toInt_le] at e1; have z0 : (0 : Int32).toInt = 0 := (by decide +kernel); have z1 : (1 : Int32).toInt = 1 := (by decide +kernel); have z2 : (40 : Int32).toInt = 40 := (by decide +kernel); have ss := fb_addI (x := v3_1) (y := 1) (by omega) (by omega); rw [Int32.lt_iff_toInt_lt]; omega) (show ¬ (40 < (v3_1 + 1)) from by have e0 := iv0_1; rw [Int32.lt_iff_toInt_lt] at e0; have e1 := c_2; rw [Int32.le_iff_toInt_le] at e1; have z0 : (0 : Int32).toInt = 0 := (by decide +kernel); have z1 : (1 : Int32).toInt = 1 := (by decide +kernel); have z2 : (40 : Int32).toInt = 40 := (by decide +kernel); have ss := fb_addI (x := v3_1) (y := 1) (by omega) (by omega); rw [Int32.lt_iff_toInt_lt]; omega) (by exact ms_2 ((fun (a_0 : Int32) (k_0 : ¬ (40 ≤ a_0)) => (show 1 ≤ (40 : Int32).toInt - (a_0).toInt ∧ (40 : Int32).toInt - ((a_0) + (1 : Int32)).toInt + 1 ≤ (40 : Int32).toInt - (a_0).toInt from by have z0 : (1 : Int32).toInt = 1 := (by decide +kernel); have z1 : (40 : Int32).toInt = 40 := (by decide +kernel); have r0 := fb_rng (a_0); have e0 := k_0; rw [Int32.le_iff_toInt_le, z1] at e0; obtain ⟨n_0, hn_0, s0⟩ := nd_add (x := (a_0)) (y := (1 : Int32)) (by (try rw [z0]); omega) (by (try rw [z0]); omega); rw [z0] at s0; rw [hn_0]; (try rw [z1]); omega)) v3_1 c_2) hm_1) (by rw [← hrec_1, wpR_Md_part_w_4_1_pos (ms_3 ((fun (a_0 : Int32) (k_0 : ¬ (40 ≤ a_0)) => (show 1 ≤ (40 : Int32).toInt - (a_0).toInt ∧ (40 : Int32).toInt - ((a_0) + (1 : Int32)).toInt + 1 ≤ (40 : Int32).toInt - (a_0).toInt from by have z0 : (1 : Int32).toInt = 1 := (by decide +kernel); have z1 : (40 : Int32).toInt = 40 := (by decide +kernel); have r0 := fb_rng (a_0); have e0 := k_0; rw [Int32.le_iff_toInt_le, z1] at e0; obtain ⟨n_0, hn_0, s0⟩ := nd_add (x := (a_0)) (y := (1 : Int32)) (by (try rw [z0]); omega) (by (try rw [z0]); omega); rw [z0] at s0; rw [hn_0]; (try rw [z1]); omega)) v3_1 c_2) hm_1)] at hQ; exact hQ) (lv_sub hl [2, 3, 1, 0] rfl)
  exact cut_1 ((40 : Int32).toInt - (0 : Int32).toInt).toNat (0 : Int32) (0 : Int32) _ (by decide +kernel) (by decide +kernel) (by exact ms_e _ _) hQ (lv_sub hl [2, 3, 1, 0] rfl)
def WL_Md_minutes_w_27_6 : List (Nat × Nat) := [(27, 1), (27, 56), (27, 57), (27, 58), (39, 1000), (40, 1000), (42, 1000), (48, 1000), (71, 1000), (74, 1000)]
def W_Md_minutes_w : List (Nat × Nat) := [(27, 1), (27, 56), (27, 57), (27, 58), (39, 1000), (40, 1000), (42, 1000), (48, 1000), (71, 1000), (74, 1000)]
def wpB_Md_minutes_w_27_6 (L : List Nat) (f : TF) (q0 : Nat) (p_0 : Int32) (Q : Int32 → List Nat → TF → Prop) (rec_6 : Int32 → List Nat → TF → Prop) (v2_6 : Int32) (L_1 : List Nat) (f_1 : TF) : Prop := Ok L_1 f_1 → Ext WL_Md_minutes_w_27_6 L f L_1 f_1 → ((p_0 ≤ v2_6 → Q (ti f_1 q0 1) L_1 f_1) ∧ (¬ (p_0 ≤ v2_6) → ∀ f_2 : TF, f_2 = sI f_1 q0 1 ((ti f_1 q0 1) + 1) → Ok L_1 f_2 → wp_Md_arrive_w L_1 f_2 q0 (fun (L_3 : List Nat) (f_3 : TF) => Ok L_3 f_3 → Ext W_Md_arrive_w L_1 f_2 L_3 f_3 → ∀ y_11 : Int32, y_11 = ((ti f_1 q0 1) + 1) - ((ti f_1 q0 1) + 1) / 720 * 720 → ((y_11 = 0 → wp_Md_today_w L_3 f_3 q0 (fun (r_13 : Int32) => (∀ y_18 : Int32, y_18 = (r_13 - 1) - (r_13 - 1) / 7 * 7 → ((y_18 = 0 → wp_Md_today_w L_3 f_3 q0 (fun (r_33 : Int32) => (wp_Md_part_w L_3 f_3 q0 (r_33 - 1) (fun (L_4 : List Nat) (f_4 : TF) => Ok L_4 f_4 → Ext W_Md_part_w L_3 f_3 L_4 f_4 → wp_Md_today_w L_4 f_4 q0 (fun (r_39 : Int32) => (∀ y_44 : Int32, y_44 = r_39 - r_39 / 100 * 100 → ((y_44 = 0 → wp_Md_today_w L_4 f_4 q0 (fun (r_46 : Int32) => (wp_Md_pay_w L_4 f_4 q0 r_46 (fun (L_5 : List Nat) (f_5 : TF) => Ok L_5 f_5 → Ext W_Md_pay_w L_4 f_4 L_5 f_5 → rec_6 (v2_6 + 1) L_5 f_5)))) ∧ (¬ (y_44 = 0) → rec_6 (v2_6 + 1) L_4 f_4)))))))) ∧ (¬ (y_18 = 0) → wp_Md_today_w L_3 f_3 q0 (fun (r_20 : Int32) => (∀ y_25 : Int32, y_25 = r_20 - r_20 / 100 * 100 → ((y_25 = 0 → wp_Md_today_w L_3 f_3 q0 (fun (r_27 : Int32) => (wp_Md_pay_w L_3 f_3 q0 r_27 (fun (L_4 : List Nat) (f_4 : TF) => Ok L_4 f_4 → Ext W_Md_pay_w L_3 f_3 L_4 f_4 → rec_6 (v2_6 + 1) L_4 f_4)))) ∧ (¬ (y_25 = 0) → rec_6 (v2_6 + 1) L_3 f_3))))))))) ∧ (¬ (y_11 = 0) → rec_6 (v2_6 + 1) L_3 f_3)))))
def wpL_Md_minutes_w_27_6 (L : List Nat) (f : TF) (q0 : Nat) (p_0 : Int32) (Q : Int32 → List Nat → TF → Prop) : Nat → Int32 → List Nat → TF → Prop
  | 0 => fun v2_6 L_1 f_1 => wpB_Md_minutes_w_27_6 L f q0 p_0 Q (fun _ _ _ => True) v2_6 L_1 f_1
  | n + 1 => fun v2_6 L_1 f_1 => wpB_Md_minutes_w_27_6 L f q0 p_0 Q (wpL_Md_minutes_w_27_6 L f q0 p_0 Q n) v2_6 L_1 f_1
def wpR_Md_minutes_w_27_6 (L : List Nat) (f : TF) (q0 : Nat) (p_0 : Int32) (Q : Int32 → List Nat → TF → Prop) : Nat → Int32 → List Nat → TF → Prop
  | 0 => fun _ _ _ => True
  | n + 1 => wpL_Md_minutes_w_27_6 L f q0 p_0 Q n
theorem wpL_Md_minutes_w_27_6_eq {L : List Nat} {f : TF} {q0 : Nat} {p_0 : Int32} {Q : Int32 → List Nat → TF → Prop} {n : Nat} : wpL_Md_minutes_w_27_6 L f q0 p_0 Q n = wpB_Md_minutes_w_27_6 L f q0 p_0 Q (wpR_Md_minutes_w_27_6 L f q0 p_0 Q n) := by cases n <;> rfl
theorem wpR_Md_minutes_w_27_6_pos {L : List Nat} {f : TF} {q0 : Nat} {p_0 : Int32} {Q : Int32 → List Nat → TF → Prop} {n : Nat} (h : 0 < n) : wpR_Md_minutes_w_27_6 L f q0 p_0 Q n = wpL_Md_minutes_w_27_6 L f q0 p_0 Q (n - 1) := by
  cases n with
  | zero => omega
  | succ n => rfl
def wp_Md_minutes_w (L : List Nat) (f : TF) (q0 : Nat) (p_0 : Int32) (Q : Int32 → List Nat → TF → Prop) : Prop := ((p_0 < 1 → Q (-1) L f) ∧ (¬ (p_0 < 1) → ((1440 < p_0 → Q (-1) L f) ∧ (¬ (1440 < p_0) → ((((ti f q0 1) + p_0) ≤ 359999 → wpL_Md_minutes_w_27_6 L f q0 p_0 Q (((1440 : Int32).toInt - (0 : Int32).toInt).toNat) (0 : Int32) L f) ∧ (¬ (((ti f q0 1) + p_0) ≤ 359999) → Q (-1) L f))))))
set_option maxHeartbeats 4000000 in
set_option maxRecDepth 100000 in
theorem c_Md_minutes_w (l : Launch) (dC : Nat → ClassId) (dI : Nat → Nat → Nat) (ct : Nat → ClassId) (L : List Nat) (f : TF) (hO_0 : Ok L f) (q0 : Nat) (m0 : q0 ∈ L ∧ tk f q0 = 27) (sz : Nat) (p_0 : Int32)   (Q : Int32 → List Nat → TF → Prop) (hQ : wp_Md_minutes_w L f q0 p_0 Q) : Met l y_Md_minutes (.code y_Md_minutes b_Md_minutes 3 (some .int) :: TB) ({ frames := 1, cells := 0, slots := 0, locals := 25 }) (va_Pc [.ref q0, .int p_0] (PC dC dI (TW ct L f) (TT ct) sz)) (va_Qi (fun r (u : TSt) => Ok u.1 u.2 ∧ Ext W_Md_minutes_w L f u.1 u.2 ∧ (True) ∧ Q r u.1 u.2) (fun (u : TSt) t => va_P (dC, dI) vwCl (TW ct u.1 u.2) t.heap ∧ va_K (dC, dI) vwCl (TT ct) t ∧ va_D (va_A (TW ct L f) sz) (TW ct u.1 u.2)) (va_A (TW ct L f) sz)) 0 0 (va_A (TW ct L f) sz) := by
  refine Met.ofW (cc := b_Md_minutes) (maxL := 3) (ret := (some .int)) (by decide) rfl ?_
  intro p e s m args below meth c s₁ B hml hv
  obtain ⟨rfl, hsz, hP, hK, hD0, hN⟩ := hv
  have hx := B.exec
  have hb := B.bytes
  have hr := B.returns
  have hts := atoms_spec (ws := (.code y_Md_minutes b_Md_minutes 3 (some .int) :: TB)) B.pre
  have htb := fun w (h : w ∈ TB) => hts w (List.mem_cons_of_mem _ h)
  have hown : s.vm.findClass R_Md = some m.cls := findClass_of_methodNamed B.named
  have hlocks := B.notSynchronized
  have hl := lv_entry ([.ref q0, .int p_0]) (n := 3) (Nat.le_of_ble_eq_true rfl)
  rw [lg_entry_eq]
  generalize (lg_sl ([.ref q0, .int p_0]) ++ List.replicate (3 - (lg_sl ([.ref q0, .int p_0])).length) Slot.unset).toArray = ls at hl ⊢
  have hl : lv_has ls 3 [(0, .ref q0), (1, .int p_0)] := hl
  subst hsz
  have hD := hD0.self (sz := s.heap.size)
  obtain ⟨A, hAe⟩ : ∃ A, va_A (TW ct L f) s.heap.size = A := ⟨_, rfl⟩
  rw [hAe] at hD
  have hA : ∀ q : Nat, s.heap.size ≤ q → A q := fun q h => by rw [← hAe]; exact Or.inr h
  have hS : va_S A s.heap s.heap [] := va_S.rf
  have hA_0 : Ext [] L f L f := Ext.rf
  suffices hGo : ∀ (H : Heap) (locs : List Loc), va_P (dC, dI) vwCl (TW ct L f) H → va_S A s.heap H locs → W p l e (headSpec (.code y_Md_minutes b_Md_minutes 3 (some .int) :: TB) ({ frames := 1, cells := 0, slots := 0, locals := 25 })).room s m [.ref q0, .int p_0].toArray below meth c H locs 0 0 (MQ below (va_Qi (fun r (u : TSt) => Ok u.1 u.2 ∧ Ext W_Md_minutes_w L f u.1 u.2 ∧ (True) ∧ Q r u.1 u.2) (fun (u : TSt) t => va_P (dC, dI) vwCl (TW ct u.1 u.2) t.heap ∧ va_K (dC, dI) vwCl (TT ct) t ∧ va_D (va_A (TW ct L f) s.heap.size) (TW ct u.1 u.2)) (va_A (TW ct L f) s.heap.size)) [.ref q0, .int p_0].toArray s 0 0 (va_A (TW ct L f) s.heap.size)) (F0 m 0 ls []) from hGo _ _ hP hS
  clear hP hS
  intro H locs hP hS
  unfold wp_Md_minutes_w at hQ
  have bs_1 := hO_0.i m0 (show slotD 27 1 = some (.inl (0, 359999)) from rfl)
  refine lv_iload_n hx hb d_Md_minutes_0 rfl (lv_at hl 1 rfl) ?_
  refine lv_iconst (v := 1) hx hb d_Md_minutes_1 (by decide +kernel) ?_
  refine lv_sipush (v := 1440) hx hb d_Md_minutes_2 (by decide +kernel) ?_
  refine vp_callSi (va_Run.run (va_runS (As := [.int p_0, .int 1, .int 1440]) (rest := []) ⟨hx, hb, hml, hown, htb⟩ (c_Md_in l p_0 1 1440) (cwS 3 htb (gd_S tw_50 tw_51 tw_49 tw_48) rfl rfl rfl (by decide +kernel) ⟨Nat.le_of_ble_eq_true rfl, Nat.le_of_ble_eq_true rfl⟩) ⟨fun _ _ _ _ h => h, fun U _ _ => ⟨rfl, trivial⟩⟩ rfl rfl hl.1 rfl (lv_room (Nat.le_of_ble_eq_true rfl)) d_Md_minutes_5 ⟨Nat.le_of_ble_eq_true rfl, Nat.le_of_ble_eq_true rfl⟩)) (fun r er => ?_)
  subst er
  by_cases c_3 : p_0 < 1
  · have hQ := hQ.1 c_3
    refine hb_ti 0 (by unfold f_Md_in; rw [if_pos c_3]; first | done | rfl) ?_
    refine lv_if_eq (tgt := 23) hx hb d_Md_minutes_8 (by decide) (fun _ => ?_) (fun h => absurd (by decide +kernel) h)
    refine lv_iconst (v := (-1)) hx hb d_Md_minutes_23 (by decide +kernel) ?_
    refine W.widen (k := 0) (n := 0) (Nat.le_of_ble_eq_true rfl) (Nat.le_of_ble_eq_true rfl) ?_
    exact W.iret (v := (-1)) hx hb hr (fun t ht hW => ⟨⟨(-1), (L, f), rfl, ⟨hO_0, hA_0.mono (by decide +kernel), trivial, hQ⟩, by rw [ht]; exact hP, va_K.moved hW.alike hK, by rw [hAe]; exact hD⟩, by rw [hAe]; exact hS.F ht⟩) (by rw [hAe]; exact hS.2.2) d_Md_minutes_24
  · have hQ := hQ.2 c_3
    by_cases c_4 : 1440 < p_0
    · have hQ := hQ.1 c_4
      refine hb_ti 0 (by unfold f_Md_in; rw [if_neg c_3, if_pos c_4]; first | done | rfl) ?_
      refine lv_if_eq (tgt := 23) hx hb d_Md_minutes_8 (by decide) (fun _ => ?_) (fun h => absurd (by decide +kernel) h)
      refine lv_iconst (v := (-1)) hx hb d_Md_minutes_23 (by decide +kernel) ?_
      refine W.widen (k := 0) (n := 0) (Nat.le_of_ble_eq_true rfl) (Nat.le_of_ble_eq_true rfl) ?_
      exact W.iret (v := (-1)) hx hb hr (fun t ht hW => ⟨⟨(-1), (L, f), rfl, ⟨hO_0, hA_0.mono (by decide +kernel), trivial, hQ⟩, by rw [ht]; exact hP, va_K.moved hW.alike hK, by rw [hAe]; exact hD⟩, by rw [hAe]; exact hS.F ht⟩) (by rw [hAe]; exact hS.2.2) d_Md_minutes_24
    · have hQ := hQ.2 c_4
      refine hb_ti 1 (by unfold f_Md_in; rw [if_neg c_3, if_neg c_4]; first | done | rfl) ?_
      refine lv_if_eq (tgt := 23) hx hb d_Md_minutes_8 (by decide) (fun h => absurd h (by decide +kernel)) (fun _ => ?_)
      refine lv_aload_n hx hb d_Md_minutes_11 rfl (lv_at hl 0 rfl) ?_
      refine tw_getI (x := (ti f q0 1)) (D := (dC, dI)) (C := R_Md) (T := F_Md) (N := 64) (ci := 7) (kd := 27) (ct := ct) hx hb htb i_Md hown hK hP m0 rfl rfl 1 rfl (by decide) (htb (.fieldLink R_Md 7 "WaterMenModel" "time" "I") tw_122) (fun _ h9 => h9) rfl d_Md_minutes_12 ?_
      refine lv_iload_n hx hb d_Md_minutes_15 rfl (lv_at hl 1 rfl) ?_
      refine lv_iadd hx hb d_Md_minutes_16 ?_
      refine lv_ldcw (v := 359999) hx hb hown (htb (.constant R_Md 305 359999) tw_193) d_Md_minutes_17 ?_
      refine lv_icmp_le (tgt := 25) hx hb d_Md_minutes_20 (by decide) (fun c_5 => ?_) (fun c_5 => ?_)
      · have hQ := hQ.1 c_5
        refine lv_iconst (v := 0) hx hb d_Md_minutes_25 (by decide +kernel) ?_
        refine lv_istore_n (lv' := [(2, .int 0), (0, .ref q0), (1, .int p_0)]) hx hb d_Md_minutes_26 rfl hl (by decide) rfl (fun ls hl => ?_)
        have cut_6 : ∀ (n_6 : Nat) (v2_6 : Int32) (L_1 : List Nat) (f_1 : TF) (H : Heap) (locs : List Loc) (ls : Array Slot), va_P (dC, dI) vwCl (TW ct L_1 f_1) H → va_D A (TW ct L_1 f_1) → va_S A s.heap H locs → Ok L_1 f_1 → Ext WL_Md_minutes_w_27_6 L f L_1 f_1 → ¬ (v2_6 < 0) → ¬ (1440 < v2_6) → (ti f_1 q0 1) = ((ti f q0 1) + v2_6) → (1440 : Int32).toInt - (v2_6 : Int32).toInt ≤ (n_6 : Int) → wpL_Md_minutes_w_27_6 L f q0 p_0 Q n_6 v2_6 L_1 f_1 → lv_has ls 3 [(0, .ref q0), (1, .int p_0), (2, .int v2_6)] → W p l e (headSpec (.code y_Md_minutes b_Md_minutes 3 (some .int) :: TB) ({ frames := 1, cells := 0, slots := 0, locals := 25 })).room s m [.ref q0, .int p_0].toArray below meth c H locs 0 0 (MQ below (va_Qi (fun r (u : TSt) => Ok u.1 u.2 ∧ Ext W_Md_minutes_w L f u.1 u.2 ∧ (True) ∧ Q r u.1 u.2) (fun (u : TSt) t => va_P (dC, dI) vwCl (TW ct u.1 u.2) t.heap ∧ va_K (dC, dI) vwCl (TT ct) t ∧ va_D (va_A (TW ct L f) s.heap.size) (TW ct u.1 u.2)) (va_A (TW ct L f) s.heap.size)) [.ref q0, .int p_0].toArray s 0 0 (va_A (TW ct L f) s.heap.size)) (F0 m 27 ls []) := by
          intro n_6
          induction n_6 using Nat.strongRecOn with
          | _ n_6 ih_6 =>
            intro v2_6 L_1 f_1 H locs ls hP hD hS hO_1 hE_1 iv0_6 iv1_6 iv2_6 hm_6 hQ hl
            have hA_1 := hA_0.trans hE_1
            have bf_7 := hO_1.i (hA_1.m m0) (show slotD 27 1 = some (.inl (0, 359999)) from rfl)
            rw [wpL_Md_minutes_w_27_6_eq] at hQ
            obtain ⟨rec_6, hrec_6⟩ : ∃ g, wpR_Md_minutes_w_27_6 L f q0 p_0 Q n_6 = g := ⟨_, rfl⟩
            rw [hrec_6] at hQ
            unfold wpB_Md_minutes_w_27_6 at hQ
            have hQ := hQ hO_1 hE_1
            refine lv_iload_n hx hb d_Md_minutes_27 rfl (lv_at hl 2 rfl) ?_
            refine lv_iload_n hx hb d_Md_minutes_28 rfl (lv_at hl 1 rfl) ?_
            refine lv_icmp_ge (tgt := 106) hx hb d_Md_minutes_29 (by decide) (fun c_8 => ?_) (fun c_8 => ?_)
            · have hQ := hQ.1 c_8
              refine lv_aload_n hx hb d_Md_minutes_106 rfl (lv_at hl 0 rfl) ?_
              refine tw_getI (x := (ti f_1 q0 1)) (D := (dC, dI)) (C := R_Md) (T := F_Md) (N := 64) (ci := 7) (kd := 27) (ct := ct) hx hb htb i_Md hown hK hP (hA_1.m m0) rfl rfl 1 rfl (by decide) (htb (.fieldLink R_Md 7 "WaterMenModel" "time" "I") tw_122) (fun _ h9 => h9) rfl d_Md_minutes_107 ?_
              refine W.widen (k := 0) (n := 0) (Nat.le_of_ble_eq_true rfl) (Nat.le_of_ble_eq_true rfl) ?_
              exact W.iret (v := (ti f_1 q0 1)) hx hb hr (fun t ht hW => ⟨⟨(ti f_1 q0 1), (L_1, f_1), rfl, ⟨hO_1, hA_1.mono (by decide +kernel), trivial, hQ⟩, by rw [ht]; exact hP, va_K.moved hW.alike hK, by rw [hAe]; exact hD⟩, by rw [hAe]; exact hS.F ht⟩) (by rw [hAe]; exact hS.2.2) d_Md_minutes_110
            · have hQ := hQ.2 c_8
              refine lv_aload_n hx hb d_Md_minutes_32 rfl (lv_at hl 0 rfl) ?_
              refine lv_dup hx hb d_Md_minutes_33 rfl ?_
              refine tw_getI (x := (ti f_1 q0 1)) (D := (dC, dI)) (C := R_Md) (T := F_Md) (N := 64) (ci := 7) (kd := 27) (ct := ct) hx hb htb i_Md hown hK hP (hA_1.m m0) rfl rfl 1 rfl (by decide) (htb (.fieldLink R_Md 7 "WaterMenModel" "time" "I") tw_122) (fun _ h9 => h9) rfl d_Md_minutes_34 ?_
              refine lv_iconst (v := 1) hx hb d_Md_minutes_37 (by decide +kernel) ?_
              refine lv_iadd hx hb d_Md_minutes_38 ?_
              refine tw_puti (v := ((ti f_1 q0 1) + 1)) (D := (dC, dI)) (C := R_Md) (T := F_Md) (N := 64) (ci := 7) (kd := 27) (ct := ct) (ty := .int) hx hb htb i_Md t_Md t_Md_ok n_Md hown hK hP hD hS hO_1 (hA_1.m m0) rfl rfl 1 (by decide) (htb (.fieldLink R_Md 7 "WaterMenModel" "time" "I") tw_122) (fun _ h9 => h9) rfl (by decide +kernel) rfl rfl rfl ⟨(show ¬ (((ti f_1 q0 1) + 1) < 0) from ((fun (a_0 : Int32) (k_0 : ¬ (a_0 < 0)) (k_1 : ¬ (359999 < a_0)) => (show ¬ ((a_0 + 1) < 0) from by have z0 : (0 : Int32).toInt = 0 := (by decide +kernel); have z1 : (1 : Int32).toInt = 1 := (by decide +kernel); have z2 : (359999 : Int32).toInt = 359999 := (by decide +kernel); have r0 := fb_rng (a_0); have e0 := k_0; rw [Int32.lt_iff_toInt_lt, z0] at e0; have e1 := k_1; rw [Int32.lt_iff_toInt_lt, z2] at e1; obtain ⟨n_0, hn_0, s0⟩ := nd_add (x := a_0) (y := (1 : Int32)) (by (try rw [z1]); omega) (by (try rw [z1]); omega); rw [z1] at s0; rw [hn_0, Int32.lt_iff_toInt_lt, z0]; omega)) (ti f_1 q0 1) bf_7.1 bf_7.2)), (show ¬ (359999 < ((ti f_1 q0 1) + 1)) from ((fun (a_0 : Int32) (a_1 : Int32) (a_2 : Int32) (a_3 : Int32) (k_0 : ¬ (a_0 ≤ a_3)) (k_1 : ¬ (359999 < a_1)) (k_2 : ¬ (1440 < a_0)) (k_3 : ¬ (a_3 < 0)) (k_4 : a_2 = (a_1 + a_3)) (k_5 : (a_1 + a_0) ≤ 359999) => (show ¬ (359999 < (a_2 + 1)) from by have z0 : (0 : Int32).toInt = 0 := (by decide +kernel); have z1 : (1 : Int32).toInt = 1 := (by decide +kernel); have z2 : (1440 : Int32).toInt = 1440 := (by decide +kernel); have z3 : (359999 : Int32).toInt = 359999 := (by decide +kernel); have r0 := fb_rng (a_0); have r1 := fb_rng (a_1); have r2 := fb_rng (a_2); have r3 := fb_rng (a_3); have e0 := k_0; rw [Int32.le_iff_toInt_le] at e0; have e1 := k_1; rw [Int32.lt_iff_toInt_lt, z3] at e1; have e2 := k_2; rw [Int32.lt_iff_toInt_lt, z2] at e2; have e3 := k_3; rw [Int32.lt_iff_toInt_lt, z0] at e3; obtain ⟨n_0, hn_0, s0⟩ := nd_add (x := a_1) (y := (a_3)) (by omega) (by omega); have e4 := k_4; rw [hn_0, ← Int32.toInt_inj] at e4; obtain ⟨n_1, hn_1, s1⟩ := nd_add (x := a_1) (y := (a_0)) (by omega) (by omega); have e5 := k_5; rw [hn_1, Int32.le_iff_toInt_le, z3] at e5; obtain ⟨n_2, hn_2, s2⟩ := nd_add (x := a_2) (y := (1 : Int32)) (by (try rw [z1]); omega) (by (try rw [z1]); omega); rw [z1] at s2; rw [hn_2, Int32.lt_iff_toInt_lt, z3]; omega)) p_0 (ti f q0 1) (ti f_1 q0 1) v2_6 c_8 bs_1.2 c_4 iv0_6 iv2_6 c_5))⟩ d_Md_minutes_39 (fun f_2 H locs hP hD hS hO_2 hE_2 w_9 hF_2 => ?_)
              have hA_2 := hA_1.trans hE_2
              have hQ := hQ f_2 hF_2
              have hQ := hQ hO_2
              refine lv_aload_n hx hb d_Md_minutes_42 rfl (lv_at hl 0 rfl) ?_
              have hFc := hb_free hD hS hA
              refine va_callv (va_runV (As := []) (rest := []) ⟨hx, hb, hml, hown, htb⟩ (c_Md_arrive_w l dC dI ct L_1 f_2 hO_2 q0 (hA_2.m m0) _ _ hQ) (cwV 0 htb (gd_V tw_199 tw_200 tw_201 tw_49 tw_198) rfl rfl rfl (by decide +kernel) ⟨Nat.le_of_ble_eq_true rfl, Nat.le_of_ble_eq_true rfl⟩) ⟨pc_blind, tw_recv hK hP (hA_2.m m0) rfl rfl, pc_pre hP hK hD hN⟩ rfl rfl hl.1 rfl (lv_room (Nat.le_of_ble_eq_true rfl)) d_Md_minutes_43 ⟨Nat.le_of_ble_eq_true rfl, Nat.le_of_ble_eq_true rfl⟩) hS (fun q _ h => hFc q h) hFc (fun u t H locs ht hvm er hB hz1 hk1 hS => ?_)
              obtain ⟨L_3, f_3⟩ := u
              obtain ⟨hO_3, hE_3, er, hQ⟩ := er
              obtain ⟨hP, hK1, hD1⟩ := hB
              rw [ht] at hP
              have hP : va_P (dC, dI) vwCl (TW ct L_3 f_3) H := hP
              have hD : va_D A (TW ct L_3 f_3) := hD1.weaken (fun _ q _ h => hFc q.1 h)
              have hO_3 : Ok L_3 f_3 := hO_3
              have hE_3 : Ext W_Md_arrive_w L_1 f_2 L_3 f_3 := hE_3
              clear hK1 hD1 ht hvm hz1 hk1
              have hA_3 := hA_2.trans hE_3
              have hQ := hQ hO_3 hE_3
              clear er
              refine lv_aload_n hx hb d_Md_minutes_46 rfl (lv_at hl 0 rfl) ?_
              refine tw_getI (x := ((ti f_1 q0 1) + 1)) (D := (dC, dI)) (C := R_Md) (T := F_Md) (N := 64) (ci := 7) (kd := 27) (ct := ct) hx hb htb i_Md hown hK hP (hA_3.m m0) rfl rfl 1 ((hE_3.ei (hA_2.m m0) rfl).trans w_9) (by decide) (htb (.fieldLink R_Md 7 "WaterMenModel" "time" "I") tw_122) (fun _ h9 => h9) rfl d_Md_minutes_47 ?_
              refine lv_sipush (v := 720) hx hb d_Md_minutes_50 (by decide +kernel) ?_
              refine lv_irem hx hb d_Md_minutes_53 (by decide) ?_
              refine hb_remn (c := 720) (C1 := 719) (K := 2147482927) (by decide +kernel) (by decide +kernel) (by decide +kernel) (show ¬ (((ti f_1 q0 1) + 1) < 0) from ((fun (a_0 : Int32) (k_0 : ¬ (a_0 < 0)) (k_1 : ¬ (359999 < a_0)) => (show ¬ ((a_0 + 1) < 0) from by have z0 : (0 : Int32).toInt = 0 := (by decide +kernel); have z1 : (1 : Int32).toInt = 1 := (by decide +kernel); have z2 : (359999 : Int32).toInt = 359999 := (by decide +kernel); have r0 := fb_rng (a_0); have e0 := k_0; rw [Int32.lt_iff_toInt_lt, z0] at e0; have e1 := k_1; rw [Int32.lt_iff_toInt_lt, z2] at e1; obtain ⟨n_0, hn_0, s0⟩ := nd_add (x := a_0) (y := (1 : Int32)) (by (try rw [z1]); omega) (by (try rw [z1]); omega); rw [z1] at s0; rw [hn_0, Int32.lt_iff_toInt_lt, z0]; omega)) (ti f_1 q0 1) bf_7.1 bf_7.2)) (show ¬ (2147482927 < ((ti f_1 q0 1) + 1)) from ((fun (a_0 : Int32) (k_0 : ¬ (359999 < a_0)) => (show ¬ (2147482927 < (a_0 + 1)) from by have z0 : (1 : Int32).toInt = 1 := (by decide +kernel); have z1 : (359999 : Int32).toInt = 359999 := (by decide +kernel); have z2 : (2147482927 : Int32).toInt = 2147482927 := (by decide +kernel); have r0 := fb_rng (a_0); have e0 := k_0; rw [Int32.lt_iff_toInt_lt, z1] at e0; obtain ⟨n_0, hn_0, s0⟩ := nd_add (x := a_0) (y := (1 : Int32)) (by (try rw [z0]); omega) (by (try rw [z0]); omega); rw [z0] at s0; rw [hn_0, Int32.lt_iff_toInt_lt, z2]; omega)) (ti f_1 q0 1) bf_7.2)) (fun y_11 qu_11 g1_11 g2_11 g3_11 g4_11 g5_11 g9_11 => ?_)
              have hQ := hQ y_11 g9_11
              refine lv_if_eq (tgt := 60) hx hb d_Md_minutes_54 (by decide) (fun c_12 => ?_) (fun c_12 => ?_)
              · have hQ := hQ.1 c_12
                refine lv_aload_n hx hb d_Md_minutes_60 rfl (lv_at hl 0 rfl) ?_
                refine vp_callSi (va_Run.run (va_runV (As := []) (rest := []) ⟨hx, hb, hml, hown, htb⟩ (c_Md_today_w l dC dI ct L_3 f_3 hO_3 q0 (hA_3.m m0) _ hQ) (cwV 0 htb (gd_V tw_124 tw_125 tw_126 tw_49 tw_123) rfl rfl rfl (by decide +kernel) ⟨Nat.le_of_ble_eq_true rfl, Nat.le_of_ble_eq_true rfl⟩) ⟨pr_blind, tw_recv hK hP (hA_3.m m0) rfl rfl, pr_pre hP hK hN⟩ rfl rfl hl.1 rfl (lv_room (Nat.le_of_ble_eq_true rfl)) d_Md_minutes_61 ⟨Nat.le_of_ble_eq_true rfl, Nat.le_of_ble_eq_true rfl⟩)) (fun r_13 er_13 => ?_)
                obtain ⟨er_13, hQ⟩ := er_13
                obtain ⟨po_14, po_15, po_16, po_17, -⟩ := er_13
                rw [show ti f_3 q0 1 = ((ti f_1 q0 1) + 1) from ((hE_3.ei (hA_2.m m0) rfl).trans w_9)] at po_16
                rw [show ti f_3 q0 1 = ((ti f_1 q0 1) + 1) from ((hE_3.ei (hA_2.m m0) rfl).trans w_9)] at po_17
                refine lv_iconst (v := 1) hx hb d_Md_minutes_64 (by decide +kernel) ?_
                refine lv_isub hx hb d_Md_minutes_65 ?_
                refine lv_bipush (v := 7) hx hb d_Md_minutes_66 (by decide +kernel) ?_
                refine lv_irem hx hb d_Md_minutes_68 (by decide) ?_
                refine hb_remn (c := 7) (C1 := 6) (K := 2147483640) (by decide +kernel) (by decide +kernel) (by decide +kernel) (show ¬ ((r_13 - 1) < 0) from ((fun (a_0 : Int32) (a_1 : Int32) (a_2 : Int32) (a_3 : Int32) (k_0 : ¬ (a_1 < 0)) (k_1 : ¬ (499 < a_1)) (k_2 : ¬ (a_2 < 0)) (k_3 : ¬ (359999 < a_2)) (k_4 : ¬ ((a_2 + 1) < a_0)) (k_5 : a_3 = 0) (k_6 : ¬ (a_0 < 0)) (k_7 : ¬ (((a_1 * 720) + 719) < (a_2 + 1))) (k_8 : (a_2 + 1) = ((a_0 * 720) + a_3)) => (show ¬ ((a_1 - 1) < 0) from by have z0 : (0 : Int32).toInt = 0 := (by decide +kernel); have z1 : (1 : Int32).toInt = 1 := (by decide +kernel); have z2 : (499 : Int32).toInt = 499 := (by decide +kernel); have z3 : (719 : Int32).toInt = 719 := (by decide +kernel); have z4 : (720 : Int32).toInt = 720 := (by decide +kernel); have z5 : (359999 : Int32).toInt = 359999 := (by decide +kernel); have r0 := fb_rng (a_0); have r1 := fb_rng (a_1); have r2 := fb_rng (a_2); have r3 := fb_rng (a_3); have e0 := k_0; rw [Int32.lt_iff_toInt_lt, z0] at e0; have e1 := k_1; rw [Int32.lt_iff_toInt_lt, z2] at e1; obtain ⟨n_0, hn_0, s0⟩ := nd_mul (x := (a_1)) (y := (720 : Int32)) (by (try rw [z4]); omega) (by (try rw [z4]); omega); rw [z4] at s0; obtain ⟨n_1, hn_1, s1⟩ := nd_add (x := n_0) (y := (719 : Int32)) (by (try rw [z3]); omega) (by (try rw [z3]); omega); rw [z3] at s1; have e2 := k_2; rw [Int32.lt_iff_toInt_lt, z0] at e2; have e3 := k_3; rw [Int32.lt_iff_toInt_lt, z5] at e3; obtain ⟨n_2, hn_2, s2⟩ := nd_add (x := a_2) (y := (1 : Int32)) (by (try rw [z1]); omega) (by (try rw [z1]); omega); rw [z1] at s2; have e4 := k_4; rw [hn_2, Int32.lt_iff_toInt_lt] at e4; have e5 := k_5; rw [← Int32.toInt_inj, z0] at e5; have e6 := k_6; rw [Int32.lt_iff_toInt_lt, z0] at e6; have e7 := k_7; rw [hn_0, hn_1, hn_2, Int32.lt_iff_toInt_lt] at e7; obtain ⟨n_3, hn_3, s3⟩ := nd_mul (x := (a_0)) (y := (720 : Int32)) (by (try rw [z4]); omega) (by (try rw [z4]); omega); rw [z4] at s3; obtain ⟨n_4, hn_4, s4⟩ := nd_add (x := n_3) (y := (a_3)) (by omega) (by omega); have e8 := k_8; rw [hn_2, hn_3, hn_4, ← Int32.toInt_inj] at e8; obtain ⟨n_5, hn_5, s5⟩ := nd_sub (x := (a_1)) (y := (1 : Int32)) (by (try rw [z1]); omega) (by (try rw [z1]); omega); rw [z1] at s5; rw [hn_5, Int32.lt_iff_toInt_lt, z0]; omega)) qu_11 r_13 (ti f_1 q0 1) y_11 po_14 po_15 bf_7.1 bf_7.2 g4_11 c_12 g3_11 po_17 g5_11)) (show ¬ (2147483640 < (r_13 - 1)) from by have e0 := po_14; rw [Int32.lt_iff_toInt_lt] at e0; have e1 := po_15; rw [Int32.lt_iff_toInt_lt] at e1; have z0 : (0 : Int32).toInt = 0 := (by decide +kernel); have z1 : (1 : Int32).toInt = 1 := (by decide +kernel); have z2 : (499 : Int32).toInt = 499 := (by decide +kernel); have z3 : (2147483640 : Int32).toInt = 2147483640 := (by decide +kernel); have ss := fb_subI (x := r_13) (y := 1) (by omega) (by omega); rw [Int32.lt_iff_toInt_lt]; omega) (fun y_18 qu_18 g1_18 g2_18 g3_18 g4_18 g5_18 g9_18 => ?_)
                have hQ := hQ y_18 g9_18
                refine lv_if_ne (tgt := 82) hx hb d_Md_minutes_69 (by decide) (fun c_19 => ?_) (fun c_19 => ?_)
                · have hQ := hQ.2 c_19
                  refine lv_aload_n hx hb d_Md_minutes_82 rfl (lv_at hl 0 rfl) ?_
                  refine vp_callSi (va_Run.run (va_runV (As := []) (rest := []) ⟨hx, hb, hml, hown, htb⟩ (c_Md_today_w l dC dI ct L_3 f_3 hO_3 q0 (hA_3.m m0) _ hQ) (cwV 0 htb (gd_V tw_124 tw_125 tw_126 tw_49 tw_123) rfl rfl rfl (by decide +kernel) ⟨Nat.le_of_ble_eq_true rfl, Nat.le_of_ble_eq_true rfl⟩) ⟨pr_blind, tw_recv hK hP (hA_3.m m0) rfl rfl, pr_pre hP hK hN⟩ rfl rfl hl.1 rfl (lv_room (Nat.le_of_ble_eq_true rfl)) d_Md_minutes_83 ⟨Nat.le_of_ble_eq_true rfl, Nat.le_of_ble_eq_true rfl⟩)) (fun r_20 er_20 => ?_)
                  obtain ⟨er_20, hQ⟩ := er_20
                  obtain ⟨po_21, po_22, po_23, po_24, -⟩ := er_20
                  rw [show ti f_3 q0 1 = ((ti f_1 q0 1) + 1) from ((hE_3.ei (hA_2.m m0) rfl).trans w_9)] at po_23
                  rw [show ti f_3 q0 1 = ((ti f_1 q0 1) + 1) from ((hE_3.ei (hA_2.m m0) rfl).trans w_9)] at po_24
                  refine lv_bipush (v := 100) hx hb d_Md_minutes_86 (by decide +kernel) ?_
                  refine lv_irem hx hb d_Md_minutes_88 (by decide) ?_
                  refine hb_remn (c := 100) (C1 := 99) (K := 2147483547) (by decide +kernel) (by decide +kernel) (by decide +kernel) po_21 (show ¬ (2147483547 < r_20) from by have e0 := po_21; rw [Int32.lt_iff_toInt_lt] at e0; have e1 := po_22; rw [Int32.lt_iff_toInt_lt] at e1; have z0 : (0 : Int32).toInt = 0 := (by decide +kernel); have z1 : (499 : Int32).toInt = 499 := (by decide +kernel); have z2 : (2147483547 : Int32).toInt = 2147483547 := (by decide +kernel); rw [Int32.lt_iff_toInt_lt]; omega) (fun y_25 qu_25 g1_25 g2_25 g3_25 g4_25 g5_25 g9_25 => ?_)
                  have hQ := hQ y_25 g9_25
                  refine lv_if_ne (tgt := 100) hx hb d_Md_minutes_89 (by decide) (fun c_26 => ?_) (fun c_26 => ?_)
                  · have hQ := hQ.2 c_26
                    refine lv_iinc (v := (v2_6 + 1)) (lv' := [(2, .int (v2_6 + 1)), (0, .ref q0), (1, .int p_0)]) hx hb d_Md_minutes_100 hl (k := 2) rfl rfl (by decide) rfl (fun ls hl => ?_)
                    refine lv_goto (tgt := 27) hx hb d_Md_minutes_103 (by decide) ?_
                    exact ih_6 (n_6 - 1) (ms_1 ((fun (a_0 : Int32) (a_1 : Int32) (k_0 : ¬ (a_0 ≤ a_1)) (k_1 : ¬ (1440 < a_0)) => (show 1 ≤ (1440 : Int32).toInt - (a_1).toInt ∧ (1440 : Int32).toInt - ((a_1) + (1 : Int32)).toInt + 1 ≤ (1440 : Int32).toInt - (a_1).toInt from by have z0 : (1 : Int32).toInt = 1 := (by decide +kernel); have z1 : (1440 : Int32).toInt = 1440 := (by decide +kernel); have r0 := fb_rng (a_0); have r1 := fb_rng (a_1); have e0 := k_0; rw [Int32.le_iff_toInt_le] at e0; have e1 := k_1; rw [Int32.lt_iff_toInt_lt, z1] at e1; obtain ⟨n_0, hn_0, s0⟩ := nd_add (x := (a_1)) (y := (1 : Int32)) (by (try rw [z0]); omega) (by (try rw [z0]); omega); rw [z0] at s0; rw [hn_0]; (try rw [z1]); omega)) p_0 v2_6 c_8 c_4) hm_6) (v2_6 + 1) _ _ _ _ _ hP hD hS hO_3 (((hE_1.trans hE_2).trans hE_3).mono (by decide +kernel)) (show ¬ ((v2_6 + 1) < 0) from by have e0 := iv0_6; rw [Int32.lt_iff_toInt_lt] at e0; have e1 := iv1_6; rw [Int32.lt_iff_toInt_lt] at e1; have z0 : (0 : Int32).toInt = 0 := (by decide +kernel); have z1 : (1 : Int32).toInt = 1 := (by decide +kernel); have z2 : (1440 : Int32).toInt = 1440 := (by decide +kernel); have ss := fb_addI (x := v2_6) (y := 1) (by omega) (by omega); rw [Int32.lt_iff_toInt_lt]; omega) (show ¬ (1440 < (v2_6 + 1)) from ((fun (a_0 : Int32) (a_1 : Int32) (k_0 : ¬ (a_0 ≤ a_1)) (k_1 : ¬ (1440 < a_0)) => (show ¬ (1440 < (a_1 + 1)) from by have z0 : (1 : Int32).toInt = 1 := (by decide +kernel); have z1 : (1440 : Int32).toInt = 1440 := (by decide +kernel); have r0 := fb_rng (a_0); have r1 := fb_rng (a_1); have e0 := k_0; rw [Int32.le_iff_toInt_le] at e0; have e1 := k_1; rw [Int32.lt_iff_toInt_lt, z1] at e1; obtain ⟨n_0, hn_0, s0⟩ := nd_add (x := (a_1)) (y := (1 : Int32)) (by (try rw [z0]); omega) (by (try rw [z0]); omega); rw [z0] at s0; rw [hn_0, Int32.lt_iff_toInt_lt, z1]; omega)) p_0 v2_6 c_8 c_4)) (by rw [show ti f_3 q0 1 = ((ti f_1 q0 1) + 1) from ((hE_3.ei (hA_2.m m0) rfl).trans w_9)]; first | done | exact (show ((ti f_1 q0 1) + 1) = ((ti f q0 1) + (v2_6 + 1)) from ((fun (a_0 : Int32) (a_1 : Int32) (a_2 : Int32) (a_3 : Int32) (k_0 : ¬ (359999 < a_1)) (k_1 : ¬ (a_3 < 0)) (k_2 : ¬ (a_0 ≤ a_3)) (k_3 : ¬ (1440 < a_0)) (k_4 : a_2 = (a_1 + a_3)) => (show (a_2 + 1) = (a_1 + (a_3 + 1)) from by have z0 : (0 : Int32).toInt = 0 := (by decide +kernel); have z1 : (1 : Int32).toInt = 1 := (by decide +kernel); have z2 : (1440 : Int32).toInt = 1440 := (by decide +kernel); have z3 : (359999 : Int32).toInt = 359999 := (by decide +kernel); have r0 := fb_rng (a_0); have r1 := fb_rng (a_1); have r2 := fb_rng (a_2); have r3 := fb_rng (a_3); have e0 := k_0; rw [Int32.lt_iff_toInt_lt, z3] at e0; have e1 := k_1; rw [Int32.lt_iff_toInt_lt, z0] at e1; have e2 := k_2; rw [Int32.le_iff_toInt_le] at e2; have e3 := k_3; rw [Int32.lt_iff_toInt_lt, z2] at e3; obtain ⟨n_0, hn_0, s0⟩ := nd_add (x := a_1) (y := (a_3)) (by omega) (by omega); have e4 := k_4; rw [hn_0, ← Int32.toInt_inj] at e4; obtain ⟨n_1, hn_1, s1⟩ := nd_add (x := a_2) (y := (1 : Int32)) (by (try rw [z1]); omega) (by (try rw [z1]); omega); rw [z1] at s1; obtain ⟨n_2, hn_2, s2⟩ := nd_add (x := (a_3)) (y := (1 : Int32)) (by (try rw [z1]); omega) (by (try rw [z1]); omega); rw [z1] at s2; obtain ⟨n_3, hn_3, s3⟩ := nd_add (x := a_1) (y := n_2) (by omega) (by omega); rw [hn_1, hn_2, hn_3, ← Int32.toInt_inj]; omega)) p_0 (ti f q0 1) (ti f_1 q0 1) v2_6 bs_1.2 iv0_6 c_8 c_4 iv2_6))) (by exact ms_2 ((fun (a_0 : Int32) (a_1 : Int32) (k_0 : ¬ (a_0 ≤ a_1)) (k_1 : ¬ (1440 < a_0)) => (show 1 ≤ (1440 : Int32).toInt - (a_1).toInt ∧ (1440 : Int32).toInt - ((a_1) + (1 : Int32)).toInt + 1 ≤ (1440 : Int32).toInt - (a_1).toInt from by have z0 : (1 : Int32).toInt = 1 := (by decide +kernel); have z1 : (1440 : Int32).toInt = 1440 := (by decide +kernel); have r0 := fb_rng (a_0); have r1 := fb_rng (a_1); have e0 := k_0; rw [Int32.le_iff_toInt_le] at e0; have e1 := k_1; rw [Int32.lt_iff_toInt_lt, z1] at e1; obtain ⟨n_0, hn_0, s0⟩ := nd_add (x := (a_1)) (y := (1 : Int32)) (by (try rw [z0]); omega) (by (try rw [z0]); omega); rw [z0] at s0; rw [hn_0]; (try rw [z1]); omega)) p_0 v2_6 c_8 c_4) hm_6) (by rw [← hrec_6, wpR_Md_minutes_w_27_6_pos (ms_3 ((fun (a_0 : Int32) (a_1 : Int32) (k_0 : ¬ (a_0 ≤ a_1)) (k_1 : ¬ (1440 < a_0)) => (show 1 ≤ (1440 : Int32).toInt - (a_1).toInt ∧ (1440 : Int32).toInt - ((a_1) + (1 : Int32)).toInt + 1 ≤ (1440 : Int32).toInt - (a_1).toInt from by have z0 : (1 : Int32).toInt = 1 := (by decide +kernel); have z1 : (1440 : Int32).toInt = 1440 := (by decide +kernel); have r0 := fb_rng (a_0); have r1 := fb_rng (a_1); have e0 := k_0; rw [Int32.le_iff_toInt_le] at e0; have e1 := k_1; rw [Int32.lt_iff_toInt_lt, z1] at e1; obtain ⟨n_0, hn_0, s0⟩ := nd_add (x := (a_1)) (y := (1 : Int32)) (by (try rw [z0]); omega) (by (try rw [z0]); omega); rw [z0] at s0; rw [hn_0]; (try rw [z1]); omega)) p_0 v2_6 c_8 c_4) hm_6)] at hQ; exact hQ) (lv_sub hl [1, 2, 0] rfl)
                  · have hQ := hQ.1 c_26
                    refine lv_aload_n hx hb d_Md_minutes_92 rfl (lv_at hl 0 rfl) ?_
                    refine lv_aload_n hx hb d_Md_minutes_93 rfl (lv_at hl 0 rfl) ?_
                    refine vp_callSi (va_Run.run (va_runV (As := []) (rest := [.ref q0]) ⟨hx, hb, hml, hown, htb⟩ (c_Md_today_w l dC dI ct L_3 f_3 hO_3 q0 (hA_3.m m0) _ hQ) (cwV 0 htb (gd_V tw_124 tw_125 tw_126 tw_49 tw_123) rfl rfl rfl (by decide +kernel) ⟨Nat.le_of_ble_eq_true rfl, Nat.le_of_ble_eq_true rfl⟩) ⟨pr_blind, tw_recv hK hP (hA_3.m m0) rfl rfl, pr_pre hP hK hN⟩ rfl rfl hl.1 rfl (lv_room (Nat.le_of_ble_eq_true rfl)) d_Md_minutes_94 ⟨Nat.le_of_ble_eq_true rfl, Nat.le_of_ble_eq_true rfl⟩)) (fun r_27 er_27 => ?_)
                    obtain ⟨er_27, hQ⟩ := er_27
                    obtain ⟨po_28, po_29, po_30, po_31, -⟩ := er_27
                    rw [show ti f_3 q0 1 = ((ti f_1 q0 1) + 1) from ((hE_3.ei (hA_2.m m0) rfl).trans w_9)] at po_30
                    rw [show ti f_3 q0 1 = ((ti f_1 q0 1) + 1) from ((hE_3.ei (hA_2.m m0) rfl).trans w_9)] at po_31
                    have hFc := hb_free hD hS hA
                    refine va_callv (va_runV (As := [.int r_27]) (rest := []) ⟨hx, hb, hml, hown, htb⟩ (c_Md_pay_w l dC dI ct L_3 f_3 hO_3 q0 (hA_3.m m0) _ r_27 _ hQ) (cwV 1 htb (gd_V tw_209 tw_210 tw_211 tw_49 tw_208) rfl rfl rfl (by decide +kernel) ⟨Nat.le_of_ble_eq_true rfl, Nat.le_of_ble_eq_true rfl⟩) ⟨pc_blind, tw_recv hK hP (hA_3.m m0) rfl rfl, pc_pre hP hK hD hN⟩ rfl rfl hl.1 rfl (lv_room (Nat.le_of_ble_eq_true rfl)) d_Md_minutes_97 ⟨Nat.le_of_ble_eq_true rfl, Nat.le_of_ble_eq_true rfl⟩) hS (fun q _ h => hFc q h) hFc (fun u t H locs ht hvm er hB hz1 hk1 hS => ?_)
                    obtain ⟨L_4, f_4⟩ := u
                    obtain ⟨hO_4, hE_4, er, hQ⟩ := er
                    obtain ⟨hP, hK1, hD1⟩ := hB
                    rw [ht] at hP
                    have hP : va_P (dC, dI) vwCl (TW ct L_4 f_4) H := hP
                    have hD : va_D A (TW ct L_4 f_4) := hD1.weaken (fun _ q _ h => hFc q.1 h)
                    have hO_4 : Ok L_4 f_4 := hO_4
                    have hE_4 : Ext W_Md_pay_w L_3 f_3 L_4 f_4 := hE_4
                    clear hK1 hD1 ht hvm hz1 hk1
                    have hA_4 := hA_3.trans hE_4
                    have hQ := hQ hO_4 hE_4
                    clear er
                    refine lv_iinc (v := (v2_6 + 1)) (lv' := [(2, .int (v2_6 + 1)), (0, .ref q0), (1, .int p_0)]) hx hb d_Md_minutes_100 hl (k := 2) rfl rfl (by decide) rfl (fun ls hl => ?_)
                    refine lv_goto (tgt := 27) hx hb d_Md_minutes_103 (by decide) ?_
                    exact ih_6 (n_6 - 1) (ms_1 ((fun (a_0 : Int32) (a_1 : Int32) (k_0 : ¬ (a_0 ≤ a_1)) (k_1 : ¬ (1440 < a_0)) => (show 1 ≤ (1440 : Int32).toInt - (a_1).toInt ∧ (1440 : Int32).toInt - ((a_1) + (1 : Int32)).toInt + 1 ≤ (1440 : Int32).toInt - (a_1).toInt from by have z0 : (1 : Int32).toInt = 1 := (by decide +kernel); have z1 : (1440 : Int32).toInt = 1440 := (by decide +kernel); have r0 := fb_rng (a_0); have r1 := fb_rng (a_1); have e0 := k_0; rw [Int32.le_iff_toInt_le] at e0; have e1 := k_1; rw [Int32.lt_iff_toInt_lt, z1] at e1; obtain ⟨n_0, hn_0, s0⟩ := nd_add (x := (a_1)) (y := (1 : Int32)) (by (try rw [z0]); omega) (by (try rw [z0]); omega); rw [z0] at s0; rw [hn_0]; (try rw [z1]); omega)) p_0 v2_6 c_8 c_4) hm_6) (v2_6 + 1) _ _ _ _ _ hP hD hS hO_4 ((((hE_1.trans hE_2).trans hE_3).trans hE_4).mono (by decide +kernel)) (show ¬ ((v2_6 + 1) < 0) from by have e0 := iv0_6; rw [Int32.lt_iff_toInt_lt] at e0; have e1 := iv1_6; rw [Int32.lt_iff_toInt_lt] at e1; have z0 : (0 : Int32).toInt = 0 := (by decide +kernel); have z1 : (1 : Int32).toInt = 1 := (by decide +kernel); have z2 : (1440 : Int32).toInt = 1440 := (by decide +kernel); have ss := fb_addI (x := v2_6) (y := 1) (by omega) (by omega); rw [Int32.lt_iff_toInt_lt]; omega) (show ¬ (1440 < (v2_6 + 1)) from ((fun (a_0 : Int32) (a_1 : Int32) (k_0 : ¬ (a_0 ≤ a_1)) (k_1 : ¬ (1440 < a_0)) => (show ¬ (1440 < (a_1 + 1)) from by have z0 : (1 : Int32).toInt = 1 := (by decide +kernel); have z1 : (1440 : Int32).toInt = 1440 := (by decide +kernel); have r0 := fb_rng (a_0); have r1 := fb_rng (a_1); have e0 := k_0; rw [Int32.le_iff_toInt_le] at e0; have e1 := k_1; rw [Int32.lt_iff_toInt_lt, z1] at e1; obtain ⟨n_0, hn_0, s0⟩ := nd_add (x := (a_1)) (y := (1 : Int32)) (by (try rw [z0]); omega) (by (try rw [z0]); omega); rw [z0] at s0; rw [hn_0, Int32.lt_iff_toInt_lt, z1]; omega)) p_0 v2_6 c_8 c_4)) (by rw [show ti f_4 q0 1 = ((ti f_1 q0 1) + 1) from ((hE_4.ei (hA_3.m m0) rfl).trans ((hE_3.ei (hA_2.m m0) rfl).trans w_9))]; first | done | exact (show ((ti f_1 q0 1) + 1) = ((ti f q0 1) + (v2_6 + 1)) from ((fun (a_0 : Int32) (a_1 : Int32) (a_2 : Int32) (a_3 : Int32) (k_0 : ¬ (359999 < a_1)) (k_1 : ¬ (a_3 < 0)) (k_2 : ¬ (a_0 ≤ a_3)) (k_3 : ¬ (1440 < a_0)) (k_4 : a_2 = (a_1 + a_3)) => (show (a_2 + 1) = (a_1 + (a_3 + 1)) from by have z0 : (0 : Int32).toInt = 0 := (by decide +kernel); have z1 : (1 : Int32).toInt = 1 := (by decide +kernel); have z2 : (1440 : Int32).toInt = 1440 := (by decide +kernel); have z3 : (359999 : Int32).toInt = 359999 := (by decide +kernel); have r0 := fb_rng (a_0); have r1 := fb_rng (a_1); have r2 := fb_rng (a_2); have r3 := fb_rng (a_3); have e0 := k_0; rw [Int32.lt_iff_toInt_lt, z3] at e0; have e1 := k_1; rw [Int32.lt_iff_toInt_lt, z0] at e1; have e2 := k_2; rw [Int32.le_iff_toInt_le] at e2; have e3 := k_3; rw [Int32.lt_iff_toInt_lt, z2] at e3; obtain ⟨n_0, hn_0, s0⟩ := nd_add (x := a_1) (y := (a_3)) (by omega) (by omega); have e4 := k_4; rw [hn_0, ← Int32.toInt_inj] at e4; obtain ⟨n_1, hn_1, s1⟩ := nd_add (x := a_2) (y := (1 : Int32)) (by (try rw [z1]); omega) (by (try rw [z1]); omega); rw [z1] at s1; obtain ⟨n_2, hn_2, s2⟩ := nd_add (x := (a_3)) (y := (1 : Int32)) (by (try rw [z1]); omega) (by (try rw [z1]); omega); rw [z1] at s2; obtain ⟨n_3, hn_3, s3⟩ := nd_add (x := a_1) (y := n_2) (by omega) (by omega); rw [hn_1, hn_2, hn_3, ← Int32.toInt_inj]; omega)) p_0 (ti f q0 1) (ti f_1 q0 1) v2_6 bs_1.2 iv0_6 c_8 c_4 iv2_6))) (by exact ms_2 ((fun (a_0 : Int32) (a_1 : Int32) (k_0 : ¬ (a_0 ≤ a_1)) (k_1 : ¬ (1440 < a_0)) => (show 1 ≤ (1440 : Int32).toInt - (a_1).toInt ∧ (1440 : Int32).toInt - ((a_1) + (1 : Int32)).toInt + 1 ≤ (1440 : Int32).toInt - (a_1).toInt from by have z0 : (1 : Int32).toInt = 1 := (by decide +kernel); have z1 : (1440 : Int32).toInt = 1440 := (by decide +kernel); have r0 := fb_rng (a_0); have r1 := fb_rng (a_1); have e0 := k_0; rw [Int32.le_iff_toInt_le] at e0; have e1 := k_1; rw [Int32.lt_iff_toInt_lt, z1] at e1; obtain ⟨n_0, hn_0, s0⟩ := nd_add (x := (a_1)) (y := (1 : Int32)) (by (try rw [z0]); omega) (by (try rw [z0]); omega); rw [z0] at s0; rw [hn_0]; (try rw [z1]); omega)) p_0 v2_6 c_8 c_4) hm_6) (by rw [← hrec_6, wpR_Md_minutes_w_27_6_pos (ms_3 ((fun (a_0 : Int32) (a_1 : Int32) (k_0 : ¬ (a_0 ≤ a_1)) (k_1 : ¬ (1440 < a_0)) => (show 1 ≤ (1440 : Int32).toInt - (a_1).toInt ∧ (1440 : Int32).toInt - ((a_1) + (1 : Int32)).toInt + 1 ≤ (1440 : Int32).toInt - (a_1).toInt from by have z0 : (1 : Int32).toInt = 1 := (by decide +kernel); have z1 : (1440 : Int32).toInt = 1440 := (by decide +kernel); have r0 := fb_rng (a_0); have r1 := fb_rng (a_1); have e0 := k_0; rw [Int32.le_iff_toInt_le] at e0; have e1 := k_1; rw [Int32.lt_iff_toInt_lt, z1] at e1; obtain ⟨n_0, hn_0, s0⟩ := nd_add (x := (a_1)) (y := (1 : Int32)) (by (try rw [z0]); omega) (by (try rw [z0]); omega); rw [z0] at s0; rw [hn_0]; (try rw [z1]); omega)) p_0 v2_6 c_8 c_4) hm_6)] at hQ; exact hQ) (lv_sub hl [1, 2, 0] rfl)
                · have hQ := hQ.1 c_19
                  refine lv_aload_n hx hb d_Md_minutes_72 rfl (lv_at hl 0 rfl) ?_
                  refine lv_aload_n hx hb d_Md_minutes_73 rfl (lv_at hl 0 rfl) ?_
                  refine vp_callSi (va_Run.run (va_runV (As := []) (rest := [.ref q0]) ⟨hx, hb, hml, hown, htb⟩ (c_Md_today_w l dC dI ct L_3 f_3 hO_3 q0 (hA_3.m m0) _ hQ) (cwV 0 htb (gd_V tw_124 tw_125 tw_126 tw_49 tw_123) rfl rfl rfl (by decide +kernel) ⟨Nat.le_of_ble_eq_true rfl, Nat.le_of_ble_eq_true rfl⟩) ⟨pr_blind, tw_recv hK hP (hA_3.m m0) rfl rfl, pr_pre hP hK hN⟩ rfl rfl hl.1 rfl (lv_room (Nat.le_of_ble_eq_true rfl)) d_Md_minutes_74 ⟨Nat.le_of_ble_eq_true rfl, Nat.le_of_ble_eq_true rfl⟩)) (fun r_33 er_33 => ?_)
                  obtain ⟨er_33, hQ⟩ := er_33
                  obtain ⟨po_34, po_35, po_36, po_37, -⟩ := er_33
                  rw [show ti f_3 q0 1 = ((ti f_1 q0 1) + 1) from ((hE_3.ei (hA_2.m m0) rfl).trans w_9)] at po_36
                  rw [show ti f_3 q0 1 = ((ti f_1 q0 1) + 1) from ((hE_3.ei (hA_2.m m0) rfl).trans w_9)] at po_37
                  refine lv_iconst (v := 1) hx hb d_Md_minutes_77 (by decide +kernel) ?_
                  refine lv_isub hx hb d_Md_minutes_78 ?_
                  have hFc := hb_free hD hS hA
                  refine va_callv (va_runV (As := [.int (r_33 - 1)]) (rest := []) ⟨hx, hb, hml, hown, htb⟩ (c_Md_part_w l dC dI ct L_3 f_3 hO_3 q0 (hA_3.m m0) _ (r_33 - 1) (show ¬ ((r_33 - 1) < 0) from ((fun (a_0 : Int32) (a_1 : Int32) (a_2 : Int32) (a_3 : Int32) (k_0 : ¬ (a_2 < 0)) (k_1 : ¬ (499 < a_2)) (k_2 : ¬ (359999 < a_3)) (k_3 : ¬ (a_1 < 0)) (k_4 : ¬ (499 < a_1)) (k_5 : ¬ (a_0 < 0)) (k_6 : ¬ (((a_2 * 720) + 719) < (a_3 + 1))) (k_7 : ¬ ((a_3 + 1) < (a_1 * 720))) (k_8 : ¬ ((a_1 - 1) < a_0)) => (show ¬ ((a_2 - 1) < 0) from by have z0 : (0 : Int32).toInt = 0 := (by decide +kernel); have z1 : (1 : Int32).toInt = 1 := (by decide +kernel); have z2 : (499 : Int32).toInt = 499 := (by decide +kernel); have z3 : (719 : Int32).toInt = 719 := (by decide +kernel); have z4 : (720 : Int32).toInt = 720 := (by decide +kernel); have z5 : (359999 : Int32).toInt = 359999 := (by decide +kernel); have r0 := fb_rng (a_0); have r1 := fb_rng (a_1); have r2 := fb_rng (a_2); have r3 := fb_rng (a_3); have e0 := k_0; rw [Int32.lt_iff_toInt_lt, z0] at e0; have e1 := k_1; rw [Int32.lt_iff_toInt_lt, z2] at e1; obtain ⟨n_0, hn_0, s0⟩ := nd_mul (x := (a_2)) (y := (720 : Int32)) (by (try rw [z4]); omega) (by (try rw [z4]); omega); rw [z4] at s0; obtain ⟨n_1, hn_1, s1⟩ := nd_add (x := n_0) (y := (719 : Int32)) (by (try rw [z3]); omega) (by (try rw [z3]); omega); rw [z3] at s1; have e2 := k_2; rw [Int32.lt_iff_toInt_lt, z5] at e2; obtain ⟨n_2, hn_2, s2⟩ := nd_add (x := a_3) (y := (1 : Int32)) (by (try rw [z1]); omega) (by (try rw [z1]); omega); rw [z1] at s2; have e3 := k_3; rw [Int32.lt_iff_toInt_lt, z0] at e3; have e4 := k_4; rw [Int32.lt_iff_toInt_lt, z2] at e4; have e5 := k_5; rw [Int32.lt_iff_toInt_lt, z0] at e5; have e6 := k_6; rw [hn_0, hn_1, hn_2, Int32.lt_iff_toInt_lt] at e6; obtain ⟨n_3, hn_3, s3⟩ := nd_mul (x := (a_1)) (y := (720 : Int32)) (by (try rw [z4]); omega) (by (try rw [z4]); omega); rw [z4] at s3; have e7 := k_7; rw [hn_2, hn_3, Int32.lt_iff_toInt_lt] at e7; obtain ⟨n_4, hn_4, s4⟩ := nd_sub (x := (a_1)) (y := (1 : Int32)) (by (try rw [z1]); omega) (by (try rw [z1]); omega); rw [z1] at s4; have e8 := k_8; rw [hn_4, Int32.lt_iff_toInt_lt] at e8; obtain ⟨n_5, hn_5, s5⟩ := nd_sub (x := (a_2)) (y := (1 : Int32)) (by (try rw [z1]); omega) (by (try rw [z1]); omega); rw [z1] at s5; rw [hn_5, Int32.lt_iff_toInt_lt, z0]; omega)) qu_18 r_13 r_33 (ti f_1 q0 1) po_34 po_35 bf_7.2 po_14 po_15 g3_18 po_37 po_16 g4_18)) (show ¬ (499 < (r_33 - 1)) from by have e0 := po_34; rw [Int32.lt_iff_toInt_lt] at e0; have e1 := po_35; rw [Int32.lt_iff_toInt_lt] at e1; have z0 : (0 : Int32).toInt = 0 := (by decide +kernel); have z1 : (1 : Int32).toInt = 1 := (by decide +kernel); have z2 : (499 : Int32).toInt = 499 := (by decide +kernel); have ss := fb_subI (x := r_33) (y := 1) (by omega) (by omega); rw [Int32.lt_iff_toInt_lt]; omega) _ hQ) (cwV 1 htb (gd_V tw_216 tw_217 tw_218 tw_49 tw_215) rfl rfl rfl (by decide +kernel) ⟨Nat.le_of_ble_eq_true rfl, Nat.le_of_ble_eq_true rfl⟩) ⟨pc_blind, tw_recv hK hP (hA_3.m m0) rfl rfl, pc_pre hP hK hD hN⟩ rfl rfl hl.1 rfl (lv_room (Nat.le_of_ble_eq_true rfl)) d_Md_minutes_79 ⟨Nat.le_of_ble_eq_true rfl, Nat.le_of_ble_eq_true rfl⟩) hS (fun q _ h => hFc q h) hFc (fun u t H locs ht hvm er hB hz1 hk1 hS => ?_)
                  obtain ⟨L_4, f_4⟩ := u
                  obtain ⟨hO_4, hE_4, er, hQ⟩ := er
                  obtain ⟨hP, hK1, hD1⟩ := hB
                  rw [ht] at hP
                  have hP : va_P (dC, dI) vwCl (TW ct L_4 f_4) H := hP
                  have hD : va_D A (TW ct L_4 f_4) := hD1.weaken (fun _ q _ h => hFc q.1 h)
                  have hO_4 : Ok L_4 f_4 := hO_4
                  have hE_4 : Ext W_Md_part_w L_3 f_3 L_4 f_4 := hE_4
                  clear hK1 hD1 ht hvm hz1 hk1
                  have hA_4 := hA_3.trans hE_4
                  have hQ := hQ hO_4 hE_4
                  clear er
                  refine lv_aload_n hx hb d_Md_minutes_82 rfl (lv_at hl 0 rfl) ?_
                  refine vp_callSi (va_Run.run (va_runV (As := []) (rest := []) ⟨hx, hb, hml, hown, htb⟩ (c_Md_today_w l dC dI ct L_4 f_4 hO_4 q0 (hA_4.m m0) _ hQ) (cwV 0 htb (gd_V tw_124 tw_125 tw_126 tw_49 tw_123) rfl rfl rfl (by decide +kernel) ⟨Nat.le_of_ble_eq_true rfl, Nat.le_of_ble_eq_true rfl⟩) ⟨pr_blind, tw_recv hK hP (hA_4.m m0) rfl rfl, pr_pre hP hK hN⟩ rfl rfl hl.1 rfl (lv_room (Nat.le_of_ble_eq_true rfl)) d_Md_minutes_83 ⟨Nat.le_of_ble_eq_true rfl, Nat.le_of_ble_eq_true rfl⟩)) (fun r_39 er_39 => ?_)
                  obtain ⟨er_39, hQ⟩ := er_39
                  obtain ⟨po_40, po_41, po_42, po_43, -⟩ := er_39
                  rw [show ti f_4 q0 1 = ((ti f_1 q0 1) + 1) from ((hE_4.ei (hA_3.m m0) rfl).trans ((hE_3.ei (hA_2.m m0) rfl).trans w_9))] at po_42
                  rw [show ti f_4 q0 1 = ((ti f_1 q0 1) + 1) from ((hE_4.ei (hA_3.m m0) rfl).trans ((hE_3.ei (hA_2.m m0) rfl).trans w_9))] at po_43
                  refine lv_bipush (v := 100) hx hb d_Md_minutes_86 (by decide +kernel) ?_
                  refine lv_irem hx hb d_Md_minutes_88 (by decide) ?_
                  refine hb_remn (c := 100) (C1 := 99) (K := 2147483547) (by decide +kernel) (by decide +kernel) (by decide +kernel) po_40 (show ¬ (2147483547 < r_39) from by have e0 := po_40; rw [Int32.lt_iff_toInt_lt] at e0; have e1 := po_41; rw [Int32.lt_iff_toInt_lt] at e1; have z0 : (0 : Int32).toInt = 0 := (by decide +kernel); have z1 : (499 : Int32).toInt = 499 := (by decide +kernel); have z2 : (2147483547 : Int32).toInt = 2147483547 := (by decide +kernel); rw [Int32.lt_iff_toInt_lt]; omega) (fun y_44 qu_44 g1_44 g2_44 g3_44 g4_44 g5_44 g9_44 => ?_)
                  have hQ := hQ y_44 g9_44
                  refine lv_if_ne (tgt := 100) hx hb d_Md_minutes_89 (by decide) (fun c_45 => ?_) (fun c_45 => ?_)
                  · have hQ := hQ.2 c_45
                    refine lv_iinc (v := (v2_6 + 1)) (lv' := [(2, .int (v2_6 + 1)), (0, .ref q0), (1, .int p_0)]) hx hb d_Md_minutes_100 hl (k := 2) rfl rfl (by decide) rfl (fun ls hl => ?_)
                    refine lv_goto (tgt := 27) hx hb d_Md_minutes_103 (by decide) ?_
                    exact ih_6 (n_6 - 1) (ms_1 ((fun (a_0 : Int32) (a_1 : Int32) (k_0 : ¬ (a_0 ≤ a_1)) (k_1 : ¬ (1440 < a_0)) => (show 1 ≤ (1440 : Int32).toInt - (a_1).toInt ∧ (1440 : Int32).toInt - ((a_1) + (1 : Int32)).toInt + 1 ≤ (1440 : Int32).toInt - (a_1).toInt from by have z0 : (1 : Int32).toInt = 1 := (by decide +kernel); have z1 : (1440 : Int32).toInt = 1440 := (by decide +kernel); have r0 := fb_rng (a_0); have r1 := fb_rng (a_1); have e0 := k_0; rw [Int32.le_iff_toInt_le] at e0; have e1 := k_1; rw [Int32.lt_iff_toInt_lt, z1] at e1; obtain ⟨n_0, hn_0, s0⟩ := nd_add (x := (a_1)) (y := (1 : Int32)) (by (try rw [z0]); omega) (by (try rw [z0]); omega); rw [z0] at s0; rw [hn_0]; (try rw [z1]); omega)) p_0 v2_6 c_8 c_4) hm_6) (v2_6 + 1) _ _ _ _ _ hP hD hS hO_4 ((((hE_1.trans hE_2).trans hE_3).trans hE_4).mono (by decide +kernel)) (show ¬ ((v2_6 + 1) < 0) from by have e0 := iv0_6; rw [Int32.lt_iff_toInt_lt] at e0; have e1 := iv1_6; rw [Int32.lt_iff_toInt_lt] at e1; have z0 : (0 : Int32).toInt = 0 := (by decide +kernel); have z1 : (1 : Int32).toInt = 1 := (by decide +kernel); have z2 : (1440 : Int32).toInt = 1440 := (by decide +kernel); have ss := fb_addI (x := v2_6) (y := 1) (by omega) (by omega); rw [Int32.lt_iff_toInt_lt]; omega) (show ¬ (1440 < (v2_6 + 1)) from ((fun (a_0 : Int32) (a_1 : Int32) (k_0 : ¬ (a_0 ≤ a_1)) (k_1 : ¬ (1440 < a_0)) => (show ¬ (1440 < (a_1 + 1)) from by have z0 : (1 : Int32).toInt = 1 := (by decide +kernel); have z1 : (1440 : Int32).toInt = 1440 := (by decide +kernel); have r0 := fb_rng (a_0); have r1 := fb_rng (a_1); have e0 := k_0; rw [Int32.le_iff_toInt_le] at e0; have e1 := k_1; rw [Int32.lt_iff_toInt_lt, z1] at e1; obtain ⟨n_0, hn_0, s0⟩ := nd_add (x := (a_1)) (y := (1 : Int32)) (by (try rw [z0]); omega) (by (try rw [z0]); omega); rw [z0] at s0; rw [hn_0, Int32.lt_iff_toInt_lt, z1]; omega)) p_0 v2_6 c_8 c_4)) (by rw [show ti f_4 q0 1 = ((ti f_1 q0 1) + 1) from ((hE_4.ei (hA_3.m m0) rfl).trans ((hE_3.ei (hA_2.m m0) rfl).trans w_9))]; first | done | exact (show ((ti f_1 q0 1) + 1) = ((ti f q0 1) + (v2_6 + 1)) from ((fun (a_0 : Int32) (a_1 : Int32) (a_2 : Int32) (a_3 : Int32) (k_0 : ¬ (359999 < a_1)) (k_1 : ¬ (a_3 < 0)) (k_2 : ¬ (a_0 ≤ a_3)) (k_3 : ¬ (1440 < a_0)) (k_4 : a_2 = (a_1 + a_3)) => (show (a_2 + 1) = (a_1 + (a_3 + 1)) from by have z0 : (0 : Int32).toInt = 0 := (by decide +kernel); have z1 : (1 : Int32).toInt = 1 := (by decide +kernel); have z2 : (1440 : Int32).toInt = 1440 := (by decide +kernel); have z3 : (359999 : Int32).toInt = 359999 := (by decide +kernel); have r0 := fb_rng (a_0); have r1 := fb_rng (a_1); have r2 := fb_rng (a_2); have r3 := fb_rng (a_3); have e0 := k_0; rw [Int32.lt_iff_toInt_lt, z3] at e0; have e1 := k_1; rw [Int32.lt_iff_toInt_lt, z0] at e1; have e2 := k_2; rw [Int32.le_iff_toInt_le] at e2; have e3 := k_3; rw [Int32.lt_iff_toInt_lt, z2] at e3; obtain ⟨n_0, hn_0, s0⟩ := nd_add (x := a_1) (y := (a_3)) (by omega) (by omega); have e4 := k_4; rw [hn_0, ← Int32.toInt_inj] at e4; obtain ⟨n_1, hn_1, s1⟩ := nd_add (x := a_2) (y := (1 : Int32)) (by (try rw [z1]); omega) (by (try rw [z1]); omega); rw [z1] at s1; obtain ⟨n_2, hn_2, s2⟩ := nd_add (x := (a_3)) (y := (1 : Int32)) (by (try rw [z1]); omega) (by (try rw [z1]); omega); rw [z1] at s2; obtain ⟨n_3, hn_3, s3⟩ := nd_add (x := a_1) (y := n_2) (by omega) (by omega); rw [hn_1, hn_2, hn_3, ← Int32.toInt_inj]; omega)) p_0 (ti f q0 1) (ti f_1 q0 1) v2_6 bs_1.2 iv0_6 c_8 c_4 iv2_6))) (by exact ms_2 ((fun (a_0 : Int32) (a_1 : Int32) (k_0 : ¬ (a_0 ≤ a_1)) (k_1 : ¬ (1440 < a_0)) => (show 1 ≤ (1440 : Int32).toInt - (a_1).toInt ∧ (1440 : Int32).toInt - ((a_1) + (1 : Int32)).toInt + 1 ≤ (1440 : Int32).toInt - (a_1).toInt from by have z0 : (1 : Int32).toInt = 1 := (by decide +kernel); have z1 : (1440 : Int32).toInt = 1440 := (by decide +kernel); have r0 := fb_rng (a_0); have r1 := fb_rng (a_1); have e0 := k_0; rw [Int32.le_iff_toInt_le] at e0; have e1 := k_1; rw [Int32.lt_iff_toInt_lt, z1] at e1; obtain ⟨n_0, hn_0, s0⟩ := nd_add (x := (a_1)) (y := (1 : Int32)) (by (try rw [z0]); omega) (by (try rw [z0]); omega); rw [z0] at s0; rw [hn_0]; (try rw [z1]); omega)) p_0 v2_6 c_8 c_4) hm_6) (by rw [← hrec_6, wpR_Md_minutes_w_27_6_pos (ms_3 ((fun (a_0 : Int32) (a_1 : Int32) (k_0 : ¬ (a_0 ≤ a_1)) (k_1 : ¬ (1440 < a_0)) => (show 1 ≤ (1440 : Int32).toInt - (a_1).toInt ∧ (1440 : Int32).toInt - ((a_1) + (1 : Int32)).toInt + 1 ≤ (1440 : Int32).toInt - (a_1).toInt from by have z0 : (1 : Int32).toInt = 1 := (by decide +kernel); have z1 : (1440 : Int32).toInt = 1440 := (by decide +kernel); have r0 := fb_rng (a_0); have r1 := fb_rng (a_1); have e0 := k_0; rw [Int32.le_iff_toInt_le] at e0; have e1 := k_1; rw [Int32.lt_iff_toInt_lt, z1] at e1; obtain ⟨n_0, hn_0, s0⟩ := nd_add (x := (a_1)) (y := (1 : Int32)) (by (try rw [z0]); omega) (by (try rw [z0]); omega); rw [z0] at s0; rw [hn_0]; (try rw [z1]); omega)) p_0 v2_6 c_8 c_4) hm_6)] at hQ; exact hQ) (lv_sub hl [1, 2, 0] rfl)
                  · have hQ := hQ.1 c_45
                    refine lv_aload_n hx hb d_Md_minutes_92 rfl (lv_at hl 0 rfl) ?_
                    refine lv_aload_n hx hb d_Md_minutes_93 rfl (lv_at hl 0 rfl) ?_
                    refine vp_callSi (va_Run.run (va_runV (As := []) (rest := [.ref q0]) ⟨hx, hb, hml, hown, htb⟩ (c_Md_today_w l dC dI ct L_4 f_4 hO_4 q0 (hA_4.m m0) _ hQ) (cwV 0 htb (gd_V tw_124 tw_125 tw_126 tw_49 tw_123) rfl rfl rfl (by decide +kernel) ⟨Nat.le_of_ble_eq_true rfl, Nat.le_of_ble_eq_true rfl⟩) ⟨pr_blind, tw_recv hK hP (hA_4.m m0) rfl rfl, pr_pre hP hK hN⟩ rfl rfl hl.1 rfl (lv_room (Nat.le_of_ble_eq_true rfl)) d_Md_minutes_94 ⟨Nat.le_of_ble_eq_true rfl, Nat.le_of_ble_eq_true rfl⟩)) (fun r_46 er_46 => ?_)
                    obtain ⟨er_46, hQ⟩ := er_46
                    obtain ⟨po_47, po_48, po_49, po_50, -⟩ := er_46
                    rw [show ti f_4 q0 1 = ((ti f_1 q0 1) + 1) from ((hE_4.ei (hA_3.m m0) rfl).trans ((hE_3.ei (hA_2.m m0) rfl).trans w_9))] at po_49
                    rw [show ti f_4 q0 1 = ((ti f_1 q0 1) + 1) from ((hE_4.ei (hA_3.m m0) rfl).trans ((hE_3.ei (hA_2.m m0) rfl).trans w_9))] at po_50
                    have hFc := hb_free hD hS hA
                    refine va_callv (va_runV (As := [.int r_46]) (rest := []) ⟨hx, hb, hml, hown, htb⟩ (c_Md_pay_w l dC dI ct L_4 f_4 hO_4 q0 (hA_4.m m0) _ r_46 _ hQ) (cwV 1 htb (gd_V tw_209 tw_210 tw_211 tw_49 tw_208) rfl rfl rfl (by decide +kernel) ⟨Nat.le_of_ble_eq_true rfl, Nat.le_of_ble_eq_true rfl⟩) ⟨pc_blind, tw_recv hK hP (hA_4.m m0) rfl rfl, pc_pre hP hK hD hN⟩ rfl rfl hl.1 rfl (lv_room (Nat.le_of_ble_eq_true rfl)) d_Md_minutes_97 ⟨Nat.le_of_ble_eq_true rfl, Nat.le_of_ble_eq_true rfl⟩) hS (fun q _ h => hFc q h) hFc (fun u t H locs ht hvm er hB hz1 hk1 hS => ?_)
                    obtain ⟨L_5, f_5⟩ := u
                    obtain ⟨hO_5, hE_5, er, hQ⟩ := er
                    obtain ⟨hP, hK1, hD1⟩ := hB
                    rw [ht] at hP
                    have hP : va_P (dC, dI) vwCl (TW ct L_5 f_5) H := hP
                    have hD : va_D A (TW ct L_5 f_5) := hD1.weaken (fun _ q _ h => hFc q.1 h)
                    have hO_5 : Ok L_5 f_5 := hO_5
                    have hE_5 : Ext W_Md_pay_w L_4 f_4 L_5 f_5 := hE_5
                    clear hK1 hD1 ht hvm hz1 hk1
                    have hA_5 := hA_4.trans hE_5
                    have hQ := hQ hO_5 hE_5
                    clear er
                    refine lv_iinc (v := (v2_6 + 1)) (lv' := [(2, .int (v2_6 + 1)), (0, .ref q0), (1, .int p_0)]) hx hb d_Md_minutes_100 hl (k := 2) rfl rfl (by decide) rfl (fun ls hl => ?_)
                    refine lv_goto (tgt := 27) hx hb d_Md_minutes_103 (by decide) ?_
                    exact ih_6 (n_6 - 1) (ms_1 ((fun (a_0 : Int32) (a_1 : Int32) (k_0 : ¬ (a_0 ≤ a_1)) (k_1 : ¬ (1440 < a_0)) => (show 1 ≤ (1440 : Int32).toInt - (a_1).toInt ∧ (1440 : Int32).toInt - ((a_1) + (1 : Int32)).toInt + 1 ≤ (1440 : Int32).toInt - (a_1).toInt from by have z0 : (1 : Int32).toInt = 1 := (by decide +kernel); have z1 : (1440 : Int32).toInt = 1440 := (by decide +kernel); have r0 := fb_rng (a_0); have r1 := fb_rng (a_1); have e0 := k_0; rw [Int32.le_iff_toInt_le] at e0; have e1 := k_1; rw [Int32.lt_iff_toInt_lt, z1] at e1; obtain ⟨n_0, hn_0, s0⟩ := nd_add (x := (a_1)) (y := (1 : Int32)) (by (try rw [z0]); omega) (by (try rw [z0]); omega); rw [z0] at s0; rw [hn_0]; (try rw [z1]); omega)) p_0 v2_6 c_8 c_4) hm_6) (v2_6 + 1) _ _ _ _ _ hP hD hS hO_5 (((((hE_1.trans hE_2).trans hE_3).trans hE_4).trans hE_5).mono (by decide +kernel)) (show ¬ ((v2_6 + 1) < 0) from by have e0 := iv0_6; rw [Int32.lt_iff_toInt_lt] at e0; have e1 := iv1_6; rw [Int32.lt_iff_toInt_lt] at e1; have z0 : (0 : Int32).toInt = 0 := (by decide +kernel); have z1 : (1 : Int32).toInt = 1 := (by decide +kernel); have z2 : (1440 : Int32).toInt = 1440 := (by decide +kernel); have ss := fb_addI (x := v2_6) (y := 1) (by omega) (by omega); rw [Int32.lt_iff_toInt_lt]; omega) (show ¬ (1440 < (v2_6 + 1)) from ((fun (a_0 : Int32) (a_1 : Int32) (k_0 : ¬ (a_0 ≤ a_1)) (k_1 : ¬ (1440 < a_0)) => (show ¬ (1440 < (a_1 + 1)) from by have z0 : (1 : Int32).toInt = 1 := (by decide +kernel); have z1 : (1440 : Int32).toInt = 1440 := (by decide +kernel); have r0 := fb_rng (a_0); have r1 := fb_rng (a_1); have e0 := k_0; rw [Int32.le_iff_toInt_le] at e0; have e1 := k_1; rw [Int32.lt_iff_toInt_lt, z1] at e1; obtain ⟨n_0, hn_0, s0⟩ := nd_add (x := (a_1)) (y := (1 : Int32)) (by (try rw [z0]); omega) (by (try rw [z0]); omega); rw [z0] at s0; rw [hn_0, Int32.lt_iff_toInt_lt, z1]; omega)) p_0 v2_6 c_8 c_4)) (by rw [show ti f_5 q0 1 = ((ti f_1 q0 1) + 1) from ((hE_5.ei (hA_4.m m0) rfl).trans ((hE_4.ei (hA_3.m m0) rfl).trans ((hE_3.ei (hA_2.m m0) rfl).trans w_9)))]; first | done | exact (show ((ti f_1 q0 1) + 1) = ((ti f q0 1) + (v2_6 + 1)) from ((fun (a_0 : Int32) (a_1 : Int32) (a_2 : Int32) (a_3 : Int32) (k_0 : ¬ (359999 < a_1)) (k_1 : ¬ (a_3 < 0)) (k_2 : ¬ (a_0 ≤ a_3)) (k_3 : ¬ (1440 < a_0)) (k_4 : a_2 = (a_1 + a_3)) => (show (a_2 + 1) = (a_1 + (a_3 + 1)) from by have z0 : (0 : Int32).toInt = 0 := (by decide +kernel); have z1 : (1 : Int32).toInt = 1 := (by decide +kernel); have z2 : (1440 : Int32).toInt = 1440 := (by decide +kernel); have z3 : (359999 : Int32).toInt = 359999 := (by decide +kernel); have r0 := fb_rng (a_0); have r1 := fb_rng (a_1); have r2 := fb_rng (a_2); have r3 := fb_rng (a_3); have e0 := k_0; rw [Int32.lt_iff_toInt_lt, z3] at e0; have e1 := k_1; rw [Int32.lt_iff_toInt_lt, z0] at e1; have e2 := k_2; rw [Int32.le_iff_toInt_le] at e2; have e3 := k_3; rw [Int32.lt_iff_toInt_lt, z2] at e3; obtain ⟨n_0, hn_0, s0⟩ := nd_add (x := a_1) (y := (a_3)) (by omega) (by omega); have e4 := k_4; rw [hn_0, ← Int32.toInt_inj] at e4; obtain ⟨n_1, hn_1, s1⟩ := nd_add (x := a_2) (y := (1 : Int32)) (by (try rw [z1]); omega) (by (try rw [z1]); omega); rw [z1] at s1; obtain ⟨n_2, hn_2, s2⟩ := nd_add (x := (a_3)) (y := (1 : Int32)) (by (try rw [z1]); omega) (by (try rw [z1]); omega); rw [z1] at s2; obtain ⟨n_3, hn_3, s3⟩ := nd_add (x := a_1) (y := n_2) (by omega) (by omega); rw [hn_1, hn_2, hn_3, ← Int32.toInt_inj]; omega)) p_0 (ti f q0 1) (ti f_1 q0 1) v2_6 bs_1.2 iv0_6 c_8 c_4 iv2_6))) (by exact ms_2 ((fun (a_0 : Int32) (a_1 : Int32) (k_0 : ¬ (a_0 ≤ a_1)) (k_1 : ¬ (1440 < a_0)) => (show 1 ≤ (1440 : Int32).toInt - (a_1).toInt ∧ (1440 : Int32).toInt - ((a_1) + (1 : Int32)).toInt + 1 ≤ (1440 : Int32).toInt - (a_1).toInt from by have z0 : (1 : Int32).toInt = 1 := (by decide +kernel); have z1 : (1440 : Int32).toInt = 1440 := (by decide +kernel); have r0 := fb_rng (a_0); have r1 := fb_rng (a_1); have e0 := k_0; rw [Int32.le_iff_toInt_le] at e0; have e1 := k_1; rw [Int32.lt_iff_toInt_lt, z1] at e1; obtain ⟨n_0, hn_0, s0⟩ := nd_add (x := (a_1)) (y := (1 : Int32)) (by (try rw [z0]); omega) (by (try rw [z0]); omega); rw [z0] at s0; rw [hn_0]; (try rw [z1]); omega)) p_0 v2_6 c_8 c_4) hm_6) (by rw [← hrec_6, wpR_Md_minutes_w_27_6_pos (ms_3 ((fun (a_0 : Int32) (a_1 : Int32) (k_0 : ¬ (a_0 ≤ a_1)) (k_1 : ¬ (1440 < a_0)) => (show 1 ≤ (1440 : Int32).toInt - (a_1).toInt ∧ (1440 : Int32).toInt - ((a_1) + (1 : Int32)).toInt + 1 ≤ (1440 : Int32).toInt - (a_1).toInt from by have z0 : (1 : Int32).toInt = 1 := (by decide +kernel); have z1 : (1440 : Int32).toInt = 1440 := (by decide +kernel); have r0 := fb_rng (a_0); have r1 := fb_rng (a_1); have e0 := k_0; rw [Int32.le_iff_toInt_le] at e0; have e1 := k_1; rw [Int32.lt_iff_toInt_lt, z1] at e1; obtain ⟨n_0, hn_0, s0⟩ := nd_add (x := (a_1)) (y := (1 : Int32)) (by (try rw [z0]); omega) (by (try rw [z0]); omega); rw [z0] at s0; rw [hn_0]; (try rw [z1]); omega)) p_0 v2_6 c_8 c_4) hm_6)] at hQ; exact hQ) (lv_sub hl [1, 2, 0] rfl)
              · have hQ := hQ.2 c_12
                refine lv_goto (tgt := 100) hx hb d_Md_minutes_57 (by decide) ?_
                refine lv_iinc (v := (v2_6 + 1)) (lv' := [(2, .int (v2_6 + 1)), (0, .ref q0), (1, .int p_0)]) hx hb d_Md_minutes_100 hl (k := 2) rfl rfl (by decide) rfl (fun ls hl => ?_)
                refine lv_goto (tgt := 27) hx hb d_Md_minutes_103 (by decide) ?_
                exact ih_6 (n_6 - 1) (ms_1 ((fun (a_0 : Int32) (a_1 : Int32) (k_0 : ¬ (a_0 ≤ a_1)) (k_1 : ¬ (1440 < a_0)) => (show 1 ≤ (1440 : Int32).toInt - (a_1).toInt ∧ (1440 : Int32).toInt - ((a_1) + (1 : Int32)).toInt + 1 ≤ (1440 : Int32).toInt - (a_1).toInt from by have z0 : (1 : Int32).toInt = 1 := (by decide +kernel); have z1 : (1440 : Int32).toInt = 1440 := (by decide +kernel); have r0 := fb_rng (a_0); have r1 := fb_rng (a_1); have e0 := k_0; rw [Int32.le_iff_toInt_le] at e0; have e1 := k_1; rw [Int32.lt_iff_toInt_lt, z1] at e1; obtain ⟨n_0, hn_0, s0⟩ := nd_add (x := (a_1)) (y := (1 : Int32)) (by (try rw [z0]); omega) (by (try rw [z0]); omega); rw [z0] at s0; rw [hn_0]; (try rw [z1]); omega)) p_0 v2_6 c_8 c_4) hm_6) (v2_6 + 1) _ _ _ _ _ hP hD hS hO_3 (((hE_1.trans hE_2).trans hE_3).mono (by decide +kernel)) (show ¬ ((v2_6 + 1) < 0) from by have e0 := iv0_6; rw [Int32.lt_iff_toInt_lt] at e0; have e1 := iv1_6; rw [Int32.lt_iff_toInt_lt] at e1; have z0 : (0 : Int32).toInt = 0 := (by decide +kernel); have z1 : (1 : Int32).toInt = 1 := (by decide +kernel); have z2 : (1440 : Int32).toInt = 1440 := (by decide +kernel); have ss := fb_addI (x := v2_6) (y := 1) (by omega) (by omega); rw [Int32.lt_iff_toInt_lt]; omega) (show ¬ (1440 < (v2_6 + 1)) from ((fun (a_0 : Int32) (a_1 : Int32) (k_0 : ¬ (a_0 ≤ a_1)) (k_1 : ¬ (1440 < a_0)) => (show ¬ (1440 < (a_1 + 1)) from by have z0 : (1 : Int32).toInt = 1 := (by decide +kernel); have z1 : (1440 : Int32).toInt = 1440 := (by decide +kernel); have r0 := fb_rng (a_0); have r1 := fb_rng (a_1); have e0 := k_0; rw [Int32.le_iff_toInt_le] at e0; have e1 := k_1; rw [Int32.lt_iff_toInt_lt, z1] at e1; obtain ⟨n_0, hn_0, s0⟩ := nd_add (x := (a_1)) (y := (1 : Int32)) (by (try rw [z0]); omega) (by (try rw [z0]); omega); rw [z0] at s0; rw [hn_0, Int32.lt_iff_toInt_lt, z1]; omega)) p_0 v2_6 c_8 c_4)) (by rw [show ti f_3 q0 1 = ((ti f_1 q0 1) + 1) from ((hE_3.ei (hA_2.m m0) rfl).trans w_9)]; first | done | exact (show ((ti f_1 q0 1) + 1) = ((ti f q0 1) + (v2_6 + 1)) from ((fun (a_0 : Int32) (a_1 : Int32) (a_2 : Int32) (a_3 : Int32) (k_0 : ¬ (359999 < a_1)) (k_1 : ¬ (a_3 < 0)) (k_2 : ¬ (a_0 ≤ a_3)) (k_3 : ¬ (1440 < a_0)) (k_4 : a_2 = (a_1 + a_3)) => (show (a_2 + 1) = (a_1 + (a_3 + 1)) from by have z0 : (0 : Int32).toInt = 0 := (by decide +kernel); have z1 : (1 : Int32).toInt = 1 := (by decide +kernel); have z2 : (1440 : Int32).toInt = 1440 := (by decide +kernel); have z3 : (359999 : Int32).toInt = 359999 := (by decide +kernel); have r0 := fb_rng (a_0); have r1 := fb_rng (a_1); have r2 := fb_rng (a_2); have r3 := fb_rng (a_3); have e0 := k_0; rw [Int32.lt_iff_toInt_lt, z3] at e0; have e1 := k_1; rw [Int32.lt_iff_toInt_lt, z0] at e1; have e2 := k_2; rw [Int32.le_iff_toInt_le] at e2; have e3 := k_3; rw [Int32.lt_iff_toInt_lt, z2] at e3; obtain ⟨n_0, hn_0, s0⟩ := nd_add (x := a_1) (y := (a_3)) (by omega) (by omega); have e4 := k_4; rw [hn_0, ← Int32.toInt_inj] at e4; obtain ⟨n_1, hn_1, s1⟩ := nd_add (x := a_2) (y := (1 : Int32)) (by (try rw [z1]); omega) (by (try rw [z1]); omega); rw [z1] at s1; obtain ⟨n_2, hn_2, s2⟩ := nd_add (x := (a_3)) (y := (1 : Int32)) (by (try rw [z1]); omega) (by (try rw [z1]); omega); rw [z1] at s2; obtain ⟨n_3, hn_3, s3⟩ := nd_add (x := a_1) (y := n_2) (by omega) (by omega); rw [hn_1, hn_2, hn_3, ← Int32.toInt_inj]; omega)) p_0 (ti f q0 1) (ti f_1 q0 1) v2_6 bs_1.2 iv0_6 c_8 c_4 iv2_6))) (by exact ms_2 ((fun (a_0 : Int32) (a_1 : Int32) (k_0 : ¬ (a_0 ≤ a_1)) (k_1 : ¬ (1440 < a_0)) => (show 1 ≤ (1440 : Int32).toInt - (a_1).toInt ∧ (1440 : Int32).toInt - ((a_1) + (1 : Int32)).toInt + 1 ≤ (1440 : Int32).toInt - (a_1).toInt from by have z0 : (1 : Int32).toInt = 1 := (by decide +kernel); have z1 : (1440 : Int32).toInt = 1440 := (by decide +kernel); have r0 := fb_rng (a_0); have r1 := fb_rng (a_1); have e0 := k_0; rw [Int32.le_iff_toInt_le] at e0; have e1 := k_1; rw [Int32.lt_iff_toInt_lt, z1] at e1; obtain ⟨n_0, hn_0, s0⟩ := nd_add (x := (a_1)) (y := (1 : Int32)) (by (try rw [z0]); omega) (by (try rw [z0]); omega); rw [z0] at s0; rw [hn_0]; (try rw [z1]); omega)) p_0 v2_6 c_8 c_4) hm_6) (by rw [← hrec_6, wpR_Md_minutes_w_27_6_pos (ms_3 ((fun (a_0 : Int32) (a_1 : Int32) (k_0 : ¬ (a_0 ≤ a_1)) (k_1 : ¬ (1440 < a_0)) => (show 1 ≤ (1440 : Int32).toInt - (a_1).toInt ∧ (1440 : Int32).toInt - ((a_1) + (1 : Int32)).toInt + 1 ≤ (1440 : Int32).toInt - (a_1).toInt from by have z0 : (1 : Int32).toInt = 1 := (by decide +kernel); have z1 : (1440 : Int32).toInt = 1440 := (by decide +kernel); have r0 := fb_rng (a_0); have r1 := fb_rng (a_1); have e0 := k_0; rw [Int32.le_iff_toInt_le] at e0; have e1 := k_1; rw [Int32.lt_iff_toInt_lt, z1] at e1; obtain ⟨n_0, hn_0, s0⟩ := nd_add (x := (a_1)) (y := (1 : Int32)) (by (try rw [z0]); omega) (by (try rw [z0]); omega); rw [z0] at s0; rw [hn_0]; (try rw [z1]); omega)) p_0 v2_6 c_8 c_4) hm_6)] at hQ; exact hQ) (lv_sub hl [1, 2, 0] rfl)
        exact cut_6 ((1440 : Int32).toInt - (0 : Int32).toInt).toNat (0 : Int32) _ _ _ _ _ hP hD hS hO_0 Ext.rf (by decide +kernel) (by decide +kernel) (show (ti f q0 1) = ((ti f q0 1) + 0) from ((fun (a_0 : Int32)  => (show a_0 = (a_0 + 0) from by have z0 : (0 : Int32).toInt = 0 := (by decide +kernel); have r0 := fb_rng (a_0); obtain ⟨n_0, hn_0, s0⟩ := nd_add (x := a_0) (y := (0 : Int32)) (by (try rw [z0]); omega) (by (try rw [z0]); omega); rw [z0] at s0; rw [hn_0, ← Int32.toInt_inj]; omega)) (ti f q0 1) )) (by exact ms_e _ _) hQ (lv_sub hl [1, 2, 0] rfl)
      · have hQ := hQ.2 c_5
        refine lv_iconst (v := (-1)) hx hb d_Md_minutes_23 (by decide +kernel) ?_
        refine W.widen (k := 0) (n := 0) (Nat.le_of_ble_eq_true rfl) (Nat.le_of_ble_eq_true rfl) ?_
        exact W.iret (v := (-1)) hx hb hr (fun t ht hW => ⟨⟨(-1), (L, f), rfl, ⟨hO_0, hA_0.mono (by decide +kernel), trivial, hQ⟩, by rw [ht]; exact hP, va_K.moved hW.alike hK, by rw [hAe]; exact hD⟩, by rw [hAe]; exact hS.F ht⟩) (by rw [hAe]; exact hS.2.2) d_Md_minutes_24
