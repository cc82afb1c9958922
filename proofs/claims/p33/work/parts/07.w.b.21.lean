def wpB_Bd_daysServed_w_9_2 (L : List Nat) (f : TF) (q0 : Nat) (p_0 : Int32) (x_1 : Int32) (Q : Int32 → Prop) (rec_2 : Int32 → Int32 → Prop) (v2_2 : Int32) (v3_2 : Int32) : Prop := ∀ x_3 : Int32, ti f q0 4 = x_3 → ((x_3 ≤ v3_2 → Q v2_2) ∧ (¬ (x_3 ≤ v3_2) → ∀ q_5 : Nat, tr f q0 3 = some q_5 → ∀ x_6 : Int32, ti f q_5 (v3_2 : Int32).toNatClampNeg = x_6 → ∀ y_7 : Int32, y_7 = (if p_0 < (x_6 + 1) then p_0 else (x_6 + 1)) → ∀ q_8 : Nat, tr f q0 2 = some q_8 → ∀ x_9 : Int32, ti f q_8 (v3_2 : Int32).toNatClampNeg = x_9 → rec_2 (v2_2 - (y_7 - x_9)) (v3_2 + 1)))
def wpL_Bd_daysServed_w_9_2 (L : List Nat) (f : TF) (q0 : Nat) (p_0 : Int32) (x_1 : Int32) (Q : Int32 → Prop) : Nat → Int32 → Int32 → Prop
  | 0 => fun v2_2 v3_2 => wpB_Bd_daysServed_w_9_2 L f q0 p_0 x_1 Q (fun _ _ => True) v2_2 v3_2
  | n + 1 => fun v2_2 v3_2 => wpB_Bd_daysServed_w_9_2 L f q0 p_0 x_1 Q (wpL_Bd_daysServed_w_9_2 L f q0 p_0 x_1 Q n) v2_2 v3_2
def wpR_Bd_daysServed_w_9_2 (L : List Nat) (f : TF) (q0 : Nat) (p_0 : Int32) (x_1 : Int32) (Q : Int32 → Prop) : Nat → Int32 → Int32 → Prop
  | 0 => fun _ _ => True
  | n + 1 => wpL_Bd_daysServed_w_9_2 L f q0 p_0 x_1 Q n
theorem wpL_Bd_daysServed_w_9_2_eq {L : List Nat} {f : TF} {q0 : Nat} {p_0 : Int32} {x_1 : Int32} {Q : Int32 → Prop} {n : Nat} : wpL_Bd_daysServed_w_9_2 L f q0 p_0 x_1 Q n = wpB_Bd_daysServed_w_9_2 L f q0 p_0 x_1 Q (wpR_Bd_daysServed_w_9_2 L f q0 p_0 x_1 Q n) := by cases n <;> rfl
theorem wpR_Bd_daysServed_w_9_2_pos {L : List Nat} {f : TF} {q0 : Nat} {p_0 : Int32} {x_1 : Int32} {Q : Int32 → Prop} {n : Nat} (h : 0 < n) : wpR_Bd_daysServed_w_9_2 L f q0 p_0 x_1 Q n = wpL_Bd_daysServed_w_9_2 L f q0 p_0 x_1 Q (n - 1) := by
  cases n with
  | zero => omega
  | succ n => rfl
def wp_Bd_daysServed_w (L : List Nat) (f : TF) (q0 : Nat) (p_0 : Int32) (Q : Int32 → Prop) : Prop := ∀ x_1 : Int32, ti f q0 1 = x_1 → wpL_Bd_daysServed_w_9_2 L f q0 p_0 x_1 Q (((6 : Int32).toInt - (0 : Int32).toInt).toNat) (p_0 - x_1) (0 : Int32)
set_option maxHeartbeats 4000000 in
set_option maxRecDepth 100000 in
theorem c_Bd_daysServed_w (l : Launch) (dC : Nat → ClassId) (dI : Nat → Nat → Nat) (ct : Nat → ClassId) (L : List Nat) (f : TF) (hO_0 : Ok L f) (q0 : Nat) (m0 : q0 ∈ L ∧ tk f q0 = 21) (p_0 : Int32)   (Q : Int32 → Prop) (hQ : wp_Bd_daysServed_w L f q0 p_0 Q) : Met l y_Bd_daysServed (.code y_Bd_daysServed b_Bd_daysServed 4 (some .int) :: TB) ({ frames := 1, cells := 0, slots := 0, locals := 21 }) (va_Pc [.ref q0, .int p_0] (PR dC dI (TW ct L f) (TT ct))) (vp_Si (fun r => (True) ∧ Q r)) 0 0 (fun _ => False) := by
  refine Met.ofW (cc := b_Bd_daysServed) (maxL := 4) (ret := (some .int)) (by decide) rfl ?_
  intro p e s m args below meth c s₁ B hml hv
  obtain ⟨rfl, hP, hK, hN⟩ := hv
  have hx := B.exec
  have hb := B.bytes
  have hr := B.returns
  have hts := atoms_spec (ws := (.code y_Bd_daysServed b_Bd_daysServed 4 (some .int) :: TB)) B.pre
  have htb := fun w (h : w ∈ TB) => hts w (List.mem_cons_of_mem _ h)
  have hown : s.vm.findClass R_Bd = some m.cls := findClass_of_methodNamed B.named
  have hlocks := B.notSynchronized
  have hl := lv_entry ([.ref q0, .int p_0]) (n := 4) (Nat.le_of_ble_eq_true rfl)
  rw [lg_entry_eq]
  generalize (lg_sl ([.ref q0, .int p_0]) ++ List.replicate (4 - (lg_sl ([.ref q0, .int p_0])).length) Slot.unset).toArray = ls at hl ⊢
  have hl : lv_has ls 4 [(0, .ref q0), (1, .int p_0)] := hl
  unfold wp_Bd_daysServed_w at hQ
  refine lv_iload_n hx hb d_Bd_daysServed_0 rfl (lv_at hl 1 rfl) ?_
  refine lv_aload_n hx hb d_Bd_daysServed_1 rfl (lv_at hl 0 rfl) ?_
  refine tw_geti (D := (dC, dI)) (C := R_Bd) (T := F_Bd) (N := 5) (ci := 8) (kd := 21) (ct := ct) hx hb htb i_Bd hown hK hP hO_0 m0 rfl rfl 1 (by decide) (htb (.fieldLink R_Bd 22 "WaterMen$Bond" "since" "I") tw_463) (fun _ h9 => h9) rfl d_Bd_daysServed_2 (fun x_1 e_1 b_1 => ?_)
  have hQ := hQ x_1 e_1
  refine lv_isub hx hb d_Bd_daysServed_5 ?_
  refine lv_istore_n (lv' := [(2, .int (p_0 - x_1)), (0, .ref q0), (1, .int p_0)]) hx hb d_Bd_daysServed_6 rfl hl (by decide) rfl (fun ls hl => ?_)
  refine lv_iconst (v := 0) hx hb d_Bd_daysServed_7 (by decide +kernel) ?_
  refine lv_istore_n (lv' := [(3, .int 0), (2, .int (p_0 - x_1)), (0, .ref q0), (1, .int p_0)]) hx hb d_Bd_daysServed_8 rfl hl (by decide) rfl (fun ls hl => ?_)
  have cut_2 : ∀ (n_2 : Nat) (v2_2 v3_2 : Int32) (ls : Array Slot), ¬ (v3_2 < 0) → ¬ (6 < v3_2) → (6 : Int32).toInt - (v3_2 : Int32).toInt ≤ (n_2 : Int) → wpL_Bd_daysServed_w_9_2 L f q0 p_0 x_1 Q n_2 v2_2 v3_2 → lv_has ls 4 [(0, .ref q0), (1, .int p_0), (2, .int v2_2), (3, .int v3_2)] → W p l e (headSpec (.code y_Bd_daysServed b_Bd_daysServed 4 (some .int) :: TB) ({ frames := 1, cells := 0, slots := 0, locals := 21 })).room s m [.ref q0, .int p_0].toArray below meth c s.heap [] 0 0 (MQ below (vp_Si (fun r => (True) ∧ Q r)) [.ref q0, .int p_0].toArray s 0 0 (fun _ => False)) (F0 m 9 ls []) := by
    intro n_2
    induction n_2 using Nat.strongRecOn with
    | _ n_2 ih_2 =>
      intro v2_2 v3_2 ls iv0_2 iv1_2 hm_2 hQ hl
      rw [wpL_Bd_daysServed_w_9_2_eq] at hQ
      obtain ⟨rec_2, hrec_2⟩ : ∃ g, wpR_Bd_daysServed_w_9_2 L f q0 p_0 x_1 Q n_2 = g := ⟨_, rfl⟩
      rw [hrec_2] at hQ
      unfold wpB_Bd_daysServed_w_9_2 at hQ
      refine lv_iload_n hx hb d_Bd_daysServed_9 rfl (lv_at hl 3 rfl) ?_
      refine lv_aload_n hx hb d_Bd_daysServed_10 rfl (lv_at hl 0 rfl) ?_
      refine tw_geti (D := (dC, dI)) (C := R_Bd) (T := F_Bd) (N := 5) (ci := 8) (kd := 21) (ct := ct) hx hb htb i_Bd hown hK hP hO_0 m0 rfl rfl 4 (by decide) (htb (.fieldLink R_Bd 25 "WaterMen$Bond" "gapCount" "I") tw_470) (fun _ h9 => h9) rfl d_Bd_daysServed_11 (fun x_3 e_3 b_3 => ?_)
      have hQ := hQ x_3 e_3
      refine lv_icmp_ge (tgt := 45) hx hb d_Bd_daysServed_14 (by decide) (fun c_4 => ?_) (fun c_4 => ?_)
      · have hQ := hQ.1 c_4
        refine lv_iload_n hx hb d_Bd_daysServed_45 rfl (lv_at hl 2 rfl) ?_
        exact W.iret (v := v2_2) hx hb hr (fun t ht hW => ⟨v2_2, rfl, ⟨trivial, hQ⟩, ht⟩) t_nil d_Bd_daysServed_46
      · have hQ := hQ.2 c_4
        refine lv_iload_n hx hb d_Bd_daysServed_17 rfl (lv_at hl 2 rfl) ?_
        refine lv_aload_n hx hb d_Bd_daysServed_18 rfl (lv_at hl 0 rfl) ?_
        refine tw_getr (D := (dC, dI)) (C := R_Bd) (T := F_Bd) (N := 5) (ci := 8) (kd := 21) (ct := ct) hx hb htb i_Bd hown hK hP hO_0 m0 rfl rfl 3 (by decide) (htb (.fieldLink R_Bd 15 "WaterMen$Bond" "gapTo" "[I") tw_461) (fun _ h9 => h9) rfl d_Bd_daysServed_19 (fun q_5 e_5 m_5 => ?_)
        have hQ := hQ q_5 e_5
        refine lv_iload_n hx hb d_Bd_daysServed_22 rfl (lv_at hl 3 rfl) ?_
        refine tw_aldI (ct := ct) hx hb hK hP hO_0 m_5 rfl ((fun (a_0 : Int32) (a_1 : Int32) (k_0 : ¬ (a_0 < 0)) (k_1 : ¬ (a_1 ≤ a_0)) (k_2 : ¬ (6 < a_1)) => (show vp_in (a_0) 6 from by have z0 : (0 : Int32).toInt = 0 := (by decide +kernel); have z1 : (6 : Int32).toInt = 6 := (by decide +kernel); have r0 := fb_rng (a_0); have r1 := fb_rng (a_1); have e0 := k_0; rw [Int32.lt_iff_toInt_lt, z0] at e0; have e1 := k_1; rw [Int32.le_iff_toInt_le] at e1; have e2 := k_2; rw [Int32.lt_iff_toInt_lt, z1] at e2; rw [vp_in_iff]; omega)) v3_2 x_3 iv0_2 c_4 b_3.2) d_Bd_daysServed_23 (fun x_6 e_6 b_6 => ?_)
        have hQ := hQ x_6 e_6
        refine lv_iconst (v := 1) hx hb d_Bd_daysServed_24 (by decide +kernel) ?_
        refine lv_iadd hx hb d_Bd_daysServed_25 ?_
        refine lv_iload_n hx hb d_Bd_daysServed_26 rfl (lv_at hl 1 rfl) ?_
        refine va_mmin hx hb (hml.trans hl.1.symm) hown (htb (.methodLink R_Bd 28 Lib.Math.min.name) tw_482) (htb (.static Lib.Math.min.name) tw_483) (htb (.initialized "java/lang/Math") tw_55) (htb (.code Lib.Math.min.name Lib.Math.min.code 2 (some .int)) tw_484) (Nat.le_of_ble_eq_true rfl) (Nat.le_of_ble_eq_true rfl) (Nat.le_of_ble_eq_true rfl) (Nat.le_of_ble_eq_true rfl) d_Bd_daysServed_27 ?_
        refine hb_eqi (fun y_7 hy_7 => ?_)
        have hQ := hQ y_7 hy_7
        refine lv_aload_n hx hb d_Bd_daysServed_30 rfl (lv_at hl 0 rfl) ?_
        refine tw_getr (D := (dC, dI)) (C := R_Bd) (T := F_Bd) (N := 5) (ci := 8) (kd := 21) (ct := ct) hx hb htb i_Bd hown hK hP hO_0 m0 rfl rfl 2 (by decide) (htb (.fieldLink R_Bd 9 "WaterMen$Bond" "gapFrom" "[I") tw_460) (fun _ h9 => h9) rfl d_Bd_daysServed_31 (fun q_8 e_8 m_8 => ?_)
        have hQ := hQ q_8 e_8
        refine lv_iload_n hx hb d_Bd_daysServed_34 rfl (lv_at hl 3 rfl) ?_
        refine tw_aldI (ct := ct) hx hb hK hP hO_0 m_8 rfl ((fun (a_0 : Int32) (a_1 : Int32) (k_0 : ¬ (a_0 < 0)) (k_1 : ¬ (a_1 ≤ a_0)) (k_2 : ¬ (6 < a_1)) => (show vp_in (a_0) 6 from by have z0 : (0 : Int32).toInt = 0 := (by decide +kernel); have z1 : (6 : Int32).toInt = 6 := (by decide +kernel); have r0 := fb_rng (a_0); have r1 := fb_rng (a_1); have e0 := k_0; rw [Int32.lt_iff_toInt_lt, z0] at e0; have e1 := k_1; rw [Int32.le_iff_toInt_le] at e1; have e2 := k_2; rw [Int32.lt_iff_toInt_lt, z1] at e2; rw [vp_in_iff]; omega)) v3_2 x_3 iv0_2 c_4 b_3.2) d_Bd_daysServed_35 (fun x_9 e_9 b_9 => ?_)
        have hQ := hQ x_9 e_9
        refine lv_isub hx hb d_Bd_daysServed_36 ?_
        refine lv_isub hx hb d_Bd_daysServed_37 ?_
        refine lv_istore_n (lv' := [(2, .int (v2_2 - (y_7 - x_9))), (0, .ref q0), (1, .int p_0), (3, .int v3_2)]) hx hb d_Bd_daysServed_38 rfl hl (by decide) rfl (fun ls hl => ?_)
        refine lv_iinc (v := (v3_2 + 1)) (lv' := [(3, .int (v3_2 + 1)), (2, .int (v2_2 - (y_7 - x_9))), (0, .ref q0), (1, .int p_0)]) hx hb d_Bd_daysServed_39 hl (k := 3) rfl rfl (by decide) rfl (fun ls hl => ?_)
        refine lv_goto (tgt := 9) hx hb d_Bd_daysServed_42 (by decide) ?_
        exact ih_2 (n_2 - 1) (ms_1 ((fun (a_0 : Int32) (a_1 : Int32) (k_0 : ¬ (a_1 ≤ a_0)) (k_1 : ¬ (6 < a_1)) => (show 1 ≤ (6 : Int32).toInt - (a_0).toInt ∧ (6 : Int32).toInt - ((a_0) + (1 : Int32)).toInt + 1 ≤ (6 : Int32).toInt - (a_0).toInt from by have z0 : (1 : Int32).toInt = 1 := (by decide +kernel); have z1 : (6 : Int32).toInt = 6 := (by decide +kernel); have r0 := fb_rng (a_0); have r1 := fb_rng (a_1); have e0 := k_0; rw [Int32.le_iff_toInt_le] at e0; have e1 := k_1; rw [Int32.lt_iff_toInt_lt, z1] at e1; obtain ⟨n_0, hn_0, s0⟩ := nd_add (x := (a_0)) (y := (1 : Int32)) (by (try rw [z0]); omega) (by (try rw [z0]); omega); rw [z0] at s0; rw [hn_0]; (try rw [z1]); omega)) v3_2 x_3 c_4 b_3.2) hm_2) (v2_2 - (y_7 - x_9)) (v3_2 + 1) _ (show ¬ ((v3_2 + 1) < 0) from by have e0 := iv0_2; rw [Int32.lt_iff_toInt_lt] at e0; have e1 := iv1_2; rw [Int32.lt_iff_toInt_lt] at e1; have z0 : (0 : Int32).toInt = 0 := (by decide +kernel); have z1 : (1 : Int32).toInt = 1 := (by decide +kernel); have z2 : (6 : Int32).toInt = 6 := (by decide +kernel); have ss := fb_addI (x := v3_2) (y := 1) (by omega) (by omega); rw [Int32.lt_iff_toInt_lt]; omega) (show ¬ (6 < (v3_2 + 1)) from ((fun (a_0 : Int32) (a_1 : Int32) (k_0 : ¬ (a_1 ≤ a_0)) (k_1 : ¬ (6 < a_1)) => (show ¬ (6 < (a_0 + 1)) from by have z0 : (1 : Int32).toInt = 1 := (by decide +kernel); have z1 : (6 : Int32).toInt = 6 := (by decide +kernel); have r0 := fb_rng (a_0); have r1 := fb_rng (a_1); have e0 := k_0; rw [Int32.le_iff_toInt_le] at e0; have e1 := k_1; rw [Int32.lt_iff_toInt_lt, z1] at e1; obtain ⟨n_0, hn_0, s0⟩ := nd_add (x := (a_0)) (y := (1 : Int32)) (by (try rw [z0]); omega) (by (try rw [z0]); omega); rw [z0] at s0; rw [hn_0, Int32.lt_iff_toInt_lt, z1]; omega)) v3_2 x_3 c_4 b_3.2)) (by exact ms_2 ((fun (a_0 : Int32) (a_1 : Int32) (k_0 : ¬ (a_1 ≤ a_0)) (k_1 : ¬ (6 < a_1)) => (show 1 ≤ (6 : Int32).toInt - (a_0).toInt ∧ (6 : Int32).toInt - ((a_0) + (1 : Int32)).toInt + 1 ≤ (6 : Int32).toInt - (a_0).toInt from by have z0 : (1 : Int32).toInt = 1 := (by decide +kernel); have z1 : (6 : Int32).toInt = 6 := (by decide +kernel); have r0 := fb_rng (a_0); have r1 := fb_rng (a_1); have e0 := k_0; rw [Int32.le_iff_toInt_le] at e0; have e1 := k_1; rw [Int32.lt_iff_toInt_lt, z1] at e1; obtain ⟨n_0, hn_0, s0⟩ := nd_add (x := (a_0)) (y := (1 : Int32)) (by (try rw [z0]); omega) (by (try rw [z0]); omega); rw [z0] at s0; rw [hn_0]; (try rw [z1]); omega)) v3_2 x_3 c_4 b_3.2) hm_2) (by rw [← hrec_2, wpR_Bd_daysServed_w_9_2_pos (ms_3 ((fun (a_0 : Int32) (a_1 : Int32) (k_0 : ¬ (a_1 ≤ a_0)) (k_1 : ¬ (6 < a_1)) => (show 1 ≤ (6 : Int32).toInt - (a_0).toInt ∧ (6 : Int32).toInt - ((a_0) + (1 : Int32)).toInt + 1 ≤ (6 : Int32).toInt - (a_0).toInt from by have z0 : (1 : Int32).toInt = 1 := (by decide +kernel); have z1 : (6 : Int32).toInt = 6 := (by decide +kernel); have r0 := fb_rng (a_0); have r1 := fb_rng (a_1); have e0 := k_0; rw [Int32.le_iff_toInt_le] at e0; have e1 := k_1; rw [Int32.lt_iff_toInt_lt, z1] at e1; obtain ⟨n_0, hn_0, s0⟩ := nd_add (x := (a_0)) (y := (1 : Int32)) (by (try rw [z0]); omega) (by (try rw [z0]); omega); rw [z0] at s0; rw [hn_0]; (try rw [z1]); omega)) v3_2 x_3 c_4 b_3.2) hm_2)] at hQ; exact hQ) (lv_sub hl [2, 3, 1, 0] rfl)
  exact cut_2 ((6 : Int32).toInt - (0 : Int32).toInt).toNat (p_0 - x_1) (0 : Int32) _ (by decide +kernel) (by decide +kernel) (by exact ms_e _ _) hQ (lv_sub hl [2, 3, 1, 0] rfl)
def wp_WM_served_w (L : List Nat) (f : TF) (q0 : Nat) (p_0 : Int32) (Q : Int32 → Prop) : Prop := wp_WM_manAt_w L f q0 p_0 (fun (r_1 : Option Nat) => ((r_1 = none → Q (-1)) ∧ (∀ q_1 : Nat, r_1 = some q_1 → ((tr f q_1 1 = none → Q (-2)) ∧ (∀ q_2 : Nat, tr f q_1 1 = some q_2 → ∀ x_3 : Int32, ti f q_1 0 = x_3 → ((x_3 = 1 → wp_WM_today_w L f q0 (fun (r_5 : Int32) => (wp_Bd_daysServed_w L f q_2 r_5 (fun (r_8 : Int32) => Q r_8)))) ∧ (¬ (x_3 = 1) → Q (-2))))))))
set_option maxHeartbeats 4000000 in
set_option maxRecDepth 100000 in
theorem c_WM_served_w (l : Launch) (dC : Nat → ClassId) (dI : Nat → Nat → Nat) (ct : Nat → ClassId) (L : List Nat) (f : TF) (hO_0 : Ok L f) (q0 : Nat) (m0 : q0 ∈ L ∧ tk f q0 = 0) (p_0 : Int32)   (Q : Int32 → Prop) (hQ : wp_WM_served_w L f q0 p_0 Q) : Met l y_WM_served (.code y_WM_served b_WM_served 4 (some .int) :: TB) ({ frames := 2, cells := 0, slots := 0, locals := 44 }) (va_Pc [.ref q0, .int p_0] (PR dC dI (TW ct L f) (TT ct))) (vp_Si (fun r => (True) ∧ Q r)) 0 0 (fun _ => False) := by
  refine Met.ofW (cc := b_WM_served) (maxL := 4) (ret := (some .int)) (by decide) rfl ?_
  intro p e s m args below meth c s₁ B hml hv
  obtain ⟨rfl, hP, hK, hN⟩ := hv
  have hx := B.exec
  have hb := B.bytes
  have hr := B.returns
  have hts := atoms_spec (ws := (.code y_WM_served b_WM_served 4 (some .int) :: TB)) B.pre
  have htb := fun w (h : w ∈ TB) => hts w (List.mem_cons_of_mem _ h)
  have hown : s.vm.findClass R_WM = some m.cls := findClass_of_methodNamed B.named
  have hlocks := B.notSynchronized
  have hl := lv_entry ([.ref q0, .int p_0]) (n := 4) (Nat.le_of_ble_eq_true rfl)
  rw [lg_entry_eq]
  generalize (lg_sl ([.ref q0, .int p_0]) ++ List.replicate (4 - (lg_sl ([.ref q0, .int p_0])).length) Slot.unset).toArray = ls at hl ⊢
  have hl : lv_has ls 4 [(0, .ref q0), (1, .int p_0)] := hl
  unfold wp_WM_served_w at hQ
  refine lv_aload_n hx hb d_WM_served_0 rfl (lv_at hl 0 rfl) ?_
  refine lv_iload_n hx hb d_WM_served_1 rfl (lv_at hl 1 rfl) ?_
  refine va_csq (va_Run.run (va_runV (As := [.int p_0]) (rest := []) ⟨hx, hb, hml, hown, htb⟩ (c_WM_manAt_w l dC dI ct L f hO_0 q0 m0 p_0 _ hQ) (cwV 1 htb (gd_V tw_27 tw_28 tw_29 tw_26 tw_25) rfl rfl rfl (by decide +kernel) ⟨Nat.le_of_ble_eq_true rfl, Nat.le_of_ble_eq_true rfl⟩) ⟨pr_blind, tw_recv hK hP m0 rfl rfl, pr_pre hP hK hN⟩ rfl rfl hl.1 rfl (lv_room (Nat.le_of_ble_eq_true rfl)) d_WM_served_2 ⟨Nat.le_of_ble_eq_true rfl, Nat.le_of_ble_eq_true rfl⟩)) (fun r_1 er_1 => ?_)
  obtain ⟨er_1, hQ⟩ := er_1
  rcases er_1 with rfl | ⟨q_1, rfl, m_1⟩
  · have hQ := hQ.1 rfl
    refine hb_tv .null rfl ?_
    refine lv_astore_nN (lv' := [(2, .null), (0, .ref q0), (1, .int p_0)]) hx hb d_WM_served_5 rfl hl (by decide) rfl (fun ls hl => ?_)
    refine lv_aload_nN hx hb d_WM_served_6 rfl (lv_at hl 0 rfl) ?_
    refine lv_ifnonnullN hx hb d_WM_served_7 ?_
    refine lv_iconst (v := (-1)) hx hb d_WM_served_10 (by decide +kernel) ?_
    exact W.iret (v := (-1)) hx hb hr (fun t ht hW => ⟨(-1), rfl, ⟨trivial, hQ⟩, ht⟩) t_nil d_WM_served_11
  · have hQ := hQ.2 q_1 rfl
    refine hb_tv (.ref q_1) rfl ?_
    refine lv_astore_n (lv' := [(2, .ref q_1), (0, .ref q0), (1, .int p_0)]) hx hb d_WM_served_5 rfl hl (by decide) rfl (fun ls hl => ?_)
    refine lv_aload_n hx hb d_WM_served_6 rfl (lv_at hl 0 rfl) ?_
    refine lv_ifnonnull (tgt := 12) hx hb d_WM_served_7 (by decide) ?_
    refine lv_aload_n hx hb d_WM_served_12 rfl (lv_at hl 0 rfl) ?_
    refine tw_getq (D := (dC, dI)) (C := R_Mn) (T := F_Mn) (N := 8) (ci := 2) (kd := 20) (ct := ct) hx hb htb i_Mn hown hK hP hO_0 m_1 rfl rfl 1 (by decide) (htb (.fieldLink R_WM 119 "WaterMen$Man" "bond" "LWaterMen$Bond;") tw_31) (fun _ h9 => h9) rfl d_WM_served_13 (fun e_2 => ?_) (fun q_2 e_2 m_2 => ?_)
    · have hQ := hQ.1 e_2
      refine lv_astore_nN (lv' := [(3, .null), (2, .ref q_1), (0, .ref q0), (1, .int p_0)]) hx hb d_WM_served_16 rfl hl (by decide) rfl (fun ls hl => ?_)
      refine lv_aload_nN hx hb d_WM_served_17 rfl (lv_at hl 0 rfl) ?_
      refine lv_ifnullN (tgt := 29) hx hb d_WM_served_18 (by decide) ?_
      refine lv_bipush (v := (-2)) hx hb d_WM_served_29 (by decide +kernel) ?_
      refine lv_goto (tgt := 42) hx hb d_WM_served_31 (by decide) ?_
      exact W.iret (v := (-2)) hx hb hr (fun t ht hW => ⟨(-2), rfl, ⟨trivial, hQ⟩, ht⟩) t_nil d_WM_served_42
    · have hQ := hQ.2 q_2 e_2
      refine lv_astore_n (lv' := [(3, .ref q_2), (2, .ref q_1), (0, .ref q0), (1, .int p_0)]) hx hb d_WM_served_16 rfl hl (by decide) rfl (fun ls hl => ?_)
      refine lv_aload_n hx hb d_WM_served_17 rfl (lv_at hl 0 rfl) ?_
      refine lv_ifnull hx hb d_WM_served_18 ?_
      refine lv_aload_n hx hb d_WM_served_21 rfl (lv_at hl 1 rfl) ?_
      refine tw_geti (D := (dC, dI)) (C := R_Mn) (T := F_Mn) (N := 8) (ci := 2) (kd := 20) (ct := ct) hx hb htb i_Mn hown hK hP hO_0 m_1 rfl rfl 0 (by decide) (htb (.fieldLink R_WM 111 "WaterMen$Man" "state" "I") tw_30) (fun _ h9 => h9) rfl d_WM_served_22 (fun x_3 e_3 b_3 => ?_)
      have hQ := hQ x_3 e_3
      refine lv_iconst (v := 1) hx hb d_WM_served_25 (by decide +kernel) ?_
      refine lv_icmp_eq (tgt := 34) hx hb d_WM_served_26 (by decide) (fun c_4 => ?_) (fun c_4 => ?_)
      · have hQ := hQ.1 c_4
        refine lv_aload_n hx hb d_WM_served_34 rfl (lv_at hl 0 rfl) ?_
        refine lv_aload_n hx hb d_WM_served_35 rfl (lv_at hl 2 rfl) ?_
        refine vp_callSi (va_Run.run (va_runV (As := []) (rest := [.ref q_2]) ⟨hx, hb, hml, hown, htb⟩ (c_WM_today_w l dC dI ct L f hO_0 q0 m0 _ hQ) (cwV 0 htb (gd_V tw_50 tw_51 tw_52 tw_26 tw_49) rfl rfl rfl (by decide +kernel) ⟨Nat.le_of_ble_eq_true rfl, Nat.le_of_ble_eq_true rfl⟩) ⟨pr_blind, tw_recv hK hP m0 rfl rfl, pr_pre hP hK hN⟩ rfl rfl hl.1 rfl (lv_room (Nat.le_of_ble_eq_true rfl)) d_WM_served_36 ⟨Nat.le_of_ble_eq_true rfl, Nat.le_of_ble_eq_true rfl⟩)) (fun r_5 er_5 => ?_)
        obtain ⟨er_5, hQ⟩ := er_5
        obtain ⟨po_6, po_7, -⟩ := er_5
        refine vp_callSi (va_Run.run (va_runV (As := [.int r_5]) (rest := []) ⟨hx, hb, hml, hown, htb⟩ (c_Bd_daysServed_w l dC dI ct L f hO_0 q_2 m_2 r_5 _ hQ) (cwV 1 htb (gd_V tw_486 tw_487 tw_488 tw_458 tw_485) rfl rfl rfl (by decide +kernel) ⟨Nat.le_of_ble_eq_true rfl, Nat.le_of_ble_eq_true rfl⟩) ⟨pr_blind, tw_recv hK hP m_2 rfl rfl, pr_pre hP hK hN⟩ rfl rfl hl.1 rfl (lv_room (Nat.le_of_ble_eq_true rfl)) d_WM_served_39 ⟨Nat.le_of_ble_eq_true rfl, Nat.le_of_ble_eq_true rfl⟩)) (fun r_8 er_8 => ?_)
        obtain ⟨er_8, hQ⟩ := er_8
        clear er_8
        exact W.iret (v := r_8) hx hb hr (fun t ht hW => ⟨r_8, rfl, ⟨trivial, hQ⟩, ht⟩) t_nil d_WM_served_42
      · have hQ := hQ.2 c_4
        refine lv_bipush (v := (-2)) hx hb d_WM_served_29 (by decide +kernel) ?_
        refine lv_goto (tgt := 42) hx hb d_WM_served_31 (by decide) ?_
        exact W.iret (v := (-2)) hx hb hr (fun t ht hW => ⟨(-2), rfl, ⟨trivial, hQ⟩, ht⟩) t_nil d_WM_served_42
def wpB_Md_servedOf_w_14_8 (L : List Nat) (f : TF) (q0 : Nat) (p_0 : Int32) (r_1 : Int32) (q_6 : Nat) (x_7 : Int32) (Q : Int32 → Prop) (rec_8 : Int32 → Int32 → Prop) (v2_8 : Int32) (v3_8 : Int32) : Prop := ∀ q_9 : Nat, tr f q0 12 = some q_9 → ∀ x_10 : Int32, ti f q_9 (p_0 : Int32).toNatClampNeg = x_10 → ((x_10 ≤ v3_8 → Q v2_8) ∧ (¬ (x_10 ≤ v3_8) → ∀ q_12 : Nat, tr f q0 14 = some q_12 → ∀ x_13 : Int32, ti f q_12 (((6 * p_0) + v3_8) : Int32).toNatClampNeg = x_13 → wp_Md_today_w L f q0 (fun (r_14 : Int32) => (((r_14 ≤ x_13 → wp_Md_today_w L f q0 (fun (r_20 : Int32) => (∀ q_25 : Nat, tr f q0 13 = some q_25 → ∀ x_26 : Int32, ti f q_25 (((6 * p_0) + v3_8) : Int32).toNatClampNeg = x_26 → rec_8 (v2_8 - (((r_20 - 1) - x_26) + 1)) (v3_8 + 1)))) ∧ (¬ (r_14 ≤ x_13) → ∀ q_28 : Nat, tr f q0 13 = some q_28 → ∀ x_29 : Int32, ti f q_28 (((6 * p_0) + v3_8) : Int32).toNatClampNeg = x_29 → rec_8 (v2_8 - ((x_13 - x_29) + 1)) (v3_8 + 1)))))))
def wpL_Md_servedOf_w_14_8 (L : List Nat) (f : TF) (q0 : Nat) (p_0 : Int32) (r_1 : Int32) (q_6 : Nat) (x_7 : Int32) (Q : Int32 → Prop) : Nat → Int32 → Int32 → Prop
  | 0 => fun v2_8 v3_8 => wpB_Md_servedOf_w_14_8 L f q0 p_0 r_1 q_6 x_7 Q (fun _ _ => True) v2_8 v3_8
  | n + 1 => fun v2_8 v3_8 => wpB_Md_servedOf_w_14_8 L f q0 p_0 r_1 q_6 x_7 Q (wpL_Md_servedOf_w_14_8 L f q0 p_0 r_1 q_6 x_7 Q n) v2_8 v3_8
def wpR_Md_servedOf_w_14_8 (L : List Nat) (f : TF) (q0 : Nat) (p_0 : Int32) (r_1 : Int32) (q_6 : Nat) (x_7 : Int32) (Q : Int32 → Prop) : Nat → Int32 → Int32 → Prop
  | 0 => fun _ _ => True
  | n + 1 => wpL_Md_servedOf_w_14_8 L f q0 p_0 r_1 q_6 x_7 Q n
theorem wpL_Md_servedOf_w_14_8_eq {L : List Nat} {f : TF} {q0 : Nat} {p_0 : Int32} {r_1 : Int32} {q_6 : Nat} {x_7 : Int32} {Q : Int32 → Prop} {n : Nat} : wpL_Md_servedOf_w_14_8 L f q0 p_0 r_1 q_6 x_7 Q n = wpB_Md_servedOf_w_14_8 L f q0 p_0 r_1 q_6 x_7 Q (wpR_Md_servedOf_w_14_8 L f q0 p_0 r_1 q_6 x_7 Q n) := by cases n <;> rfl
theorem wpR_Md_servedOf_w_14_8_pos {L : List Nat} {f : TF} {q0 : Nat} {p_0 : Int32} {r_1 : Int32} {q_6 : Nat} {x_7 : Int32} {Q : Int32 → Prop} {n : Nat} (h : 0 < n) : wpR_Md_servedOf_w_14_8 L f q0 p_0 r_1 q_6 x_7 Q n = wpL_Md_servedOf_w_14_8 L f q0 p_0 r_1 q_6 x_7 Q (n - 1) := by
  cases n with
  | zero => omega
  | succ n => rfl
def wp_Md_servedOf_w (L : List Nat) (f : TF) (q0 : Nat) (p_0 : Int32) (Q : Int32 → Prop) : Prop := wp_Md_today_w L f q0 (fun (r_1 : Int32) => (∀ q_6 : Nat, tr f q0 11 = some q_6 → ∀ x_7 : Int32, ti f q_6 (p_0 : Int32).toNatClampNeg = x_7 → wpL_Md_servedOf_w_14_8 L f q0 p_0 r_1 q_6 x_7 Q (((6 : Int32).toInt - (0 : Int32).toInt).toNat) (r_1 - x_7) (0 : Int32)))
set_option maxHeartbeats 4000000 in
set_option maxRecDepth 100000 in
theorem c_Md_servedOf_w (l : Launch) (dC : Nat → ClassId) (dI : Nat → Nat → Nat) (ct : Nat → ClassId) (L : List Nat) (f : TF) (hO_0 : Ok L f) (q0 : Nat) (m0 : q0 ∈ L ∧ tk f q0 = 27) (p_0 : Int32)  (as_0 : ¬ (p_0 < 0)) (as_1 : ¬ (39 < p_0)) (Q : Int32 → Prop) (hQ : wp_Md_servedOf_w L f q0 p_0 Q) : Met l y_Md_servedOf (.code y_Md_servedOf b_Md_servedOf 5 (some .int) :: TB) ({ frames := 1, cells := 0, slots := 0, locals := 20 }) (va_Pc [.ref q0, .int p_0] (PR dC dI (TW ct L f) (TT ct))) (vp_Si (fun r => (True) ∧ Q r)) 0 0 (fun _ => False) := by
  refine Met.ofW (cc := b_Md_servedOf) (maxL := 5) (ret := (some .int)) (by decide) rfl ?_
  intro p e s m args below meth c s₁ B hml hv
  obtain ⟨rfl, hP, hK, hN⟩ := hv
  have hx := B.exec
  have hb := B.bytes
  have hr := B.returns
  have hts := atoms_spec (ws := (.code y_Md_servedOf b_Md_servedOf 5 (some .int) :: TB)) B.pre
  have htb := fun w (h : w ∈ TB) => hts w (List.mem_cons_of_mem _ h)
  have hown : s.vm.findClass R_Md = some m.cls := findClass_of_methodNamed B.named
  have hlocks := B.notSynchronized
  have hl := lv_entry ([.ref q0, .int p_0]) (n := 5) (Nat.le_of_ble_eq_true rfl)
  rw [lg_entry_eq]
  generalize (lg_sl ([.ref q0, .int p_0]) ++ List.replicate (5 - (lg_sl ([.ref q0, .int p_0])).length) Slot.unset).toArray = ls at hl ⊢
  have hl : lv_has ls 5 [(0, .ref q0), (1, .int p_0)] := hl
  unfold wp_Md_servedOf_w at hQ
  refine lv_aload_n hx hb d_Md_servedOf_0 rfl (lv_at hl 0 rfl) ?_
  refine vp_callSi (va_Run.run (va_runV (As := []) (rest := []) ⟨hx, hb, hml, hown, htb⟩ (c_Md_today_w l dC dI ct L f hO_0 q0 m0 _ hQ) (cwV 0 htb (gd_V tw_113 tw_114 tw_115 tw_89 tw_112) rfl rfl rfl (by decide +kernel) ⟨Nat.le_of_ble_eq_true rfl, Nat.le_of_ble_eq_true rfl⟩) ⟨pr_blind, tw_recv hK hP m0 rfl rfl, pr_pre hP hK hN⟩ rfl rfl hl.1 rfl (lv_room (Nat.le_of_ble_eq_true rfl)) d_Md_servedOf_1 ⟨Nat.le_of_ble_eq_true rfl, Nat.le_of_ble_eq_true rfl⟩)) (fun r_1 er_1 => ?_)
  obtain ⟨er_1, hQ⟩ := er_1
  obtain ⟨po_2, po_3, po_4, po_5, -⟩ := er_1
  refine lv_aload_n hx hb d_Md_servedOf_4 rfl (lv_at hl 0 rfl) ?_
  refine tw_getr (D := (dC, dI)) (C := R_Md) (T := F_Md) (N := 64) (ci := 7) (kd := 27) (ct := ct) hx hb htb i_Md hown hK hP hO_0 m0 rfl rfl 11 (by decide) (htb (.fieldLink R_Md 64 "WaterMenModel" "boundOn" "[I") tw_467) (fun _ h9 => h9) rfl d_Md_servedOf_5 (fun q_6 e_6 m_6 => ?_)
  have hQ := hQ q_6 e_6
  refine lv_iload_n hx hb d_Md_servedOf_8 rfl (lv_at hl 1 rfl) ?_
  refine tw_aldI (ct := ct) hx hb hK hP hO_0 m_6 rfl (hb_inl as_0 as_1 (by decide +kernel)) d_Md_servedOf_9 (fun x_7 e_7 b_7 => ?_)
  have hQ := hQ x_7 e_7
  refine lv_isub hx hb d_Md_servedOf_10 ?_
  refine lv_istore_n (lv' := [(2, .int (r_1 - x_7)), (0, .ref q0), (1, .int p_0)]) hx hb d_Md_servedOf_11 rfl hl (by decide) rfl (fun ls hl => ?_)
  refine lv_iconst (v := 0) hx hb d_Md_servedOf_12 (by decide +kernel) ?_
  refine lv_istore_n (lv' := [(3, .int 0), (2, .int (r_1 - x_7)), (0, .ref q0), (1, .int p_0)]) hx hb d_Md_servedOf_13 rfl hl (by decide) rfl (fun ls hl => ?_)
  have cut_8 : ∀ (n_8 : Nat) (v2_8 v3_8 : Int32) (ls : Array Slot), ¬ (v3_8 < 0) → ¬ (6 < v3_8) → (6 : Int32).toInt - (v3_8 : Int32).toInt ≤ (n_8 : Int) → wpL_Md_servedOf_w_14_8 L f q0 p_0 r_1 q_6 x_7 Q n_8 v2_8 v3_8 → lv_has ls 5 [(0, .ref q0), (1, .int p_0), (2, .int v2_8), (3, .int v3_8)] → W p l e (headSpec (.code y_Md_servedOf b_Md_servedOf 5 (some .int) :: TB) ({ frames := 1, cells := 0, slots := 0, locals := 20 })).room s m [.ref q0, .int p_0].toArray below meth c s.heap [] 0 0 (MQ below (vp_Si (fun r => (True) ∧ Q r)) [.ref q0, .int p_0].toArray s 0 0 (fun _ => False)) (F0 m 14 ls []) := by
    intro n_8
    induction n_8 using Nat.strongRecOn with
    | _ n_8 ih_8 =>
      intro v2_8 v3_8 ls iv0_8 iv1_8 hm_8 hQ hl
      rw [wpL_Md_servedOf_w_14_8_eq] at hQ
      obtain ⟨rec_8, hrec_8⟩ : ∃ g, wpR_Md_servedOf_w_14_8 L f q0 p_0 r_1 q_6 x_7 Q n_8 = g := ⟨_, rfl⟩
      rw [hrec_8] at hQ
      unfold wpB_Md_servedOf_w_14_8 at hQ
      refine lv_iload_n hx hb d_Md_servedOf_14 rfl (lv_at hl 3 rfl) ?_
      refine lv_aload_n hx hb d_Md_servedOf_15 rfl (lv_at hl 0 rfl) ?_
      refine tw_getr (D := (dC, dI)) (C := R_Md) (T := F_Md) (N := 64) (ci := 7) (kd := 27) (ct := ct) hx hb htb i_Md hown hK hP hO_0 m0 rfl rfl 12 (by decide) (htb (.fieldLink R_Md 67 "WaterMenModel" "gaps" "[I") tw_468) (fun _ h9 => h9) rfl d_Md_servedOf_16 (fun q_9 e_9 m_9 => ?_)
      have hQ := hQ q_9 e_9
      refine lv_iload_n hx hb d_Md_servedOf_19 rfl (lv_at hl 1 rfl) ?_
      refine tw_aldI (ct := ct) hx hb hK hP hO_0 m_9 rfl (hb_inl as_0 as_1 (by decide +kernel)) d_Md_servedOf_20 (fun x_10 e_10 b_10 => ?_)
      have hQ := hQ x_10 e_10
      refine lv_icmp_ge (tgt := 89) hx hb d_Md_servedOf_21 (by decide) (fun c_11 => ?_) (fun c_11 => ?_)
      · have hQ := hQ.1 c_11
        refine lv_iload_n hx hb d_Md_servedOf_89 rfl (lv_at hl 2 rfl) ?_
        exact W.iret (v := v2_8) hx hb hr (fun t ht hW => ⟨v2_8, rfl, ⟨trivial, hQ⟩, ht⟩) t_nil d_Md_servedOf_90
      · have hQ := hQ.2 c_11
        refine lv_aload_n hx hb d_Md_servedOf_24 rfl (lv_at hl 0 rfl) ?_
        refine tw_getr (D := (dC, dI)) (C := R_Md) (T := F_Md) (N := 64) (ci := 7) (kd := 27) (ct := ct) hx hb htb i_Md hown hK hP hO_0 m0 rfl rfl 14 (by decide) (htb (.fieldLink R_Md 73 "WaterMenModel" "gapTo" "[I") tw_481) (fun _ h9 => h9) rfl d_Md_servedOf_25 (fun q_12 e_12 m_12 => ?_)
        have hQ := hQ q_12 e_12
        refine lv_bipush (v := 6) hx hb d_Md_servedOf_28 (by decide +kernel) ?_
        refine lv_iload_n hx hb d_Md_servedOf_30 rfl (lv_at hl 1 rfl) ?_
        refine lv_imul hx hb d_Md_servedOf_31 ?_
        refine lv_iload_n hx hb d_Md_servedOf_32 rfl (lv_at hl 3 rfl) ?_
        refine lv_iadd hx hb d_Md_servedOf_33 ?_
        refine tw_aldI (ct := ct) hx hb hK hP hO_0 m_12 rfl ((fun (a_0 : Int32) (a_1 : Int32) (a_2 : Int32) (k_0 : ¬ (a_0 < 0)) (k_1 : ¬ (39 < a_0)) (k_2 : ¬ (a_1 < 0)) (k_3 : ¬ (a_2 ≤ a_1)) (k_4 : ¬ (6 < a_2)) => (show vp_in (((6 * a_0) + a_1)) 240 from by have z0 : (0 : Int32).toInt = 0 := (by decide +kernel); have z1 : (6 : Int32).toInt = 6 := (by decide +kernel); have z2 : (39 : Int32).toInt = 39 := (by decide +kernel); have r0 := fb_rng (a_0); have r1 := fb_rng (a_1); have r2 := fb_rng (a_2); have e0 := k_0; rw [Int32.lt_iff_toInt_lt, z0] at e0; have e1 := k_1; rw [Int32.lt_iff_toInt_lt, z2] at e1; have e2 := k_2; rw [Int32.lt_iff_toInt_lt, z0] at e2; have e3 := k_3; rw [Int32.le_iff_toInt_le] at e3; have e4 := k_4; rw [Int32.lt_iff_toInt_lt, z1] at e4; obtain ⟨n_0, hn_0, s0⟩ := nd_mul (x := (6 : Int32)) (y := (a_0)) (by (try rw [z1]); omega) (by (try rw [z1]); omega); rw [z1] at s0; obtain ⟨n_1, hn_1, s1⟩ := nd_add (x := n_0) (y := (a_1)) (by omega) (by omega); rw [hn_0, hn_1, vp_in_iff]; omega)) p_0 v3_8 x_10 as_0 as_1 iv0_8 c_11 b_10.2) d_Md_servedOf_34 (fun x_13 e_13 b_13 => ?_)
        have hQ := hQ x_13 e_13
        refine lv_aload_n hx hb d_Md_servedOf_35 rfl (lv_at hl 0 rfl) ?_
        refine vp_callSi (va_Run.run (va_runV (As := []) (rest := [.int x_13]) ⟨hx, hb, hml, hown, htb⟩ (c_Md_today_w l dC dI ct L f hO_0 q0 m0 _ hQ) (cwV 0 htb (gd_V tw_113 tw_114 tw_115 tw_89 tw_112) rfl rfl rfl (by decide +kernel) ⟨Nat.le_of_ble_eq_true rfl, Nat.le_of_ble_eq_true rfl⟩) ⟨pr_blind, tw_recv hK hP m0 rfl rfl, pr_pre hP hK hN⟩ rfl rfl hl.1 rfl (lv_room (Nat.le_of_ble_eq_true rfl)) d_Md_servedOf_36 ⟨Nat.le_of_ble_eq_true rfl, Nat.le_of_ble_eq_true rfl⟩)) (fun r_14 er_14 => ?_)
        obtain ⟨er_14, hQ⟩ := er_14
        obtain ⟨po_15, po_16, po_17, po_18, -⟩ := er_14
        refine lv_icmp_ge (tgt := 56) hx hb d_Md_servedOf_39 (by decide) (fun c_19 => ?_) (fun c_19 => ?_)
        · have hQ := hQ.1 c_19
          refine lv_aload_n hx hb d_Md_servedOf_56 rfl (lv_at hl 0 rfl) ?_
          refine vp_callSi (va_Run.run (va_runV (As := []) (rest := []) ⟨hx, hb, hml, hown, htb⟩ (c_Md_today_w l dC dI ct L f hO_0 q0 m0 _ hQ) (cwV 0 htb (gd_V tw_113 tw_114 tw_115 tw_89 tw_112) rfl rfl rfl (by decide +kernel) ⟨Nat.le_of_ble_eq_true rfl, Nat.le_of_ble_eq_true rfl⟩) ⟨pr_blind, tw_recv hK hP m0 rfl rfl, pr_pre hP hK hN⟩ rfl rfl hl.1 rfl (lv_room (Nat.le_of_ble_eq_true rfl)) d_Md_servedOf_57 ⟨Nat.le_of_ble_eq_true rfl, Nat.le_of_ble_eq_true rfl⟩)) (fun r_20 er_20 => ?_)
          obtain ⟨er_20, hQ⟩ := er_20
          obtain ⟨po_21, po_22, po_23, po_24, -⟩ := er_20
          refine lv_iconst (v := 1) hx hb d_Md_servedOf_60 (by decide +kernel) ?_
          refine lv_isub hx hb d_Md_servedOf_61 ?_
          refine lv_istore (lv' := [(4, .int (r_20 - 1)), (0, .ref q0), (1, .int p_0), (2, .int v2_8), (3, .int v3_8)]) hx hb d_Md_servedOf_62 hl (by decide) rfl (fun ls hl => ?_)
          refine lv_iload_n hx hb d_Md_servedOf_64 rfl (lv_at hl 3 rfl) ?_
          refine lv_iload hx hb d_Md_servedOf_65 (lv_at hl 0 rfl) ?_
          refine lv_aload_n hx hb d_Md_servedOf_67 rfl (lv_at hl 1 rfl) ?_
          refine tw_getr (D := (dC, dI)) (C := R_Md) (T := F_Md) (N := 64) (ci := 7) (kd := 27) (ct := ct) hx hb htb i_Md hown hK hP hO_0 m0 rfl rfl 13 (by decide) (htb (.fieldLink R_Md 70 "WaterMenModel" "gapFrom" "[I") tw_480) (fun _ h9 => h9) rfl d_Md_servedOf_68 (fun q_25 e_25 m_25 => ?_)
          have hQ := hQ q_25 e_25
          refine lv_bipush (v := 6) hx hb d_Md_servedOf_71 (by decide +kernel) ?_
          refine lv_iload_n hx hb d_Md_servedOf_73 rfl (lv_at hl 2 rfl) ?_
          refine lv_imul hx hb d_Md_servedOf_74 ?_
          refine lv_iload_n hx hb d_Md_servedOf_75 rfl (lv_at hl 4 rfl) ?_
          refine lv_iadd hx hb d_Md_servedOf_76 ?_
          refine tw_aldI (ct := ct) hx hb hK hP hO_0 m_25 rfl ((fun (a_0 : Int32) (a_1 : Int32) (a_2 : Int32) (k_0 : ¬ (a_0 < 0)) (k_1 : ¬ (39 < a_0)) (k_2 : ¬ (a_1 < 0)) (k_3 : ¬ (a_2 ≤ a_1)) (k_4 : ¬ (6 < a_2)) => (show vp_in (((6 * a_0) + a_1)) 240 from by have z0 : (0 : Int32).toInt = 0 := (by decide +kernel); have z1 : (6 : Int32).toInt = 6 := (by decide +kernel); have z2 : (39 : Int32).toInt = 39 := (by decide +kernel); have r0 := fb_rng (a_0); have r1 := fb_rng (a_1); have r2 := fb_rng (a_2); have e0 := k_0; rw [Int32.lt_iff_toInt_lt, z0] at e0; have e1 := k_1; rw [Int32.lt_iff_toInt_lt, z2] at e1; have e2 := k_2; rw [Int32.lt_iff_toInt_lt, z0] at e2; have e3 := k_3; rw [Int32.le_iff_toInt_le] at e3; have e4 := k_4; rw [Int32.lt_iff_toInt_lt, z1] at e4; obtain ⟨n_0, hn_0, s0⟩ := nd_mul (x := (6 : Int32)) (y := (a_0)) (by (try rw [z1]); omega) (by (try rw [z1]); omega); rw [z1] at s0; obtain ⟨n_1, hn_1, s1⟩ := nd_add (x := n_0) (y := (a_1)) (by omega) (by omega); rw [hn_0, hn_1, vp_in_iff]; omega)) p_0 v3_8 x_10 as_0 as_1 iv0_8 c_11 b_10.2) d_Md_servedOf_77 (fun x_26 e_26 b_26 => ?_)
          have hQ := hQ x_26 e_26
          refine lv_isub hx hb d_Md_servedOf_78 ?_
          refine lv_iconst (v := 1) hx hb d_Md_servedOf_79 (by decide +kernel) ?_
          refine lv_iadd hx hb d_Md_servedOf_80 ?_
          refine lv_isub hx hb d_Md_servedOf_81 ?_
          refine lv_istore_n (lv' := [(2, .int (v2_8 - (((r_20 - 1) - x_26) + 1))), (4, .int (r_20 - 1)), (0, .ref q0), (1, .int p_0), (3, .int v3_8)]) hx hb d_Md_servedOf_82 rfl hl (by decide) rfl (fun ls hl => ?_)
          refine lv_iinc (v := (v3_8 + 1)) (lv' := [(3, .int (v3_8 + 1)), (2, .int (v2_8 - (((r_20 - 1) - x_26) + 1))), (4, .int (r_20 - 1)), (0, .ref q0), (1, .int p_0)]) hx hb d_Md_servedOf_83 hl (k := 4) rfl rfl (by decide) rfl (fun ls hl => ?_)
          refine lv_goto (tgt := 14) hx hb d_Md_servedOf_86 (by decide) ?_
          exact ih_8 (n_8 - 1) (ms_1 ((fun (a_0 : Int32) (a_1 : Int32) (k_0 : ¬ (a_1 ≤ a_0)) (k_1 : ¬ (6 < a_1)) => (show 1 ≤ (6 : Int32).toInt - (a_0).toInt ∧ (6 : Int32).toInt - ((a_0) + (1 : Int32)).toInt + 1 ≤ (6 : Int32).toInt - (a_0).toInt from by have z0 : (1 : Int32).toInt = 1 := (by decide +kernel); have z1 : (6 : Int32).toInt = 6 := (by decide +kernel); have r0 := fb_rng (a_0); have r1 := fb_rng (a_1); have e0 := k_0; rw [Int32.le_iff_toInt_le] at e0; have e1 := k_1; rw [Int32.lt_iff_toInt_lt, z1] at e1; obtain ⟨n_0, hn_0, s0⟩ := nd_add (x := (a_0)) (y := (1 : Int32)) (by (try rw [z0]); omega) (by (try rw [z0]); omega); rw [z0] at s0; rw [hn_0]; (try rw [z1]); omega)) v3_8 x_10 c_11 b_10.2) hm_8) (v2_8 - (((r_20 - 1) - x_26) + 1)) (v3_8 + 1) _ (show ¬ ((v3_8 + 1) < 0) from by have e0 := iv0_8; rw [Int32.lt_iff_toInt_lt] at e0; have e1 := iv1_8; rw [Int32.lt_iff_toInt_lt] at e1; have z0 : (0 : Int32).toInt = 0 := (by decide +kernel); have z1 : (1 : Int32).toInt = 1 := (by decide +kernel); have z2 : (6 : Int32).toInt = 6 := (by decide +kernel); have ss := fb_addI (x := v3_8) (y := 1) (by omega) (by omega); rw [Int32.lt_iff_toInt_lt]; omega) (show ¬ (6 < (v3_8 + 1)) from ((fun (a_0 : Int32) (a_1 : Int32) (k_0 : ¬ (a_1 ≤ a_0)) (k_1 : ¬ (6 < a_1)) => (show ¬ (6 < (a_0 + 1)) from by have z0 : (1 : Int32).toInt = 1 := (by decide +kernel); have z1 : (6 : Int32).toInt = 6 := (by decide +kernel); have r0 := fb_rng (a_0); have r1 := fb_rng (a_1); have e0 := k_0; rw [Int32.le_iff_toInt_le] at e0; have e1 := k_1; rw [Int32.lt_iff_toInt_lt, z1] at e1; obtain ⟨n_0, hn_0, s0⟩ := nd_add (x := (a_0)) (y := (1 : Int32)) (by (try rw [z0]); omega) (by (try rw [z0]); omega); rw [z0] at s0; rw [hn_0, Int32.lt_iff_toInt_lt, z1]; omega)) v3_8 x_10 c_11 b_10.2)) (by exact ms_2 ((fun (a_0 : Int32) (a_1 : Int32) (k_0 : ¬ (a_1 ≤ a_0)) (k_1 : ¬ (6 < a_1)) => (show 1 ≤ (6 : Int32).toInt - (a_0).toInt ∧ (6 : Int32).toInt - ((a_0) + (1 : Int32)).toInt + 1 ≤ (6 : Int32).toInt - (a_0).toInt from by have z0 : (1 : Int32).toInt = 1 := (by decide +kernel); have z1 : (6 : Int32).toInt = 6 := (by decide +kernel); have r0 := fb_rng (a_0); have r1 := fb_rng (a_1); have e0 := k_0; rw [Int32.le_iff_toInt_le] at e0; have e1 := k_1; rw [Int32.lt_iff_toInt_lt, z1] at e1; obtain ⟨n_0, hn_0, s0⟩ := nd_add (x := (a_0)) (y := (1 : Int32)) (by (try rw [z0]); omega) (by (try rw [z0]); omega); rw [z0] at s0; rw [hn_0]; (try rw [z1]); omega)) v3_8 x_10 c_11 b_10.2) hm_8) (by rw [← hrec_8, wpR_Md_servedOf_w_14_8_pos (ms_3 ((fun (a_0 : Int32) (a_1 : Int32) (k_0 : ¬ (a_1 ≤ a_0)) (k_1 : ¬ (6 < a_1)) => (show 1 ≤ (6 : Int32).toInt - (a_0).toInt ∧ (6 : Int32).toInt - ((a_0) + (1 : Int32)).toInt + 1 ≤ (6 : Int32).toInt - (a_0).toInt from by have z0 : (1 : Int32).toInt = 1 := (by decide +kernel); have z1 : (6 : Int32).toInt = 6 := (by decide +kernel); have r0 := fb_rng (a_0); have r1 := fb_rng (a_1); have e0 := k_0; rw [Int32.le_iff_toInt_le] at e0; have e1 := k_1; rw [Int32.lt_iff_toInt_lt, z1] at e1; obtain ⟨n_0, hn_0, s0⟩ := nd_add (x := (a_0)) (y := (1 : Int32)) (by (try rw [z0]); omega) (by (try rw [z0]); omega); rw [z0] at s0; rw [hn_0]; (try rw [z1]); omega)) v3_8 x_10 c_11 b_10.2) hm_8)] at hQ; exact hQ) (lv_sub hl [3, 4, 1, 0] rfl)
        · have hQ := hQ.2 c_19
          refine lv_aload_n hx hb d_Md_servedOf_42 rfl (lv_at hl 0 rfl) ?_
          refine tw_getR (D := (dC, dI)) (C := R_Md) (T := F_Md) (N := 64) (ci := 7) (kd := 27) (ct := ct) hx hb htb i_Md hown hK hP m0 rfl rfl 14 e_12 (by decide) (htb (.fieldLink R_Md 73 "WaterMenModel" "gapTo" "[I") tw_481) (fun _ h9 => h9) rfl d_Md_servedOf_43 ?_
          refine hb_tv (.ref q_12) rfl ?_
          refine lv_bipush (v := 6) hx hb d_Md_servedOf_46 (by decide +kernel) ?_
          refine lv_iload_n hx hb d_Md_servedOf_48 rfl (lv_at hl 1 rfl) ?_
          refine lv_imul hx hb d_Md_servedOf_49 ?_
          refine lv_iload_n hx hb d_Md_servedOf_50 rfl (lv_at hl 3 rfl) ?_
          refine lv_iadd hx hb d_Md_servedOf_51 ?_
          refine tw_aldxI (ct := ct) (x := x_13) hx hb hK hP m_12 rfl ((fun (a_0 : Int32) (a_1 : Int32) (a_2 : Int32) (k_0 : ¬ (a_0 < 0)) (k_1 : ¬ (39 < a_0)) (k_2 : ¬ (a_1 < 0)) (k_3 : ¬ (a_2 ≤ a_1)) (k_4 : ¬ (6 < a_2)) => (show vp_in (((6 * a_0) + a_1)) 240 from by have z0 : (0 : Int32).toInt = 0 := (by decide +kernel); have z1 : (6 : Int32).toInt = 6 := (by decide +kernel); have z2 : (39 : Int32).toInt = 39 := (by decide +kernel); have r0 := fb_rng (a_0); have r1 := fb_rng (a_1); have r2 := fb_rng (a_2); have e0 := k_0; rw [Int32.lt_iff_toInt_lt, z0] at e0; have e1 := k_1; rw [Int32.lt_iff_toInt_lt, z2] at e1; have e2 := k_2; rw [Int32.lt_iff_toInt_lt, z0] at e2; have e3 := k_3; rw [Int32.le_iff_toInt_le] at e3; have e4 := k_4; rw [Int32.lt_iff_toInt_lt, z1] at e4; obtain ⟨n_0, hn_0, s0⟩ := nd_mul (x := (6 : Int32)) (y := (a_0)) (by (try rw [z1]); omega) (by (try rw [z1]); omega); rw [z1] at s0; obtain ⟨n_1, hn_1, s1⟩ := nd_add (x := n_0) (y := (a_1)) (by omega) (by omega); rw [hn_0, hn_1, vp_in_iff]; omega)) p_0 v3_8 x_10 as_0 as_1 iv0_8 c_11 b_10.2) e_13 d_Md_servedOf_52 ?_
          refine lv_goto (tgt := 62) hx hb d_Md_servedOf_53 (by decide) ?_
          refine lv_istore (lv' := [(4, .int x_13), (0, .ref q0), (1, .int p_0), (2, .int v2_8), (3, .int v3_8)]) hx hb d_Md_servedOf_62 hl (by decide) rfl (fun ls hl => ?_)
          refine lv_iload_n hx hb d_Md_servedOf_64 rfl (lv_at hl 3 rfl) ?_
          refine lv_iload hx hb d_Md_servedOf_65 (lv_at hl 0 rfl) ?_
          refine lv_aload_n hx hb d_Md_servedOf_67 rfl (lv_at hl 1 rfl) ?_
          refine tw_getr (D := (dC, dI)) (C := R_Md) (T := F_Md) (N := 64) (ci := 7) (kd := 27) (ct := ct) hx hb htb i_Md hown hK hP hO_0 m0 rfl rfl 13 (by decide) (htb (.fieldLink R_Md 70 "WaterMenModel" "gapFrom" "[I") tw_480) (fun _ h9 => h9) rfl d_Md_servedOf_68 (fun q_28 e_28 m_28 => ?_)
          have hQ := hQ q_28 e_28
          refine lv_bipush (v := 6) hx hb d_Md_servedOf_71 (by decide +kernel) ?_
          refine lv_iload_n hx hb d_Md_servedOf_73 rfl (lv_at hl 2 rfl) ?_
          refine lv_imul hx hb d_Md_servedOf_74 ?_
          refine lv_iload_n hx hb d_Md_servedOf_75 rfl (lv_at hl 4 rfl) ?_
          refine lv_iadd hx hb d_Md_servedOf_76 ?_
          refine tw_aldI (ct := ct) hx hb hK hP hO_0 m_28 rfl ((fun (a_0 : Int32) (a_1 : Int32) (a_2 : Int32) (k_0 : ¬ (a_0 < 0)) (k_1 : ¬ (39 < a_0)) (k_2 : ¬ (a_1 < 0)) (k_3 : ¬ (a_2 ≤ a_1)) (k_4 : ¬ (6 < a_2)) => (show vp_in (((6 * a_0) + a_1)) 240 from by have z0 : (0 : Int32).toInt = 0 := (by decide +kernel); have z1 : (6 : Int32).toInt = 6 := (by decide +kernel); have z2 : (39 : Int32).toInt = 39 := (by decide +kernel); have r0 := fb_rng (a_0); have r1 := fb_rng (a_1); have r2 := fb_rng (a_2); have e0 := k_0; rw [Int32.lt_iff_toInt_lt, z0] at e0; have e1 := k_1; rw [Int32.lt_iff_toInt_lt, z2] at e1; have e2 := k_2; rw [Int32.lt_iff_toInt_lt, z0] at e2; have e3 := k_3; rw [Int32.le_iff_toInt_le] at e3; have e4 := k_4; rw [Int32.lt_iff_toInt_lt, z1] at e4; obtain ⟨n_0, hn_0, s0⟩ := nd_mul (x := (6 : Int32)) (y := (a_0)) (by (try rw [z1]); omega) (by (try rw [z1]); omega); rw [z1] at s0; obtain ⟨n_1, hn_1, s1⟩ := nd_add (x := n_0) (y := (a_1)) (by omega) (by omega); rw [hn_0, hn_1, vp_in_iff]; omega)) p_0 v3_8 x_10 as_0 as_1 iv0_8 c_11 b_10.2) d_Md_servedOf_77 (fun x_29 e_29 b_29 => ?_)
          have hQ := hQ x_29 e_29
          refine lv_isub hx hb d_Md_servedOf_78 ?_
          refine lv_iconst (v := 1) hx hb d_Md_servedOf_79 (by decide +kernel) ?_
          refine lv_iadd hx hb d_Md_servedOf_80 ?_
          refine lv_isub hx hb d_Md_servedOf_81 ?_
          refine lv_istore_n (lv' := [(2, .int (v2_8 - ((x_13 - x_29) + 1))), (4, .int x_13), (0, .ref q0), (1, .int p_0), (3, .int v3_8)]) hx hb d_Md_servedOf_82 rfl hl (by decide) rfl (fun ls hl => ?_)
          refine lv_iinc (v := (v3_8 + 1)) (lv' := [(3, .int (v3_8 + 1)), (2, .int (v2_8 - ((x_13 - x_29) + 1))), (4, .int x_13), (0, .ref q0), (1, .int p_0)]) hx hb d_Md_servedOf_83 hl (k := 4) rfl rfl (by decide) rfl (fun ls hl => ?_)
          refine lv_goto (tgt := 14) hx hb d_Md_servedOf_86 (by decide) ?_
          exact ih_8 (n_8 - 1) (ms_1 ((fun (a_0 : Int32) (a_1 : Int32) (k_0 : ¬ (a_1 ≤ a_0)) (k_1 : ¬ (6 < a_1)) => (show 1 ≤ (6 : Int32).toInt - (a_0).toInt ∧ (6 : Int32).toInt - ((a_0) + (1 : Int32)).toInt + 1 ≤ (6 : Int32).toInt - (a_0).toInt from by have z0 : (1 : Int32).toInt = 1 := (by decide +kernel); have z1 : (6 : Int32).toInt = 6 := (by decide +kernel); have r0 := fb_rng (a_0); have r1 := fb_rng (a_1); have e0 := k_0; rw [Int32.le_iff_toInt_le] at e0; have e1 := k_1; rw [Int32.lt_iff_toInt_lt, z1] at e1; obtain ⟨n_0, hn_0, s0⟩ := nd_add (x := (a_0)) (y := (1 : Int32)) (by (try rw [z0]); omega) (by (try rw [z0]); omega); rw [z0] at s0; rw [hn_0]; (try rw [z1]); omega)) v3_8 x_10 c_11 b_10.2) hm_8) (v2_8 - ((x_13 - x_29) + 1)) (v3_8 + 1) _ (show ¬ ((v3_8 + 1) < 0) from by have e0 := iv0_8; rw [Int32.lt_iff_toInt_lt] at e0; have e1 := iv1_8; rw [Int32.lt_iff_toInt_lt] at e1; have z0 : (0 : Int32).toInt = 0 := (by decide +kernel); have z1 : (1 : Int32).toInt = 1 := (by decide +kernel); have z2 : (6 : Int32).toInt = 6 := (by decide +kernel); have ss := fb_addI (x := v3_8) (y := 1) (by omega) (by omega); rw [Int32.lt_iff_toInt_lt]; omega) (show ¬ (6 < (v3_8 + 1)) from ((fun (a_0 : Int32) (a_1 : Int32) (k_0 : ¬ (a_1 ≤ a_0)) (k_1 : ¬ (6 < a_1)) => (show ¬ (6 < (a_0 + 1)) from by have z0 : (1 : Int32).toInt = 1 := (by decide +kernel); have z1 : (6 : Int32).toInt = 6 := (by decide +kernel); have r0 := fb_rng (a_0); have r1 := fb_rng (a_1); have e0 := k_0; rw [Int32.le_iff_toInt_le] at e0; have e1 := k_1; rw [Int32.lt_iff_toInt_lt, z1] at e1; obtain ⟨n_0, hn_0, s0⟩ := nd_add (x := (a_0)) (y := (1 : Int32)) (by (try rw [z0]); omega) (by (try rw [z0]); omega); rw [z0] at s0; rw [hn_0, Int32.lt_iff_toInt_lt, z1]; omega)) v3_8 x_10 c_11 b_10.2)) (by exact ms_2 ((fun (a_0 : Int32) (a_1 : Int32) (k_0 : ¬ (a_1 ≤ a_0)) (k_1 : ¬ (6 < a_1)) => (show 1 ≤ (6 : Int32).toInt - (a_0).toInt ∧ (6 : Int32).toInt - ((a_0) + (1 : Int32)).toInt + 1 ≤ (6 : Int32).toInt - (a_0).toInt from by have z0 : (1 : Int32).toInt = 1 := (by decide +kernel); have z1 : (6 : Int32).toInt = 6 := (by decide +kernel); have r0 := fb_rng (a_0); have r1 := fb_rng (a_1); have e0 := k_0; rw [Int32.le_iff_toInt_le] at e0; have e1 := k_1; rw [Int32.lt_iff_toInt_lt, z1] at e1; obtain ⟨n_0, hn_0, s0⟩ := nd_add (x := (a_0)) (y := (1 : Int32)) (by (try rw [z0]); omega) (by (try rw [z0]); omega); rw [z0] at s0; rw [hn_0]; (try rw [z1]); omega)) v3_8 x_10 c_11 b_10.2) hm_8) (by rw [← hrec_8, wpR_Md_servedOf_w_14_8_pos (ms_3 ((fun (a_0 : Int32) (a_1 : Int32) (k_0 : ¬ (a_1 ≤ a_0)) (k_1 : ¬ (6 < a_1)) => (show 1 ≤ (6 : Int32).toInt - (a_0).toInt ∧ (6 : Int32).toInt - ((a_0) + (1 : Int32)).toInt + 1 ≤ (6 : Int32).toInt - (a_0).toInt from by have z0 : (1 : Int32).toInt = 1 := (by decide +kernel); have z1 : (6 : Int32).toInt = 6 := (by decide +kernel); have r0 := fb_rng (a_0); have r1 := fb_rng (a_1); have e0 := k_0; rw [Int32.le_iff_toInt_le] at e0; have e1 := k_1; rw [Int32.lt_iff_toInt_lt, z1] at e1; obtain ⟨n_0, hn_0, s0⟩ := nd_add (x := (a_0)) (y := (1 : Int32)) (by (try rw [z0]); omega) (by (try rw [z0]); omega); rw [z0] at s0; rw [hn_0]; (try rw [z1]); omega)) v3_8 x_10 c_11 b_10.2) hm_8)] at hQ; exact hQ) (lv_sub hl [3, 4, 1, 0] rfl)
  exact cut_8 ((6 : Int32).toInt - (0 : Int32).toInt).toNat (r_1 - x_7) (0 : Int32) _ (by decide +kernel) (by decide +kernel) (by exact ms_e _ _) hQ (lv_sub hl [2, 3, 1, 0] rfl)
def wp_Md_served_w (L : List Nat) (f : TF) (q0 : Nat) (p_0 : Int32) (Q : Int32 → Prop) : Prop := ((p_0 < 0 → Q (-1)) ∧ (¬ (p_0 < 0) → ((39 < p_0 → Q (-1)) ∧ (¬ (39 < p_0) → ∀ q_4 : Nat, tr f q0 9 = some q_4 → ∀ x_5 : Int32, ti f q_4 (p_0 : Int32).toNatClampNeg = x_5 → ((x_5 = 1 → wp_Md_servedOf_w L f q0 p_0 (fun (r_7 : Int32) => Q r_7)) ∧ (¬ (x_5 = 1) → Q (-2)))))))
set_option maxHeartbeats 4000000 in
set_option maxRecDepth 100000 in
theorem c_Md_served_w (l : Launch) (dC : Nat → ClassId) (dI : Nat → Nat → Nat) (ct : Nat → ClassId) (L : List Nat) (f : TF) (hO_0 : Ok L f) (q0 : Nat) (m0 : q0 ∈ L ∧ tk f q0 = 27) (p_0 : Int32)   (Q : Int32 → Prop) (hQ : wp_Md_served_w L f q0 p_0 Q) : Met l y_Md_served (.code y_Md_served b_Md_served 2 (some .int) :: TB) ({ frames := 2, cells := 0, slots := 0, locals := 44 }) (va_Pc [.ref q0, .int p_0] (PR dC dI (TW ct L f) (TT ct))) (vp_Si (fun r => (True) ∧ Q r)) 0 0 (fun _ => False) := by
  refine Met.ofW (cc := b_Md_served) (maxL := 2) (ret := (some .int)) (by decide) rfl ?_
  intro p e s m args below meth c s₁ B hml hv
  obtain ⟨rfl, hP, hK, hN⟩ := hv
  have hx := B.exec
  have hb := B.bytes
  have hr := B.returns
  have hts := atoms_spec (ws := (.code y_Md_served b_Md_served 2 (some .int) :: TB)) B.pre
  have htb := fun w (h : w ∈ TB) => hts w (List.mem_cons_of_mem _ h)
  have hown : s.vm.findClass R_Md = some m.cls := findClass_of_methodNamed B.named
  have hlocks := B.notSynchronized
  have hl := lv_entry ([.ref q0, .int p_0]) (n := 2) (Nat.le_of_ble_eq_true rfl)
  rw [lg_entry_eq]
  generalize (lg_sl ([.ref q0, .int p_0]) ++ List.replicate (2 - (lg_sl ([.ref q0, .int p_0])).length) Slot.unset).toArray = ls at hl ⊢
  have hl : lv_has ls 2 [(0, .ref q0), (1, .int p_0)] := hl
  unfold wp_Md_served_w at hQ
  refine lv_iload_n hx hb d_Md_served_0 rfl (lv_at hl 1 rfl) ?_
  refine vp_callSi (va_Run.run (va_runS (As := [.int p_0]) (rest := []) ⟨hx, hb, hml, hown, htb⟩ (c_Md_isMan l p_0) (cwS 1 htb (gd_S tw_93 tw_94 tw_89 tw_92) rfl rfl rfl (by decide +kernel) ⟨Nat.le_of_ble_eq_true rfl, Nat.le_of_ble_eq_true rfl⟩) ⟨fun _ _ _ _ h => h, fun U _ _ => ⟨rfl, trivial⟩⟩ rfl rfl hl.1 rfl (lv_room (Nat.le_of_ble_eq_true rfl)) d_Md_served_1 ⟨Nat.le_of_ble_eq_true rfl, Nat.le_of_ble_eq_true rfl⟩)) (fun r er => ?_)
  subst er
  by_cases c_2 : p_0 < 0
  · have hQ := hQ.1 c_2
    refine hb_ti 0 (by unfold f_Md_isMan; rw [if_pos c_2]; first | done | rfl) ?_
    refine lv_if_ne (tgt := 11) hx hb d_Md_served_4 (by decide) (fun h => absurd (by decide +kernel) h) (fun _ => ?_)
    refine lv_iconst (v := (-1)) hx hb d_Md_served_7 (by decide +kernel) ?_
    refine lv_goto (tgt := 31) hx hb d_Md_served_8 (by decide) ?_
    exact W.iret (v := (-1)) hx hb hr (fun t ht hW => ⟨(-1), rfl, ⟨trivial, hQ⟩, ht⟩) t_nil d_Md_served_31
  · have hQ := hQ.2 c_2
    by_cases c_3 : 39 < p_0
    · have hQ := hQ.1 c_3
      refine hb_ti 0 (by unfold f_Md_isMan; rw [if_neg c_2, if_pos c_3]; first | done | rfl) ?_
      refine lv_if_ne (tgt := 11) hx hb d_Md_served_4 (by decide) (fun h => absurd (by decide +kernel) h) (fun _ => ?_)
      refine lv_iconst (v := (-1)) hx hb d_Md_served_7 (by decide +kernel) ?_
      refine lv_goto (tgt := 31) hx hb d_Md_served_8 (by decide) ?_
      exact W.iret (v := (-1)) hx hb hr (fun t ht hW => ⟨(-1), rfl, ⟨trivial, hQ⟩, ht⟩) t_nil d_Md_served_31
    · have hQ := hQ.2 c_3
      refine hb_ti 1 (by unfold f_Md_isMan; rw [if_neg c_2, if_neg c_3]; first | done | rfl) ?_
      refine lv_if_ne (tgt := 11) hx hb d_Md_served_4 (by decide) (fun _ => ?_) (fun h => absurd h (by decide +kernel))
      refine lv_aload_n hx hb d_Md_served_11 rfl (lv_at hl 0 rfl) ?_
      refine tw_getr (D := (dC, dI)) (C := R_Md) (T := F_Md) (N := 64) (ci := 7) (kd := 27) (ct := ct) hx hb htb i_Md hown hK hP hO_0 m0 rfl rfl 9 (by decide) (htb (.fieldLink R_Md 58 "WaterMenModel" "state" "[I") tw_95) (fun _ h9 => h9) rfl d_Md_served_12 (fun q_4 e_4 m_4 => ?_)
      have hQ := hQ q_4 e_4
      refine lv_iload_n hx hb d_Md_served_15 rfl (lv_at hl 1 rfl) ?_
      refine tw_aldI (ct := ct) hx hb hK hP hO_0 m_4 rfl (hb_inl c_2 c_3 (by decide +kernel)) d_Md_served_16 (fun x_5 e_5 b_5 => ?_)
      have hQ := hQ x_5 e_5
      refine lv_iconst (v := 1) hx hb d_Md_served_17 (by decide +kernel) ?_
      refine lv_icmp_eq (tgt := 26) hx hb d_Md_served_18 (by decide) (fun c_6 => ?_) (fun c_6 => ?_)
      · have hQ := hQ.1 c_6
        refine lv_aload_n hx hb d_Md_served_26 rfl (lv_at hl 0 rfl) ?_
        refine lv_iload_n hx hb d_Md_served_27 rfl (lv_at hl 1 rfl) ?_
        refine vp_callSi (va_Run.run (va_runV (As := [.int p_0]) (rest := []) ⟨hx, hb, hml, hown, htb⟩ (c_Md_servedOf_w l dC dI ct L f hO_0 q0 m0 p_0 c_2 c_3 _ hQ) (cwV 1 htb (gd_V tw_490 tw_491 tw_492 tw_89 tw_489) rfl rfl rfl (by decide +kernel) ⟨Nat.le_of_ble_eq_true rfl, Nat.le_of_ble_eq_true rfl⟩) ⟨pr_blind, tw_recv hK hP m0 rfl rfl, pr_pre hP hK hN⟩ rfl rfl hl.1 rfl (lv_room (Nat.le_of_ble_eq_true rfl)) d_Md_served_28 ⟨Nat.le_of_ble_eq_true rfl, Nat.le_of_ble_eq_true rfl⟩)) (fun r_7 er_7 => ?_)
        obtain ⟨er_7, hQ⟩ := er_7
        clear er_7
        exact W.iret (v := r_7) hx hb hr (fun t ht hW => ⟨r_7, rfl, ⟨trivial, hQ⟩, ht⟩) t_nil d_Md_served_31
      · have hQ := hQ.2 c_6
        refine lv_bipush (v := (-2)) hx hb d_Md_served_21 (by decide +kernel) ?_
        refine lv_goto (tgt := 31) hx hb d_Md_served_23 (by decide) ?_
        exact W.iret (v := (-2)) hx hb hr (fun t ht hW => ⟨(-2), rfl, ⟨trivial, hQ⟩, ht⟩) t_nil d_Md_served_31
def W_WM_pass_w : List (Nat × Nat) := [(20, 0)]
def wp_WM_pass_w (L : List Nat) (f : TF) (q0 : Nat) (p_0 : Int32) (Q : Int32 → List Nat → TF → Prop) : Prop := wp_WM_served_w L f q0 p_0 (fun (r_1 : Int32) => wp_WM_manAt_w L f q0 p_0 (fun (r_2 : Option Nat) => ((r_2 = none → ((r_1 < 0 → Q r_1 L f) ∧ (¬ (r_1 < 0) → Q r_1 L f))) ∧ (∀ q_2 : Nat, r_2 = some q_2 → ((r_1 < 0 → Q r_1 L f) ∧ (¬ (r_1 < 0) → ((300 ≤ r_1 → ∀ f_1 : TF, f_1 = sI f q_2 0 2 → Ok L f_1 → Q 1 L f_1) ∧ (¬ (300 ≤ r_1) → Q ((-100) - (300 - r_1)) L f))))))))
set_option maxHeartbeats 4000000 in
set_option maxRecDepth 100000 in
theorem c_WM_pass_w (l : Launch) (dC : Nat → ClassId) (dI : Nat → Nat → Nat) (ct : Nat → ClassId) (L : List Nat) (f : TF) (hO_0 : Ok L f) (q0 : Nat) (m0 : q0 ∈ L ∧ tk f q0 = 0) (sz : Nat) (p_0 : Int32)   (Q : Int32 → List Nat → TF → Prop) (hQ : wp_WM_pass_w L f q0 p_0 Q) : Met l y_WM_pass (.code y_WM_pass b_WM_pass 4 (some .int) :: TB) ({ frames := 3, cells := 0, slots := 0, locals := 67 }) (va_Pc [.ref q0, .int p_0] (PC dC dI (TW ct L f) (TT ct) sz)) (va_Qi (fun r (u : TSt) => Ok u.1 u.2 ∧ Ext W_WM_pass_w L f u.1 u.2 ∧ (True) ∧ Q r u.1 u.2) (fun (u : TSt) t => va_P (dC, dI) vwCl (TW ct u.1 u.2) t.heap ∧ va_K (dC, dI) vwCl (TT ct) t ∧ va_D (va_A (TW ct L f) sz) (TW ct u.1 u.2)) (va_A (TW ct L f) sz)) 0 0 (va_A (TW ct L f) sz) := by
  refine Met.ofW (cc := b_WM_pass) (maxL := 4) (ret := (some .int)) (by decide) rfl ?_
  intro p e s m args below meth c s₁ B hml hv
  obtain ⟨rfl, hsz, hP, hK, hD0, hN⟩ := hv
  have hx := B.exec
  have hb := B.bytes
  have hr := B.returns
  have hts := atoms_spec (ws := (.code y_WM_pass b_WM_pass 4 (some .int) :: TB)) B.pre
  have htb := fun w (h : w ∈ TB) => hts w (List.mem_cons_of_mem _ h)
  have hown : s.vm.findClass R_WM = some m.cls := findClass_of_methodNamed B.named
  have hlocks := B.notSynchronized
  have hl := lv_entry ([.ref q0, .int p_0]) (n := 4) (Nat.le_of_ble_eq_true rfl)
  rw [lg_entry_eq]
  generalize (lg_sl ([.ref q0, .int p_0]) ++ List.replicate (4 - (lg_sl ([.ref q0, .int p_0])).length) Slot.unset).toArray = ls at hl ⊢
  have hl : lv_has ls 4 [(0, .ref q0), (1, .int p_0)] := hl
  subst hsz
  have hD := hD0.self (sz := s.heap.size)
  obtain ⟨A, hAe⟩ : ∃ A, va_A (TW ct L f) s.heap.size = A := ⟨_, rfl⟩
  rw [hAe] at hD
  have hA : ∀ q : Nat, s.heap.size ≤ q → A q := fun q h => by rw [← hAe]; exact Or.inr h
  have hS : va_S A s.heap s.heap [] := va_S.rf
  have hA_0 : Ext [] L f L f := Ext.rf
  suffices hGo : ∀ (H : Heap) (locs : List Loc), va_P (dC, dI) vwCl (TW ct L f) H → va_S A s.heap H locs → W p l e (headSpec (.code y_WM_pass b_WM_pass 4 (some .int) :: TB) ({ frames := 3, cells := 0, slots := 0, locals := 67 })).room s m [.ref q0, .int p_0].toArray below meth c H locs 0 0 (MQ below (va_Qi (fun r (u : TSt) => Ok u.1 u.2 ∧ Ext W_WM_pass_w L f u.1 u.2 ∧ (True) ∧ Q r u.1 u.2) (fun (u : TSt) t => va_P (dC, dI) vwCl (TW ct u.1 u.2) t.heap ∧ va_K (dC, dI) vwCl (TT ct) t ∧ va_D (va_A (TW ct L f) s.heap.size) (TW ct u.1 u.2)) (va_A (TW ct L f) s.heap.size)) [.ref q0, .int p_0].toArray s 0 0 (va_A (TW ct L f) s.heap.size)) (F0 m 0 ls []) from hGo _ _ hP hS
  clear hP hS
  intro H locs hP hS
  unfold wp_WM_pass_w at hQ
  refine lv_aload_n hx hb d_WM_pass_0 rfl (lv_at hl 0 rfl) ?_
  refine lv_iload_n hx hb d_WM_pass_1 rfl (lv_at hl 1 rfl) ?_
  refine vp_callSi (va_Run.run (va_runV (As := [.int p_0]) (rest := []) ⟨hx, hb, hml, hown, htb⟩ (c_WM_served_w l dC dI ct L f hO_0 q0 m0 p_0 _ hQ) (cwV 1 htb (gd_V tw_494 tw_495 tw_496 tw_26 tw_493) rfl rfl rfl (by decide +kernel) ⟨Nat.le_of_ble_eq_true rfl, Nat.le_of_ble_eq_true rfl⟩) ⟨pr_blind, tw_recv hK hP m0 rfl rfl, pr_pre hP hK hN⟩ rfl rfl hl.1 rfl (lv_room (Nat.le_of_ble_eq_true rfl)) d_WM_pass_2 ⟨Nat.le_of_ble_eq_true rfl, Nat.le_of_ble_eq_true rfl⟩)) (fun r_1 er_1 => ?_)
  obtain ⟨er_1, hQ⟩ := er_1
  clear er_1
  refine lv_istore_n (lv' := [(2, .int r_1), (0, .ref q0), (1, .int p_0)]) hx hb d_WM_pass_5 rfl hl (by decide) rfl (fun ls hl => ?_)
  refine lv_aload_n hx hb d_WM_pass_6 rfl (lv_at hl 1 rfl) ?_
  refine lv_iload_n hx hb d_WM_pass_7 rfl (lv_at hl 2 rfl) ?_
  refine va_csq (va_Run.run (va_runV (As := [.int p_0]) (rest := []) ⟨hx, hb, hml, hown, htb⟩ (c_WM_manAt_w l dC dI ct L f hO_0 q0 m0 p_0 _ hQ) (cwV 1 htb (gd_V tw_27 tw_28 tw_29 tw_26 tw_25) rfl rfl rfl (by decide +kernel) ⟨Nat.le_of_ble_eq_true rfl, Nat.le_of_ble_eq_true rfl⟩) ⟨pr_blind, tw_recv hK hP m0 rfl rfl, pr_pre hP hK hN⟩ rfl rfl hl.1 rfl (lv_room (Nat.le_of_ble_eq_true rfl)) d_WM_pass_8 ⟨Nat.le_of_ble_eq_true rfl, Nat.le_of_ble_eq_true rfl⟩)) (fun r_2 er_2 => ?_)
  obtain ⟨er_2, hQ⟩ := er_2
  rcases er_2 with rfl | ⟨q_2, rfl, m_2⟩
  · have hQ := hQ.1 rfl
    refine hb_tv .null rfl ?_
    refine lv_astore_nN (lv' := [(3, .null), (2, .int r_1), (0, .ref q0), (1, .int p_0)]) hx hb d_WM_pass_11 rfl hl (by decide) rfl (fun ls hl => ?_)
    refine lv_iload_n hx hb d_WM_pass_12 rfl (lv_at hl 1 rfl) ?_
    refine lv_if_lt (tgt := 20) hx hb d_WM_pass_13 (by decide) (fun c_3 => ?_) (fun c_3 => ?_)
    · have hQ := hQ.1 c_3
      refine lv_iload_n hx hb d_WM_pass_20 rfl (lv_at hl 1 rfl) ?_
      refine W.widen (k := 0) (n := 0) (Nat.le_of_ble_eq_true rfl) (Nat.le_of_ble_eq_true rfl) ?_
      exact W.iret (v := r_1) hx hb hr (fun t ht hW => ⟨⟨r_1, (L, f), rfl, ⟨hO_0, hA_0.mono (by decide +kernel), trivial, hQ⟩, by rw [ht]; exact hP, va_K.moved hW.alike hK, by rw [hAe]; exact hD⟩, by rw [hAe]; exact hS.F ht⟩) (by rw [hAe]; exact hS.2.2) d_WM_pass_21
    · have hQ := hQ.2 c_3
      refine lv_aload_nN hx hb d_WM_pass_16 rfl (lv_at hl 0 rfl) ?_
      refine lv_ifnonnullN hx hb d_WM_pass_17 ?_
      refine lv_iload_n hx hb d_WM_pass_20 rfl (lv_at hl 1 rfl) ?_
      refine W.widen (k := 0) (n := 0) (Nat.le_of_ble_eq_true rfl) (Nat.le_of_ble_eq_true rfl) ?_
      exact W.iret (v := r_1) hx hb hr (fun t ht hW => ⟨⟨r_1, (L, f), rfl, ⟨hO_0, hA_0.mono (by decide +kernel), trivial, hQ⟩, by rw [ht]; exact hP, va_K.moved hW.alike hK, by rw [hAe]; exact hD⟩, by rw [hAe]; exact hS.F ht⟩) (by rw [hAe]; exact hS.2.2) d_WM_pass_21
  · have hQ := hQ.2 q_2 rfl
    refine hb_tv (.ref q_2) rfl ?_
    refine lv_astore_n (lv' := [(3, .ref q_2), (2, .int r_1), (0, .ref q0), (1, .int p_0)]) hx hb d_WM_pass_11 rfl hl (by decide) rfl (fun ls hl => ?_)
    refine lv_iload_n hx hb d_WM_pass_12 rfl (lv_at hl 1 rfl) ?_
    refine lv_if_lt (tgt := 20) hx hb d_WM_pass_13 (by decide) (fun c_4 => ?_) (fun c_4 => ?_)
    · have hQ := hQ.1 c_4
      refine lv_iload_n hx hb d_WM_pass_20 rfl (lv_at hl 1 rfl) ?_
      refine W.widen (k := 0) (n := 0) (Nat.le_of_ble_eq_true rfl) (Nat.le_of_ble_eq_true rfl) ?_
      exact W.iret (v := r_1) hx hb hr (fun t ht hW => ⟨⟨r_1, (L, f), rfl, ⟨hO_0, hA_0.mono (by decide +kernel), trivial, hQ⟩, by rw [ht]; exact hP, va_K.moved hW.alike hK, by rw [hAe]; exact hD⟩, by rw [hAe]; exact hS.F ht⟩) (by rw [hAe]; exact hS.2.2) d_WM_pass_21
    · have hQ := hQ.2 c_4
      refine lv_aload_n hx hb d_WM_pass_16 rfl (lv_at hl 0 rfl) ?_
      refine lv_ifnonnull (tgt := 22) hx hb d_WM_pass_17 (by decide) ?_
      refine lv_iload_n hx hb d_WM_pass_22 rfl (lv_at hl 1 rfl) ?_
      refine lv_sipush (v := 300) hx hb d_WM_pass_23 (by decide +kernel) ?_
      refine lv_icmp_ge (tgt := 38) hx hb d_WM_pass_26 (by decide) (fun c_5 => ?_) (fun c_5 => ?_)
      · have hQ := hQ.1 c_5
        refine lv_aload_n hx hb d_WM_pass_38 rfl (lv_at hl 0 rfl) ?_
        refine lv_iconst (v := 2) hx hb d_WM_pass_39 (by decide +kernel) ?_
        refine tw_puti (v := 2) (D := (dC, dI)) (C := R_Mn) (T := F_Mn) (N := 8) (ci := 2) (kd := 20) (ct := ct) (ty := .int) hx hb htb i_Mn t_Mn t_Mn_ok n_Mn hown hK hP hD hS hO_0 m_2 rfl rfl 0 (by decide) (htb (.fieldLink R_WM 111 "WaterMen$Man" "state" "I") tw_30) (fun _ h9 => h9) rfl (by decide +kernel) rfl rfl rfl (i32_full _) d_WM_pass_40 (fun f_1 H locs hP hD hS hO_1 hE_1 w_6 hF_1 => ?_)
        have hA_1 := hA_0.trans hE_1
        have hQ := hQ f_1 hF_1
        have hQ := hQ hO_1
        refine lv_iconst (v := 1) hx hb d_WM_pass_43 (by decide +kernel) ?_
        refine W.widen (k := 0) (n := 0) (Nat.le_of_ble_eq_true rfl) (Nat.le_of_ble_eq_true rfl) ?_
        exact W.iret (v := 1) hx hb hr (fun t ht hW => ⟨⟨1, (L, f_1), rfl, ⟨hO_1, hA_1.mono (by decide +kernel), trivial, hQ⟩, by rw [ht]; exact hP, va_K.moved hW.alike hK, by rw [hAe]; exact hD⟩, by rw [hAe]; exact hS.F ht⟩) (by rw [hAe]; exact hS.2.2) d_WM_pass_44
      · have hQ := hQ.2 c_5
        refine lv_bipush (v := (-100)) hx hb d_WM_pass_29 (by decide +kernel) ?_
        refine lv_sipush (v := 300) hx hb d_WM_pass_31 (by decide +kernel) ?_
        refine lv_iload_n hx hb d_WM_pass_34 rfl (lv_at hl 1 rfl) ?_
        refine lv_isub hx hb d_WM_pass_35 ?_
        refine lv_isub hx hb d_WM_pass_36 ?_
        refine W.widen (k := 0) (n := 0) (Nat.le_of_ble_eq_true rfl) (Nat.le_of_ble_eq_true rfl) ?_
        exact W.iret (v := ((-100) - (300 - r_1))) hx hb hr (fun t ht hW => ⟨⟨((-100) - (300 - r_1)), (L, f), rfl, ⟨hO_0, hA_0.mono (by decide +kernel), trivial, hQ⟩, by rw [ht]; exact hP, va_K.moved hW.alike hK, by rw [hAe]; exact hD⟩, by rw [hAe]; exact hS.F ht⟩) (by rw [hAe]; exact hS.2.2) d_WM_pass_37
def W_Md_pass_w : List (Nat × Nat) := [(33, 1000), (34, 1000)]
def wp_Md_pass_w (L : List Nat) (f : TF) (q0 : Nat) (p_0 : Int32) (Q : Int32 → List Nat → TF → Prop) : Prop := ((p_0 < 0 → Q (-1) L f) ∧ (¬ (p_0 < 0) → ((39 < p_0 → Q (-1) L f) ∧ (¬ (39 < p_0) → ∀ q_4 : Nat, tr f q0 9 = some q_4 → ∀ x_5 : Int32, ti f q_4 (p_0 : Int32).toNatClampNeg = x_5 → ((x_5 = 1 → wp_Md_servedOf_w L f q0 p_0 (fun (r_7 : Int32) => ((300 ≤ r_7 → ∀ f_1 : TF, f_1 = sI f q_4 (p_0 : Int32).toNatClampNeg 2 → Ok L f_1 → ∀ q_10 : Nat, tr f_1 q0 10 = some q_10 → ∀ f_2 : TF, f_2 = sI f_1 q_10 (p_0 : Int32).toNatClampNeg (-1) → Ok L f_2 → Q 1 L f_2) ∧ (¬ (300 ≤ r_7) → Q ((-100) - (300 - r_7)) L f)))) ∧ (¬ (x_5 = 1) → Q (-2) L f))))))
set_option maxHeartbeats 4000000 in
set_option maxRecDepth 100000 in
theorem c_Md_pass_w (l : Launch) (dC : Nat → ClassId) (dI : Nat → Nat → Nat) (ct : Nat → ClassId) (L : List Nat) (f : TF) (hO_0 : Ok L f) (q0 : Nat) (m0 : q0 ∈ L ∧ tk f q0 = 27) (sz : Nat) (p_0 : Int32)   (Q : Int32 → List Nat → TF → Prop) (hQ : wp_Md_pass_w L f q0 p_0 Q) : Met l y_Md_pass (.code y_Md_pass b_Md_pass 3 (some .int) :: TB) ({ frames := 2, cells := 0, slots := 0, locals := 44 }) (va_Pc [.ref q0, .int p_0] (PC dC dI (TW ct L f) (TT ct) sz)) (va_Qi (fun r (u : TSt) => Ok u.1 u.2 ∧ Ext W_Md_pass_w L f u.1 u.2 ∧ (True) ∧ Q r u.1 u.2) (fun (u : TSt) t => va_P (dC, dI) vwCl (TW ct u.1 u.2) t.heap ∧ va_K (dC, dI) vwCl (TT ct) t ∧ va_D (va_A (TW ct L f) sz) (TW ct u.1 u.2)) (va_A (TW ct L f) sz)) 0 0 (va_A (TW ct L f) sz) := by
  refine Met.ofW (cc := b_Md_pass) (maxL := 3) (ret := (some .int)) (by decide) rfl ?_
  intro p e s m args below meth c s₁ B hml hv
  obtain ⟨rfl, hsz, hP, hK, hD0, hN⟩ := hv
  have hx := B.exec
  have hb := B.bytes
  have hr := B.returns
  have hts := atoms_spec (ws := (.code y_Md_pass b_Md_pass 3 (some .int) :: TB)) B.pre
  have htb := fun w (h : w ∈ TB) => hts w (List.mem_cons_of_mem _ h)
  have hown : s.vm.findClass R_Md = some m.cls := findClass_of_methodNamed B.named
  have hlocks := B.notSynchronized
  have hl := lv_entry ([.ref q0, .int p_0]) (n := 3) (Nat.le_of_ble_eq_true rfl)
  rw [lg_entry_eq]
  generalize (lg_sl ([.ref q0, .int p_0]) ++ List.replicate (3 - (lg_sl ([.ref q0, .int p_0])).length) Slot.unset).toArray = ls at hl ⊢
  have hl : lv_has ls 3 [(0, .ref q0), (1, .int p_0)] := hl
  subst hsz
  have hD := hD0.self (sz := s.heap.size)
  obtain ⟨A, hAe⟩ : ∃ A, va_A (TW ct L f) s.heap.size = A := ⟨_, rfl⟩
  rw [hAe] at hD
  have hA : ∀ q : Nat, s.heap.size ≤ q → A q := fun q h => by rw [← hAe]; exact Or.inr h
  have hS : va_S A s.heap s.heap [] := va_S.rf
  have hA_0 : Ext [] L f L f := Ext.rf
  suffices hGo : ∀ (H : Heap) (locs : List Loc), va_P (dC, dI) vwCl (TW ct L f) H → va_S A s.heap H locs → W p l e (headSpec (.code y_Md_pass b_Md_pass 3 (some .int) :: TB) ({ frames := 2, cells := 0, slots := 0, locals := 44 })).room s m [.ref q0, .int p_0].toArray below meth c H locs 0 0 (MQ below (va_Qi (fun r (u : TSt) => Ok u.1 u.2 ∧ Ext W_Md_pass_w L f u.1 u.2 ∧ (True) ∧ Q r u.1 u.2) (fun (u : TSt) t => va_P (dC, dI) vwCl (TW ct u.1 u.2) t.heap ∧ va_K (dC, dI) vwCl (TT ct) t ∧ va_D (va_A (TW ct L f) s.heap.size) (TW ct u.1 u.2)) (va_A (TW ct L f) s.heap.size)) [.ref q0, .int p_0].toArray s 0 0 (va_A (TW ct L f) s.heap.size)) (F0 m 0 ls []) from hGo _ _ hP hS
  clear hP hS
  intro H locs hP hS
  unfold wp_Md_pass_w at hQ
  refine lv_iload_n hx hb d_Md_pass_0 rfl (lv_at hl 1 rfl) ?_
  refine vp_callSi (va_Run.run (va_runS (As := [.int p_0]) (rest := []) ⟨hx, hb, hml, hown, htb⟩ (c_Md_isMan l p_0) (cwS 1 htb (gd_S tw_93 tw_94 tw_89 tw_92) rfl rfl rfl (by decide +kernel) ⟨Nat.le_of_ble_eq_true rfl, Nat.le_of_ble_eq_true rfl⟩) ⟨fun _ _ _ _ h => h, fun U _ _ => ⟨rfl, trivial⟩⟩ rfl rfl hl.1 rfl (lv_room (Nat.le_of_ble_eq_true rfl)) d_Md_pass_1 ⟨Nat.le_of_ble_eq_true rfl, Nat.le_of_ble_eq_true rfl⟩)) (fun r er => ?_)
  subst er
  by_cases c_2 : p_0 < 0
  · have hQ := hQ.1 c_2
    refine hb_ti 0 (by unfold f_Md_isMan; rw [if_pos c_2]; first | done | rfl) ?_
    refine lv_if_ne (tgt := 9) hx hb d_Md_pass_4 (by decide) (fun h => absurd (by decide +kernel) h) (fun _ => ?_)
    refine lv_iconst (v := (-1)) hx hb d_Md_pass_7 (by decide +kernel) ?_
    refine W.widen (k := 0) (n := 0) (Nat.le_of_ble_eq_true rfl) (Nat.le_of_ble_eq_true rfl) ?_
    exact W.iret (v := (-1)) hx hb hr (fun t ht hW => ⟨⟨(-1), (L, f), rfl, ⟨hO_0, hA_0.mono (by decide +kernel), trivial, hQ⟩, by rw [ht]; exact hP, va_K.moved hW.alike hK, by rw [hAe]; exact hD⟩, by rw [hAe]; exact hS.F ht⟩) (by rw [hAe]; exact hS.2.2) d_Md_pass_8
  · have hQ := hQ.2 c_2
    by_cases c_3 : 39 < p_0
    · have hQ := hQ.1 c_3
      refine hb_ti 0 (by unfold f_Md_isMan; rw [if_neg c_2, if_pos c_3]; first | done | rfl) ?_
      refine lv_if_ne (tgt := 9) hx hb d_Md_pass_4 (by decide) (fun h => absurd (by decide +kernel) h) (fun _ => ?_)
      refine lv_iconst (v := (-1)) hx hb d_Md_pass_7 (by decide +kernel) ?_
      refine W.widen (k := 0) (n := 0) (Nat.le_of_ble_eq_true rfl) (Nat.le_of_ble_eq_true rfl) ?_
      exact W.iret (v := (-1)) hx hb hr (fun t ht hW => ⟨⟨(-1), (L, f), rfl, ⟨hO_0, hA_0.mono (by decide +kernel), trivial, hQ⟩, by rw [ht]; exact hP, va_K.moved hW.alike hK, by rw [hAe]; exact hD⟩, by rw [hAe]; exact hS.F ht⟩) (by rw [hAe]; exact hS.2.2) d_Md_pass_8
    · have hQ := hQ.2 c_3
      refine hb_ti 1 (by unfold f_Md_isMan; rw [if_neg c_2, if_neg c_3]; first | done | rfl) ?_
      refine lv_if_ne (tgt := 9) hx hb d_Md_pass_4 (by decide) (fun _ => ?_) (fun h => absurd h (by decide +kernel))
      refine lv_aload_n hx hb d_Md_pass_9 rfl (lv_at hl 0 rfl) ?_
      refine tw_getr (D := (dC, dI)) (C := R_Md) (T := F_Md) (N := 64) (ci := 7) (kd := 27) (ct := ct) hx hb htb i_Md hown hK hP hO_0 m0 rfl rfl 9 (by decide) (htb (.fieldLink R_Md 58 "WaterMenModel" "state" "[I") tw_95) (fun _ h9 => h9) rfl d_Md_pass_10 (fun q_4 e_4 m_4 => ?_)
      have hQ := hQ q_4 e_4
      refine lv_iload_n hx hb d_Md_pass_13 rfl (lv_at hl 1 rfl) ?_
      refine tw_aldI (ct := ct) hx hb hK hP hO_0 m_4 rfl (hb_inl c_2 c_3 (by decide +kernel)) d_Md_pass_14 (fun x_5 e_5 b_5 => ?_)
      have hQ := hQ x_5 e_5
      refine lv_iconst (v := 1) hx hb d_Md_pass_15 (by decide +kernel) ?_
      refine lv_icmp_eq (tgt := 22) hx hb d_Md_pass_16 (by decide) (fun c_6 => ?_) (fun c_6 => ?_)
      · have hQ := hQ.1 c_6
        refine lv_aload_n hx hb d_Md_pass_22 rfl (lv_at hl 0 rfl) ?_
        refine lv_iload_n hx hb d_Md_pass_23 rfl (lv_at hl 1 rfl) ?_
        refine vp_callSi (va_Run.run (va_runV (As := [.int p_0]) (rest := []) ⟨hx, hb, hml, hown, htb⟩ (c_Md_servedOf_w l dC dI ct L f hO_0 q0 m0 p_0 c_2 c_3 _ hQ) (cwV 1 htb (gd_V tw_490 tw_491 tw_492 tw_89 tw_489) rfl rfl rfl (by decide +kernel) ⟨Nat.le_of_ble_eq_true rfl, Nat.le_of_ble_eq_true rfl⟩) ⟨pr_blind, tw_recv hK hP m0 rfl rfl, pr_pre hP hK hN⟩ rfl rfl hl.1 rfl (lv_room (Nat.le_of_ble_eq_true rfl)) d_Md_pass_24 ⟨Nat.le_of_ble_eq_true rfl, Nat.le_of_ble_eq_true rfl⟩)) (fun r_7 er_7 => ?_)
        obtain ⟨er_7, hQ⟩ := er_7
        clear er_7
        refine lv_istore_n (lv' := [(2, .int r_7), (0, .ref q0), (1, .int p_0)]) hx hb d_Md_pass_27 rfl hl (by decide) rfl (fun ls hl => ?_)
        refine lv_iload_n hx hb d_Md_pass_28 rfl (lv_at hl 0 rfl) ?_
        refine lv_sipush (v := 300) hx hb d_Md_pass_29 (by decide +kernel) ?_
        refine lv_icmp_ge (tgt := 44) hx hb d_Md_pass_32 (by decide) (fun c_8 => ?_) (fun c_8 => ?_)
        · have hQ := hQ.1 c_8
          refine lv_aload_n hx hb d_Md_pass_44 rfl (lv_at hl 1 rfl) ?_
          refine tw_getR (D := (dC, dI)) (C := R_Md) (T := F_Md) (N := 64) (ci := 7) (kd := 27) (ct := ct) hx hb htb i_Md hown hK hP m0 rfl rfl 9 e_4 (by decide) (htb (.fieldLink R_Md 58 "WaterMenModel" "state" "[I") tw_95) (fun _ h9 => h9) rfl d_Md_pass_45 ?_
          refine hb_tv (.ref q_4) rfl ?_
          refine lv_iload_n hx hb d_Md_pass_48 rfl (lv_at hl 2 rfl) ?_
          refine lv_iconst (v := 2) hx hb d_Md_pass_49 (by decide +kernel) ?_
          refine tw_astI (ct := ct) (x := 2) hx hb hK hP hD hS hO_0 m_4 rfl (hb_inl c_2 c_3 (by decide +kernel)) (i32_full _) d_Md_pass_50 (fun f_1 H locs hP hD hS hO_1 hE_1 w_9 ow_9 hF_1 => ?_)
          have hA_1 := hA_0.trans hE_1
          have hQ := hQ f_1 hF_1
          have hQ := hQ hO_1
          refine lv_aload_n hx hb d_Md_pass_51 rfl (lv_at hl 1 rfl) ?_
          refine tw_getr (D := (dC, dI)) (C := R_Md) (T := F_Md) (N := 64) (ci := 7) (kd := 27) (ct := ct) hx hb htb i_Md hown hK hP hO_1 (hA_1.m m0) rfl rfl 10 (by decide) (htb (.fieldLink R_Md 61 "WaterMenModel" "master" "[I") tw_96) (fun _ h9 => h9) rfl d_Md_pass_52 (fun q_10 e_10 m_10 => ?_)
          have hQ := hQ q_10 e_10
          refine lv_iload_n hx hb d_Md_pass_55 rfl (lv_at hl 2 rfl) ?_
          refine lv_iconst (v := (-1)) hx hb d_Md_pass_56 (by decide +kernel) ?_
          refine tw_astI (ct := ct) (x := (-1)) hx hb hK hP hD hS hO_1 m_10 rfl (hb_inl c_2 c_3 (by decide +kernel)) (i32_full _) d_Md_pass_57 (fun f_2 H locs hP hD hS hO_2 hE_2 w_11 ow_11 hF_2 => ?_)
          have hA_2 := hA_1.trans hE_2
          have hQ := hQ f_2 hF_2
          have hQ := hQ hO_2
          refine lv_iconst (v := 1) hx hb d_Md_pass_58 (by decide +kernel) ?_
          refine W.widen (k := 0) (n := 0) (Nat.le_of_ble_eq_true rfl) (Nat.le_of_ble_eq_true rfl) ?_
          exact W.iret (v := 1) hx hb hr (fun t ht hW => ⟨⟨1, (L, f_2), rfl, ⟨hO_2, hA_2.mono (by decide +kernel), trivial, hQ⟩, by rw [ht]; exact hP, va_K.moved hW.alike hK, by rw [hAe]; exact hD⟩, by rw [hAe]; exact hS.F ht⟩) (by rw [hAe]; exact hS.2.2) d_Md_pass_59
        · have hQ := hQ.2 c_8
          refine lv_bipush (v := (-100)) hx hb d_Md_pass_35 (by decide +kernel) ?_
          refine lv_sipush (v := 300) hx hb d_Md_pass_37 (by decide +kernel) ?_
          refine lv_iload_n hx hb d_Md_pass_40 rfl (lv_at hl 0 rfl) ?_
          refine lv_isub hx hb d_Md_pass_41 ?_
          refine lv_isub hx hb d_Md_pass_42 ?_
          refine W.widen (k := 0) (n := 0) (Nat.le_of_ble_eq_true rfl) (Nat.le_of_ble_eq_true rfl) ?_
          exact W.iret (v := ((-100) - (300 - r_7))) hx hb hr (fun t ht hW => ⟨⟨((-100) - (300 - r_7)), (L, f), rfl, ⟨hO_0, hA_0.mono (by decide +kernel), trivial, hQ⟩, by rw [ht]; exact hP, va_K.moved hW.alike hK, by rw [hAe]; exact hD⟩, by rw [hAe]; exact hS.F ht⟩) (by rw [hAe]; exact hS.2.2) d_Md_pass_43
      · have hQ := hQ.2 c_6
        refine lv_bipush (v := (-2)) hx hb d_Md_pass_19 (by decide +kernel) ?_
        refine W.widen (k := 0) (n := 0) (Nat.le_of_ble_eq_true rfl) (Nat.le_of_ble_eq_true rfl) ?_
        exact W.iret (v := (-2)) hx hb hr (fun t ht hW => ⟨⟨(-2), (L, f), rfl, ⟨hO_0, hA_0.mono (by decide +kernel), trivial, hQ⟩, by rw [ht]; exact hP, va_K.moved hW.alike hK, by rw [hAe]; exact hD⟩, by rw [hAe]; exact hS.F ht⟩) (by rw [hAe]; exact hS.2.2) d_Md_pass_21
