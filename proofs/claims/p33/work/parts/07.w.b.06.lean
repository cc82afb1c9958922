def WL_Md_arrive_w_2_1 : List (Nat × Nat) := [(40, 1000), (48, 1000)]
def W_Md_arrive_w : List (Nat × Nat) := [(40, 1000), (48, 1000)]
def wpB_Md_arrive_w_2_1 (L : List Nat) (f : TF) (q0 : Nat) (Q : List Nat → TF → Prop) (rec_1 : Int32 → List Nat → TF → Prop) (v1_1 : Int32) (L_1 : List Nat) (f_1 : TF) : Prop := Ok L_1 f_1 → Ext WL_Md_arrive_w_2_1 L f L_1 f_1 → ∀ x_2 : Int32, ti f_1 q0 21 = x_2 → ((x_2 ≤ v1_1 → Q L_1 f_1) ∧ (¬ (x_2 ≤ v1_1) → ∀ q_4 : Nat, tr f_1 q0 25 = some q_4 → ∀ x_5 : Int32, ti f_1 q_4 (v1_1 : Int32).toNatClampNeg = x_5 → ((x_5 < 0 → rec_1 (v1_1 + 1) L_1 f_1) ∧ (¬ (x_5 < 0) → ∀ q_7 : Nat, tr f_1 q0 53 = some q_7 → ∀ x_8 : Int32, ti f_1 q_7 (x_5 : Int32).toNatClampNeg = x_8 → ∀ x_9 : Int32, ti f_1 q0 1 = x_9 → ((x_8 ≤ x_9 → ∀ f_2 : TF, f_2 = sI f_1 q_4 (v1_1 : Int32).toNatClampNeg (-1) → Ok L_1 f_2 → ∀ q_12 : Nat, tr f_2 q0 16 = some q_12 → ∀ q_13 : Nat, tr f_2 q0 49 = some q_13 → ∀ x_14 : Int32, ti f_2 q_13 (x_5 : Int32).toNatClampNeg = x_14 → ∀ f_3 : TF, f_3 = sI f_2 q_12 (x_14 : Int32).toNatClampNeg (-1) → Ok L_1 f_3 → rec_1 (v1_1 + 1) L_1 f_3) ∧ (¬ (x_8 ≤ x_9) → rec_1 (v1_1 + 1) L_1 f_1))))))
def wpL_Md_arrive_w_2_1 (L : List Nat) (f : TF) (q0 : Nat) (Q : List Nat → TF → Prop) : Nat → Int32 → List Nat → TF → Prop
  | 0 => fun v1_1 L_1 f_1 => wpB_Md_arrive_w_2_1 L f q0 Q (fun _ _ _ => True) v1_1 L_1 f_1
  | n + 1 => fun v1_1 L_1 f_1 => wpB_Md_arrive_w_2_1 L f q0 Q (wpL_Md_arrive_w_2_1 L f q0 Q n) v1_1 L_1 f_1
def wpR_Md_arrive_w_2_1 (L : List Nat) (f : TF) (q0 : Nat) (Q : List Nat → TF → Prop) : Nat → Int32 → List Nat → TF → Prop
  | 0 => fun _ _ _ => True
  | n + 1 => wpL_Md_arrive_w_2_1 L f q0 Q n
theorem wpL_Md_arrive_w_2_1_eq {L : List Nat} {f : TF} {q0 : Nat} {Q : List Nat → TF → Prop} {n : Nat} : wpL_Md_arrive_w_2_1 L f q0 Q n = wpB_Md_arrive_w_2_1 L f q0 Q (wpR_Md_arrive_w_2_1 L f q0 Q n) := by cases n <;> rfl
theorem wpR_Md_arrive_w_2_1_pos {L : List Nat} {f : TF} {q0 : Nat} {Q : List Nat → TF → Prop} {n : Nat} (h : 0 < n) : wpR_Md_arrive_w_2_1 L f q0 Q n = wpL_Md_arrive_w_2_1 L f q0 Q (n - 1) := by
  cases n with
  | zero => omega
  | succ n => rfl
def wp_Md_arrive_w (L : List Nat) (f : TF) (q0 : Nat) (Q : List Nat → TF → Prop) : Prop := wpL_Md_arrive_w_2_1 L f q0 Q (((20 : Int32).toInt - (0 : Int32).toInt).toNat) (0 : Int32) L f
set_option maxHeartbeats 4000000 in
set_option maxRecDepth 100000 in
theorem c_Md_arrive_w (l : Launch) (dC : Nat → ClassId) (dI : Nat → Nat → Nat) (ct : Nat → ClassId) (L : List Nat) (f : TF) (hO_0 : Ok L f) (q0 : Nat) (m0 : q0 ∈ L ∧ tk f q0 = 27) (sz : Nat)    (Q : List Nat → TF → Prop) (hQ : wp_Md_arrive_w L f q0 Q) : Met l y_Md_arrive (.code y_Md_arrive b_Md_arrive 3 none :: TB) ({ frames := 0, cells := 0, slots := 0, locals := 0 }) (va_Pc [.ref q0] (PC dC dI (TW ct L f) (TT ct) sz)) (va_Qv (fun (u : TSt) => Ok u.1 u.2 ∧ Ext W_Md_arrive_w L f u.1 u.2 ∧ (True) ∧ Q u.1 u.2) (fun (u : TSt) t => va_P (dC, dI) vwCl (TW ct u.1 u.2) t.heap ∧ va_K (dC, dI) vwCl (TT ct) t ∧ va_D (va_A (TW ct L f) sz) (TW ct u.1 u.2)) (va_A (TW ct L f) sz)) 0 0 (va_A (TW ct L f) sz) := by
  refine Met.ofW (cc := b_Md_arrive) (maxL := 3) (ret := none) (by decide) rfl ?_
  intro p e s m args below meth c s₁ B hml hv
  obtain ⟨rfl, hsz, hP, hK, hD0, hN⟩ := hv
  have hx := B.exec
  have hb := B.bytes
  have hr := B.returns
  have hts := atoms_spec (ws := (.code y_Md_arrive b_Md_arrive 3 none :: TB)) B.pre
  have htb := fun w (h : w ∈ TB) => hts w (List.mem_cons_of_mem _ h)
  have hown : s.vm.findClass R_Md = some m.cls := findClass_of_methodNamed B.named
  have hlocks := B.notSynchronized
  have hl := lv_entry ([.ref q0]) (n := 3) (Nat.le_of_ble_eq_true rfl)
  rw [lg_entry_eq]
  generalize (lg_sl ([.ref q0]) ++ List.replicate (3 - (lg_sl ([.ref q0])).length) Slot.unset).toArray = ls at hl ⊢
  have hl : lv_has ls 3 [(0, .ref q0)] := hl
  subst hsz
  have hD := hD0.self (sz := s.heap.size)
  obtain ⟨A, hAe⟩ : ∃ A, va_A (TW ct L f) s.heap.size = A := ⟨_, rfl⟩
  rw [hAe] at hD
  have hA : ∀ q : Nat, s.heap.size ≤ q → A q := fun q h => by rw [← hAe]; exact Or.inr h
  have hS : va_S A s.heap s.heap [] := va_S.rf
  have hA_0 : Ext [] L f L f := Ext.rf
  suffices hGo : ∀ (H : Heap) (locs : List Loc), va_P (dC, dI) vwCl (TW ct L f) H → va_S A s.heap H locs → W p l e (headSpec (.code y_Md_arrive b_Md_arrive 3 none :: TB) ({ frames := 0, cells := 0, slots := 0, locals := 0 })).room s m [.ref q0].toArray below meth c H locs 0 0 (MQ below (va_Qv (fun (u : TSt) => Ok u.1 u.2 ∧ Ext W_Md_arrive_w L f u.1 u.2 ∧ (True) ∧ Q u.1 u.2) (fun (u : TSt) t => va_P (dC, dI) vwCl (TW ct u.1 u.2) t.heap ∧ va_K (dC, dI) vwCl (TT ct) t ∧ va_D (va_A (TW ct L f) s.heap.size) (TW ct u.1 u.2)) (va_A (TW ct L f) s.heap.size)) [.ref q0].toArray s 0 0 (va_A (TW ct L f) s.heap.size)) (F0 m 0 ls []) from hGo _ _ hP hS
  clear hP hS
  intro H locs hP hS
  unfold wp_Md_arrive_w at hQ
  refine lv_iconst (v := 0) hx hb d_Md_arrive_0 (by decide +kernel) ?_
  refine lv_istore_n (lv' := [(1, .int 0), (0, .ref q0)]) hx hb d_Md_arrive_1 rfl hl (by decide) rfl (fun ls hl => ?_)
  have cut_1 : ∀ (n_1 : Nat) (v1_1 : Int32) (L_1 : List Nat) (f_1 : TF) (H : Heap) (locs : List Loc) (ls : Array Slot), va_P (dC, dI) vwCl (TW ct L_1 f_1) H → va_D A (TW ct L_1 f_1) → va_S A s.heap H locs → Ok L_1 f_1 → Ext WL_Md_arrive_w_2_1 L f L_1 f_1 → ¬ (v1_1 < 0) → ¬ (20 < v1_1) → (20 : Int32).toInt - (v1_1 : Int32).toInt ≤ (n_1 : Int) → wpL_Md_arrive_w_2_1 L f q0 Q n_1 v1_1 L_1 f_1 → lv_has ls 3 [(0, .ref q0), (1, .int v1_1)] → W p l e (headSpec (.code y_Md_arrive b_Md_arrive 3 none :: TB) ({ frames := 0, cells := 0, slots := 0, locals := 0 })).room s m [.ref q0].toArray below meth c H locs 0 0 (MQ below (va_Qv (fun (u : TSt) => Ok u.1 u.2 ∧ Ext W_Md_arrive_w L f u.1 u.2 ∧ (True) ∧ Q u.1 u.2) (fun (u : TSt) t => va_P (dC, dI) vwCl (TW ct u.1 u.2) t.heap ∧ va_K (dC, dI) vwCl (TT ct) t ∧ va_D (va_A (TW ct L f) s.heap.size) (TW ct u.1 u.2)) (va_A (TW ct L f) s.heap.size)) [.ref q0].toArray s 0 0 (va_A (TW ct L f) s.heap.size)) (F0 m 2 ls []) := by
    intro n_1
    induction n_1 using Nat.strongRecOn with
    | _ n_1 ih_1 =>
      intro v1_1 L_1 f_1 H locs ls hP hD hS hO_1 hE_1 iv0_1 iv1_1 hm_1 hQ hl
      have hA_1 := hA_0.trans hE_1
      rw [wpL_Md_arrive_w_2_1_eq] at hQ
      obtain ⟨rec_1, hrec_1⟩ : ∃ g, wpR_Md_arrive_w_2_1 L f q0 Q n_1 = g := ⟨_, rfl⟩
      rw [hrec_1] at hQ
      unfold wpB_Md_arrive_w_2_1 at hQ
      have hQ := hQ hO_1 hE_1
      refine lv_iload_n hx hb d_Md_arrive_2 rfl (lv_at hl 1 rfl) ?_
      refine lv_aload_n hx hb d_Md_arrive_3 rfl (lv_at hl 0 rfl) ?_
      refine tw_geti (D := (dC, dI)) (C := R_Md) (T := F_Md) (N := 64) (ci := 7) (kd := 27) (ct := ct) hx hb htb i_Md hown hK hP hO_1 (hA_1.m m0) rfl rfl 21 (by decide) (htb (.fieldLink R_Md 206 "WaterMenModel" "boats" "I") tw_227) (fun _ h9 => h9) rfl d_Md_arrive_4 (fun x_2 e_2 b_2 => ?_)
      have hQ := hQ x_2 e_2
      refine lv_icmp_ge (tgt := 62) hx hb d_Md_arrive_7 (by decide) (fun c_3 => ?_) (fun c_3 => ?_)
      · have hQ := hQ.1 c_3
        refine W.widen (k := 0) (n := 0) (Nat.le_of_ble_eq_true rfl) (Nat.le_of_ble_eq_true rfl) ?_
        exact W.vret hx hb hr (fun t ht hW => ⟨⟨(L_1, f_1), rfl, ⟨hO_1, hA_1.mono (by decide +kernel), trivial, hQ⟩, by rw [ht]; exact hP, va_K.moved hW.alike hK, by rw [hAe]; exact hD⟩, by rw [hAe]; exact hS.F ht⟩) (by rw [hAe]; exact hS.2.2) d_Md_arrive_62
      · have hQ := hQ.2 c_3
        refine lv_aload_n hx hb d_Md_arrive_10 rfl (lv_at hl 0 rfl) ?_
        refine tw_getr (D := (dC, dI)) (C := R_Md) (T := F_Md) (N := 64) (ci := 7) (kd := 27) (ct := ct) hx hb htb i_Md hown hK hP hO_1 (hA_1.m m0) rfl rfl 25 (by decide) (htb (.fieldLink R_Md 103 "WaterMenModel" "boatTrip" "[I") tw_228) (fun _ h9 => h9) rfl d_Md_arrive_11 (fun q_4 e_4 m_4 => ?_)
        have hQ := hQ q_4 e_4
        refine lv_iload_n hx hb d_Md_arrive_14 rfl (lv_at hl 1 rfl) ?_
        refine tw_aldI (ct := ct) hx hb hK hP hO_1 m_4 rfl ((fun (a_0 : Int32) (a_1 : Int32) (k_0 : ¬ (a_0 < 0)) (k_1 : ¬ (a_1 ≤ a_0)) (k_2 : ¬ (20 < a_1)) => (show vp_in (a_0) 20 from by have z0 : (0 : Int32).toInt = 0 := (by decide +kernel); have z1 : (20 : Int32).toInt = 20 := (by decide +kernel); have r0 := fb_rng (a_0); have r1 := fb_rng (a_1); have e0 := k_0; rw [Int32.lt_iff_toInt_lt, z0] at e0; have e1 := k_1; rw [Int32.le_iff_toInt_le] at e1; have e2 := k_2; rw [Int32.lt_iff_toInt_lt, z1] at e2; rw [vp_in_iff]; omega)) v1_1 x_2 iv0_1 c_3 b_2.2) d_Md_arrive_15 (fun x_5 e_5 b_5 => ?_)
        have hQ := hQ x_5 e_5
        refine lv_istore_n (lv' := [(2, .int x_5), (0, .ref q0), (1, .int v1_1)]) hx hb d_Md_arrive_16 rfl hl (by decide) rfl (fun ls hl => ?_)
        refine lv_iload_n hx hb d_Md_arrive_17 rfl (lv_at hl 0 rfl) ?_
        refine lv_if_lt (tgt := 56) hx hb d_Md_arrive_18 (by decide) (fun c_6 => ?_) (fun c_6 => ?_)
        · have hQ := hQ.1 c_6
          refine lv_iinc (v := (v1_1 + 1)) (lv' := [(1, .int (v1_1 + 1)), (2, .int x_5), (0, .ref q0)]) hx hb d_Md_arrive_56 hl (k := 2) rfl rfl (by decide) rfl (fun ls hl => ?_)
          refine lv_goto (tgt := 2) hx hb d_Md_arrive_59 (by decide) ?_
          exact ih_1 (n_1 - 1) (ms_1 ((fun (a_0 : Int32) (a_1 : Int32) (k_0 : ¬ (a_1 ≤ a_0)) (k_1 : ¬ (20 < a_1)) => (show 1 ≤ (20 : Int32).toInt - (a_0).toInt ∧ (20 : Int32).toInt - ((a_0) + (1 : Int32)).toInt + 1 ≤ (20 : Int32).toInt - (a_0).toInt from by have z0 : (1 : Int32).toInt = 1 := (by decide +kernel); have z1 : (20 : Int32).toInt = 20 := (by decide +kernel); have r0 := fb_rng (a_0); have r1 := fb_rng (a_1); have e0 := k_0; rw [Int32.le_iff_toInt_le] at e0; have e1 := k_1; rw [Int32.lt_iff_toInt_lt, z1] at e1; obtain ⟨n_0, hn_0, s0⟩ := nd_add (x := (a_0)) (y := (1 : Int32)) (by (try rw [z0]); omega) (by (try rw [z0]); omega); rw [z0] at s0; rw [hn_0]; (try rw [z1]); omega)) v1_1 x_2 c_3 b_2.2) hm_1) (v1_1 + 1) _ _ _ _ _ hP hD hS hO_1 (hE_1.mono (by decide +kernel)) (show ¬ ((v1_1 + 1) < 0) from by have e0 := iv0_1; rw [Int32.lt_iff_toInt_lt] at e0; have e1 := iv1_1; rw [Int32.lt_iff_toInt_lt] at e1; have z0 : (0 : Int32).toInt = 0 := (by decide +kernel); have z1 : (1 : Int32).toInt = 1 := (by decide +kernel); have z2 : (20 : Int32).toInt = 20 := (by decide +kernel); have ss := fb_addI (x := v1_1) (y := 1) (by omega) (by omega); rw [Int32.lt_iff_toInt_lt]; omega) (show ¬ (20 < (v1_1 + 1)) from ((fun (a_0 : Int32) (a_1 : Int32) (k_0 : ¬ (a_1 ≤ a_0)) (k_1 : ¬ (20 < a_1)) => (show ¬ (20 < (a_0 + 1)) from by have z0 : (1 : Int32).toInt = 1 := (by decide +kernel); have z1 : (20 : Int32).toInt = 20 := (by decide +kernel); have r0 := fb_rng (a_0); have r1 := fb_rng (a_1); have e0 := k_0; rw [Int32.le_iff_toInt_le] at e0; have e1 := k_1; rw [Int32.lt_iff_toInt_lt, z1] at e1; obtain ⟨n_0, hn_0, s0⟩ := nd_add (x := (a_0)) (y := (1 : Int32)) (by (try rw [z0]); omega) (by (try rw [z0]); omega); rw [z0] at s0; rw [hn_0, Int32.lt_iff_toInt_lt, z1]; omega)) v1_1 x_2 c_3 b_2.2)) (by exact ms_2 ((fun (a_0 : Int32) (a_1 : Int32) (k_0 : ¬ (a_1 ≤ a_0)) (k_1 : ¬ (20 < a_1)) => (show 1 ≤ (20 : Int32).toInt - (a_0).toInt ∧ (20 : Int32).toInt - ((a_0) + (1 : Int32)).toInt + 1 ≤ (20 : Int32).toInt - (a_0).toInt from by have z0 : (1 : Int32).toInt = 1 := (by decide +kernel); have z1 : (20 : Int32).toInt = 20 := (by decide +kernel); have r0 := fb_rng (a_0); have r1 := fb_rng (a_1); have e0 := k_0; rw [Int32.le_iff_toInt_le] at e0; have e1 := k_1; rw [Int32.lt_iff_toInt_lt, z1] at e1; obtain ⟨n_0, hn_0, s0⟩ := nd_add (x := (a_0)) (y := (1 : Int32)) (by (try rw [z0]); omega) (by (try rw [z0]); omega); rw [z0] at s0; rw [hn_0]; (try rw [z1]); omega)) v1_1 x_2 c_3 b_2.2) hm_1) (by rw [← hrec_1, wpR_Md_arrive_w_2_1_pos (ms_3 ((fun (a_0 : Int32) (a_1 : Int32) (k_0 : ¬ (a_1 ≤ a_0)) (k_1 : ¬ (20 < a_1)) => (show 1 ≤ (20 : Int32).toInt - (a_0).toInt ∧ (20 : Int32).toInt - ((a_0) + (1 : Int32)).toInt + 1 ≤ (20 : Int32).toInt - (a_0).toInt from by have z0 : (1 : Int32).toInt = 1 := (by decide +kernel); have z1 : (20 : Int32).toInt = 20 := (by decide +kernel); have r0 := fb_rng (a_0); have r1 := fb_rng (a_1); have e0 := k_0; rw [Int32.le_iff_toInt_le] at e0; have e1 := k_1; rw [Int32.lt_iff_toInt_lt, z1] at e1; obtain ⟨n_0, hn_0, s0⟩ := nd_add (x := (a_0)) (y := (1 : Int32)) (by (try rw [z0]); omega) (by (try rw [z0]); omega); rw [z0] at s0; rw [hn_0]; (try rw [z1]); omega)) v1_1 x_2 c_3 b_2.2) hm_1)] at hQ; exact hQ) (lv_sub hl [2, 0] rfl)
        · have hQ := hQ.2 c_6
          refine lv_aload_n hx hb d_Md_arrive_21 rfl (lv_at hl 1 rfl) ?_
          refine tw_getr (D := (dC, dI)) (C := R_Md) (T := F_Md) (N := 64) (ci := 7) (kd := 27) (ct := ct) hx hb htb i_Md hown hK hP hO_1 (hA_1.m m0) rfl rfl 53 (by decide) (htb (.fieldLink R_Md 164 "WaterMenModel" "tripThere" "[I") tw_229) (fun _ h9 => h9) rfl d_Md_arrive_22 (fun q_7 e_7 m_7 => ?_)
          have hQ := hQ q_7 e_7
          refine lv_iload_n hx hb d_Md_arrive_25 rfl (lv_at hl 0 rfl) ?_
          refine tw_aldI (ct := ct) hx hb hK hP hO_1 m_7 rfl (hb_inl c_6 b_5.2 (by decide +kernel)) d_Md_arrive_26 (fun x_8 e_8 b_8 => ?_)
          have hQ := hQ x_8 e_8
          refine lv_aload_n hx hb d_Md_arrive_27 rfl (lv_at hl 1 rfl) ?_
          refine tw_geti (D := (dC, dI)) (C := R_Md) (T := F_Md) (N := 64) (ci := 7) (kd := 27) (ct := ct) hx hb htb i_Md hown hK hP hO_1 (hA_1.m m0) rfl rfl 1 (by decide) (htb (.fieldLink R_Md 7 "WaterMenModel" "time" "I") tw_111) (fun _ h9 => h9) rfl d_Md_arrive_28 (fun x_9 e_9 b_9 => ?_)
          have hQ := hQ x_9 e_9
          refine lv_icmp_le (tgt := 37) hx hb d_Md_arrive_31 (by decide) (fun c_10 => ?_) (fun c_10 => ?_)
          · have hQ := hQ.1 c_10
            refine lv_aload_n hx hb d_Md_arrive_37 rfl (lv_at hl 1 rfl) ?_
            refine tw_getR (D := (dC, dI)) (C := R_Md) (T := F_Md) (N := 64) (ci := 7) (kd := 27) (ct := ct) hx hb htb i_Md hown hK hP (hA_1.m m0) rfl rfl 25 e_4 (by decide) (htb (.fieldLink R_Md 103 "WaterMenModel" "boatTrip" "[I") tw_228) (fun _ h9 => h9) rfl d_Md_arrive_38 ?_
            refine hb_tv (.ref q_4) rfl ?_
            refine lv_iload_n hx hb d_Md_arrive_41 rfl (lv_at hl 2 rfl) ?_
            refine lv_iconst (v := (-1)) hx hb d_Md_arrive_42 (by decide +kernel) ?_
            refine tw_astI (ct := ct) (x := (-1)) hx hb hK hP hD hS hO_1 m_4 rfl ((fun (a_0 : Int32) (a_1 : Int32) (k_0 : ¬ (a_0 < 0)) (k_1 : ¬ (a_1 ≤ a_0)) (k_2 : ¬ (20 < a_1)) => (show vp_in (a_0) 20 from by have z0 : (0 : Int32).toInt = 0 := (by decide +kernel); have z1 : (20 : Int32).toInt = 20 := (by decide +kernel); have r0 := fb_rng (a_0); have r1 := fb_rng (a_1); have e0 := k_0; rw [Int32.lt_iff_toInt_lt, z0] at e0; have e1 := k_1; rw [Int32.le_iff_toInt_le] at e1; have e2 := k_2; rw [Int32.lt_iff_toInt_lt, z1] at e2; rw [vp_in_iff]; omega)) v1_1 x_2 iv0_1 c_3 b_2.2) ⟨by decide +kernel, by decide +kernel⟩ d_Md_arrive_43 (fun f_2 H locs hP hD hS hO_2 hE_2 w_11 ow_11 hF_2 => ?_)
            have hA_2 := hA_1.trans hE_2
            have hQ := hQ f_2 hF_2
            have hQ := hQ hO_2
            refine lv_aload_n hx hb d_Md_arrive_44 rfl (lv_at hl 1 rfl) ?_
            refine tw_getr (D := (dC, dI)) (C := R_Md) (T := F_Md) (N := 64) (ci := 7) (kd := 27) (ct := ct) hx hb htb i_Md hown hK hP hO_2 (hA_2.m m0) rfl rfl 16 (by decide) (htb (.fieldLink R_Md 79 "WaterMenModel" "wayOf" "[I") tw_109) (fun _ h9 => h9) rfl d_Md_arrive_45 (fun q_12 e_12 m_12 => ?_)
            have hQ := hQ q_12 e_12
            refine lv_aload_n hx hb d_Md_arrive_48 rfl (lv_at hl 1 rfl) ?_
            refine tw_getr (D := (dC, dI)) (C := R_Md) (T := F_Md) (N := 64) (ci := 7) (kd := 27) (ct := ct) hx hb htb i_Md hown hK hP hO_2 (hA_2.m m0) rfl rfl 49 (by decide) (htb (.fieldLink R_Md 152 "WaterMenModel" "tripMan" "[I") tw_230) (fun _ h9 => h9) rfl d_Md_arrive_49 (fun q_13 e_13 m_13 => ?_)
            have hQ := hQ q_13 e_13
            refine lv_iload_n hx hb d_Md_arrive_52 rfl (lv_at hl 0 rfl) ?_
            refine tw_aldI (ct := ct) hx hb hK hP hO_2 m_13 rfl (hb_inl c_6 b_5.2 (by decide +kernel)) d_Md_arrive_53 (fun x_14 e_14 b_14 => ?_)
            have hQ := hQ x_14 e_14
            refine lv_iconst (v := (-1)) hx hb d_Md_arrive_54 (by decide +kernel) ?_
            refine tw_astI (ct := ct) (x := (-1)) hx hb hK hP hD hS hO_2 m_12 rfl (hb_inl b_14.1 b_14.2 (by decide +kernel)) (i32_full _) d_Md_arrive_55 (fun f_3 H locs hP hD hS hO_3 hE_3 w_15 ow_15 hF_3 => ?_)
            have hA_3 := hA_2.trans hE_3
            have hQ := hQ f_3 hF_3
            have hQ := hQ hO_3
            refine lv_iinc (v := (v1_1 + 1)) (lv' := [(1, .int (v1_1 + 1)), (2, .int x_5), (0, .ref q0)]) hx hb d_Md_arrive_56 hl (k := 2) rfl rfl (by decide) rfl (fun ls hl => ?_)
            refine lv_goto (tgt := 2) hx hb d_Md_arrive_59 (by decide) ?_
            exact ih_1 (n_1 - 1) (ms_1 ((fun (a_0 : Int32) (a_1 : Int32) (k_0 : ¬ (a_1 ≤ a_0)) (k_1 : ¬ (20 < a_1)) => (show 1 ≤ (20 : Int32).toInt - (a_0).toInt ∧ (20 : Int32).toInt - ((a_0) + (1 : Int32)).toInt + 1 ≤ (20 : Int32).toInt - (a_0).toInt from by have z0 : (1 : Int32).toInt = 1 := (by decide +kernel); have z1 : (20 : Int32).toInt = 20 := (by decide +kernel); have r0 := fb_rng (a_0); have r1 := fb_rng (a_1); have e0 := k_0; rw [Int32.le_iff_toInt_le] at e0; have e1 := k_1; rw [Int32.lt_iff_toInt_lt, z1] at e1; obtain ⟨n_0, hn_0, s0⟩ := nd_add (x := (a_0)) (y := (1 : Int32)) (by (try rw [z0]); omega) (by (try rw [z0]); omega); rw [z0] at s0; rw [hn_0]; (try rw [z1]); omega)) v1_1 x_2 c_3 b_2.2) hm_1) (v1_1 + 1) _ _ _ _ _ hP hD hS hO_3 (((hE_1.trans hE_2).trans hE_3).mono (by decide +kernel)) (show ¬ ((v1_1 + 1) < 0) from by have e0 := iv0_1; rw [Int32.lt_iff_toInt_lt] at e0; have e1 := iv1_1; rw [Int32.lt_iff_toInt_lt] at e1; have z0 : (0 : Int32).toInt = 0 := (by decide +kernel); have z1 : (1 : Int32).toInt = 1 := (by decide +kernel); have z2 : (20 : Int32).toInt = 20 := (by decide +kernel); have ss := fb_addI (x := v1_1) (y := 1) (by omega) (by omega); rw [Int32.lt_iff_toInt_lt]; omega) (show ¬ (20 < (v1_1 + 1)) from ((fun (a_0 : Int32) (a_1 : Int32) (k_0 : ¬ (a_1 ≤ a_0)) (k_1 : ¬ (20 < a_1)) => (show ¬ (20 < (a_0 + 1)) from by have z0 : (1 : Int32).toInt = 1 := (by decide +kernel); have z1 : (20 : Int32).toInt = 20 := (by decide +kernel); have r0 := fb_rng (a_0); have r1 := fb_rng (a_1); have e0 := k_0; rw [Int32.le_iff_toInt_le] at e0; have e1 := k_1; rw [Int32.lt_iff_toInt_lt, z1] at e1; obtain ⟨n_0, hn_0, s0⟩ := nd_add (x := (a_0)) (y := (1 : Int32)) (by (try rw [z0]); omega) (by (try rw [z0]); omega); rw [z0] at s0; rw [hn_0, Int32.lt_iff_toInt_lt, z1]; omega)) v1_1 x_2 c_3 b_2.2)) (by exact ms_2 ((fun (a_0 : Int32) (a_1 : Int32) (k_0 : ¬ (a_1 ≤ a_0)) (k_1 : ¬ (20 < a_1)) => (show 1 ≤ (20 : Int32).toInt - (a_0).toInt ∧ (20 : Int32).toInt - ((a_0) + (1 : Int32)).toInt + 1 ≤ (20 : Int32).toInt - (a_0).toInt from by have z0 : (1 : Int32).toInt = 1 := (by decide +kernel); have z1 : (20 : Int32).toInt = 20 := (by decide +kernel); have r0 := fb_rng (a_0); have r1 := fb_rng (a_1); have e0 := k_0; rw [Int32.le_iff_toInt_le] at e0; have e1 := k_1; rw [Int32.lt_iff_toInt_lt, z1] at e1; obtain ⟨n_0, hn_0, s0⟩ := nd_add (x := (a_0)) (y := (1 : Int32)) (by (try rw [z0]); omega) (by (try rw [z0]); omega); rw [z0] at s0; rw [hn_0]; (try rw [z1]); omega)) v1_1 x_2 c_3 b_2.2) hm_1) (by rw [← hrec_1, wpR_Md_arrive_w_2_1_pos (ms_3 ((fun (a_0 : Int32) (a_1 : Int32) (k_0 : ¬ (a_1 ≤ a_0)) (k_1 : ¬ (20 < a_1)) => (show 1 ≤ (20 : Int32).toInt - (a_0).toInt ∧ (20 : Int32).toInt - ((a_0) + (1 : Int32)).toInt + 1 ≤ (20 : Int32).toInt - (a_0).toInt from by have z0 : (1 : Int32).toInt = 1 := (by decide +kernel); have z1 : (20 : Int32).toInt = 20 := (by decide +kernel); have r0 := fb_rng (a_0); have r1 := fb_rng (a_1); have e0 := k_0; rw [Int32.le_iff_toInt_le] at e0; have e1 := k_1; rw [Int32.lt_iff_toInt_lt, z1] at e1; obtain ⟨n_0, hn_0, s0⟩ := nd_add (x := (a_0)) (y := (1 : Int32)) (by (try rw [z0]); omega) (by (try rw [z0]); omega); rw [z0] at s0; rw [hn_0]; (try rw [z1]); omega)) v1_1 x_2 c_3 b_2.2) hm_1)] at hQ; exact hQ) (lv_sub hl [2, 0] rfl)
          · have hQ := hQ.2 c_10
            refine lv_goto (tgt := 56) hx hb d_Md_arrive_34 (by decide) ?_
            refine lv_iinc (v := (v1_1 + 1)) (lv' := [(1, .int (v1_1 + 1)), (2, .int x_5), (0, .ref q0)]) hx hb d_Md_arrive_56 hl (k := 2) rfl rfl (by decide) rfl (fun ls hl => ?_)
            refine lv_goto (tgt := 2) hx hb d_Md_arrive_59 (by decide) ?_
            exact ih_1 (n_1 - 1) (ms_1 ((fun (a_0 : Int32) (a_1 : Int32) (k_0 : ¬ (a_1 ≤ a_0)) (k_1 : ¬ (20 < a_1)) => (show 1 ≤ (20 : Int32).toInt - (a_0).toInt ∧ (20 : Int32).toInt - ((a_0) + (1 : Int32)).toInt + 1 ≤ (20 : Int32).toInt - (a_0).toInt from by have z0 : (1 : Int32).toInt = 1 := (by decide +kernel); have z1 : (20 : Int32).toInt = 20 := (by decide +kernel); have r0 := fb_rng (a_0); have r1 := fb_rng (a_1); have e0 := k_0; rw [Int32.le_iff_toInt_le] at e0; have e1 := k_1; rw [Int32.lt_iff_toInt_lt, z1] at e1; obtain ⟨n_0, hn_0, s0⟩ := nd_add (x := (a_0)) (y := (1 : Int32)) (by (try rw [z0]); omega) (by (try rw [z0]); omega); rw [z0] at s0; rw [hn_0]; (try rw [z1]); omega)) v1_1 x_2 c_3 b_2.2) hm_1) (v1_1 + 1) _ _ _ _ _ hP hD hS hO_1 (hE_1.mono (by decide +kernel)) (show ¬ ((v1_1 + 1) < 0) from by have e0 := iv0_1; rw [Int32.lt_iff_toInt_lt] at e0; have e1 := iv1_1; rw [Int32.lt_iff_toInt_lt] at e1; have z0 : (0 : Int32).toInt = 0 := (by decide +kernel); have z1 : (1 : Int32).toInt = 1 := (by decide +kernel); have z2 : (20 : Int32).toInt = 20 := (by decide +kernel); have ss := fb_addI (x := v1_1) (y := 1) (by omega) (by omega); rw [Int32.lt_iff_toInt_lt]; omega) (show ¬ (20 < (v1_1 + 1)) from ((fun (a_0 : Int32) (a_1 : Int32) (k_0 : ¬ (a_1 ≤ a_0)) (k_1 : ¬ (20 < a_1)) => (show ¬ (20 < (a_0 + 1)) from by have z0 : (1 : Int32).toInt = 1 := (by decide +kernel); have z1 : (20 : Int32).toInt = 20 := (by decide +kernel); have r0 := fb_rng (a_0); have r1 := fb_rng (a_1); have e0 := k_0; rw [Int32.le_iff_toInt_le] at e0; have e1 := k_1; rw [Int32.lt_iff_toInt_lt, z1] at e1; obtain ⟨n_0, hn_0, s0⟩ := nd_add (x := (a_0)) (y := (1 : Int32)) (by (try rw [z0]); omega) (by (try rw [z0]); omega); rw [z0] at s0; rw [hn_0, Int32.lt_iff_toInt_lt, z1]; omega)) v1_1 x_2 c_3 b_2.2)) (by exact ms_2 ((fun (a_0 : Int32) (a_1 : Int32) (k_0 : ¬ (a_1 ≤ a_0)) (k_1 : ¬ (20 < a_1)) => (show 1 ≤ (20 : Int32).toInt - (a_0).toInt ∧ (20 : Int32).toInt - ((a_0) + (1 : Int32)).toInt + 1 ≤ (20 : Int32).toInt - (a_0).toInt from by have z0 : (1 : Int32).toInt = 1 := (by decide +kernel); have z1 : (20 : Int32).toInt = 20 := (by decide +kernel); have r0 := fb_rng (a_0); have r1 := fb_rng (a_1); have e0 := k_0; rw [Int32.le_iff_toInt_le] at e0; have e1 := k_1; rw [Int32.lt_iff_toInt_lt, z1] at e1; obtain ⟨n_0, hn_0, s0⟩ := nd_add (x := (a_0)) (y := (1 : Int32)) (by (try rw [z0]); omega) (by (try rw [z0]); omega); rw [z0] at s0; rw [hn_0]; (try rw [z1]); omega)) v1_1 x_2 c_3 b_2.2) hm_1) (by rw [← hrec_1, wpR_Md_arrive_w_2_1_pos (ms_3 ((fun (a_0 : Int32) (a_1 : Int32) (k_0 : ¬ (a_1 ≤ a_0)) (k_1 : ¬ (20 < a_1)) => (show 1 ≤ (20 : Int32).toInt - (a_0).toInt ∧ (20 : Int32).toInt - ((a_0) + (1 : Int32)).toInt + 1 ≤ (20 : Int32).toInt - (a_0).toInt from by have z0 : (1 : Int32).toInt = 1 := (by decide +kernel); have z1 : (20 : Int32).toInt = 20 := (by decide +kernel); have r0 := fb_rng (a_0); have r1 := fb_rng (a_1); have e0 := k_0; rw [Int32.le_iff_toInt_le] at e0; have e1 := k_1; rw [Int32.lt_iff_toInt_lt, z1] at e1; obtain ⟨n_0, hn_0, s0⟩ := nd_add (x := (a_0)) (y := (1 : Int32)) (by (try rw [z0]); omega) (by (try rw [z0]); omega); rw [z0] at s0; rw [hn_0]; (try rw [z1]); omega)) v1_1 x_2 c_3 b_2.2) hm_1)] at hQ; exact hQ) (lv_sub hl [2, 0] rfl)
  exact cut_1 ((20 : Int32).toInt - (0 : Int32).toInt).toNat (0 : Int32) _ _ _ _ _ hP hD hS hO_0 Ext.rf (by decide +kernel) (by decide +kernel) (by exact ms_e _ _) hQ (lv_sub hl [1, 0] rfl)
def WL_Md_pay_t_2_1 : List (Nat × Nat) := [(27, 56), (27, 58), (74, 1000)]
def W_Md_pay_t : List (Nat × Nat) := [(27, 56), (27, 58), (74, 1000)]
set_option maxHeartbeats 4000000 in
set_option maxRecDepth 100000 in
theorem c_Md_pay_t (l : Launch) (dC : Nat → ClassId) (dI : Nat → Nat → Nat) (ct : Nat → ClassId) (L : List Nat) (f : TF) (hO_0 : Ok L f) (q0 : Nat) (m0 : q0 ∈ L ∧ tk f q0 = 27) (sz : Nat) (p_0 : Int32)   : Met l y_Md_pay (.code y_Md_pay b_Md_pay 3 none :: TB) ({ frames := 0, cells := 0, slots := 0, locals := 0 }) (va_Pc [.ref q0, .int p_0] (PC dC dI (TW ct L f) (TT ct) sz)) (va_Qv (fun (u : TSt) => Ok u.1 u.2 ∧ Ext W_Md_pay_t L f u.1 u.2 ∧ (True)) (fun (u : TSt) t => va_P (dC, dI) vwCl (TW ct u.1 u.2) t.heap ∧ va_K (dC, dI) vwCl (TT ct) t ∧ va_D (va_A (TW ct L f) sz) (TW ct u.1 u.2)) (va_A (TW ct L f) sz)) 0 0 (va_A (TW ct L f) sz) := by
  refine Met.ofW (cc := b_Md_pay) (maxL := 3) (ret := none) (by decide) rfl ?_
  intro p e s m args below meth c s₁ B hml hv
  obtain ⟨rfl, hsz, hP, hK, hD0, hN⟩ := hv
  have hx := B.exec
  have hb := B.bytes
  have hr := B.returns
  have hts := atoms_spec (ws := (.code y_Md_pay b_Md_pay 3 none :: TB)) B.pre
  have htb := fun w (h : w ∈ TB) => hts w (List.mem_cons_of_mem _ h)
  have hown : s.vm.findClass R_Md = some m.cls := findClass_of_methodNamed B.named
  have hlocks := B.notSynchronized
  have hl := lv_entry ([.ref q0, .int p_0]) (n := 3) (Nat.le_of_ble_eq_true rfl)
  rw [lg_entry_eq]
  generalize (lg_sl ([.ref q0, .int p_0]) ++ List.replicate (3 - (lg_sl ([.ref q0, .int p_0])).length) Slot.unset).toArray = ls at hl ⊢
  have hl : lv_has ls 3 [(0, .ref q0), (1, .int p_0)] := hl
  subst hsz
  have hD := hD0.self (sz := s.heap.size)
  obtain ⟨A, hAe⟩ : ∃ A, va_A (TW ct L f) s.heap.size = A := ⟨_, rfl⟩
  rw [hAe] at hD
  have hA : ∀ q : Nat, s.heap.size ≤ q → A q := fun q h => by rw [← hAe]; exact Or.inr h
  have hS : va_S A s.heap s.heap [] := va_S.rf
  have hA_0 : Ext [] L f L f := Ext.rf
  suffices hGo : ∀ (H : Heap) (locs : List Loc), va_P (dC, dI) vwCl (TW ct L f) H → va_S A s.heap H locs → W p l e (headSpec (.code y_Md_pay b_Md_pay 3 none :: TB) ({ frames := 0, cells := 0, slots := 0, locals := 0 })).room s m [.ref q0, .int p_0].toArray below meth c H locs 0 0 (MQ below (va_Qv (fun (u : TSt) => Ok u.1 u.2 ∧ Ext W_Md_pay_t L f u.1 u.2 ∧ (True)) (fun (u : TSt) t => va_P (dC, dI) vwCl (TW ct u.1 u.2) t.heap ∧ va_K (dC, dI) vwCl (TT ct) t ∧ va_D (va_A (TW ct L f) s.heap.size) (TW ct u.1 u.2)) (va_A (TW ct L f) s.heap.size)) [.ref q0, .int p_0].toArray s 0 0 (va_A (TW ct L f) s.heap.size)) (F0 m 0 ls []) from hGo _ _ hP hS
  clear hP hS
  intro H locs hP hS
  refine lv_iconst (v := 0) hx hb d_Md_pay_0 (by decide +kernel) ?_
  refine lv_istore_n (lv' := [(2, .int 0), (0, .ref q0), (1, .int p_0)]) hx hb d_Md_pay_1 rfl hl (by decide) rfl (fun ls hl => ?_)
  have cut_1 : ∀ (n_1 : Nat) (v2_1 : Int32) (L_1 : List Nat) (f_1 : TF) (H : Heap) (locs : List Loc) (ls : Array Slot), va_P (dC, dI) vwCl (TW ct L_1 f_1) H → va_D A (TW ct L_1 f_1) → va_S A s.heap H locs → Ok L_1 f_1 → Ext WL_Md_pay_t_2_1 L f L_1 f_1 → ¬ (v2_1 < 0) → ¬ (30 < v2_1) → (30 : Int32).toInt - (v2_1 : Int32).toInt ≤ (n_1 : Int) → lv_has ls 3 [(0, .ref q0), (1, .int p_0), (2, .int v2_1)] → W p l e (headSpec (.code y_Md_pay b_Md_pay 3 none :: TB) ({ frames := 0, cells := 0, slots := 0, locals := 0 })).room s m [.ref q0, .int p_0].toArray below meth c H locs 0 0 (MQ below (va_Qv (fun (u : TSt) => Ok u.1 u.2 ∧ Ext W_Md_pay_t L f u.1 u.2 ∧ (True)) (fun (u : TSt) t => va_P (dC, dI) vwCl (TW ct u.1 u.2) t.heap ∧ va_K (dC, dI) vwCl (TT ct) t ∧ va_D (va_A (TW ct L f) s.heap.size) (TW ct u.1 u.2)) (va_A (TW ct L f) s.heap.size)) [.ref q0, .int p_0].toArray s 0 0 (va_A (TW ct L f) s.heap.size)) (F0 m 2 ls []) := by
    intro n_1
    induction n_1 using Nat.strongRecOn with
    | _ n_1 ih_1 =>
      intro v2_1 L_1 f_1 H locs ls hP hD hS hO_1 hE_1 iv0_1 iv1_1 hm_1 hl
      have hA_1 := hA_0.trans hE_1
      refine lv_iload_n hx hb d_Md_pay_2 rfl (lv_at hl 2 rfl) ?_
      refine lv_aload_n hx hb d_Md_pay_3 rfl (lv_at hl 0 rfl) ?_
      refine tw_geti (D := (dC, dI)) (C := R_Md) (T := F_Md) (N := 64) (ci := 7) (kd := 27) (ct := ct) hx hb htb i_Md hown hK hP hO_1 (hA_1.m m0) rfl rfl 60 (by decide) (htb (.fieldLink R_Md 323 "WaterMenModel" "pensioners" "I") tw_117) (fun _ h9 => h9) rfl d_Md_pay_4 (fun x_2 e_2 b_2 => ?_)
      refine lv_icmp_ge (tgt := 91) hx hb d_Md_pay_7 (by decide) (fun c_3 => ?_) (fun c_3 => ?_)
      · refine W.widen (k := 0) (n := 0) (Nat.le_of_ble_eq_true rfl) (Nat.le_of_ble_eq_true rfl) ?_
        exact W.vret hx hb hr (fun t ht hW => ⟨⟨(L_1, f_1), rfl, ⟨hO_1, hA_1.mono (by decide +kernel), trivial⟩, by rw [ht]; exact hP, va_K.moved hW.alike hK, by rw [hAe]; exact hD⟩, by rw [hAe]; exact hS.F ht⟩) (by rw [hAe]; exact hS.2.2) d_Md_pay_91
      · refine lv_iload_n hx hb d_Md_pay_10 rfl (lv_at hl 1 rfl) ?_
        refine lv_aload_n hx hb d_Md_pay_11 rfl (lv_at hl 0 rfl) ?_
        refine tw_getr (D := (dC, dI)) (C := R_Md) (T := F_Md) (N := 64) (ci := 7) (kd := 27) (ct := ct) hx hb htb i_Md hown hK hP hO_1 (hA_1.m m0) rfl rfl 62 (by decide) (htb (.fieldLink R_Md 180 "WaterMenModel" "pensionEnd" "[I") tw_118) (fun _ h9 => h9) rfl d_Md_pay_12 (fun q_4 e_4 m_4 => ?_)
        refine lv_iload_n hx hb d_Md_pay_15 rfl (lv_at hl 2 rfl) ?_
        refine tw_aldI (ct := ct) hx hb hK hP hO_1 m_4 rfl ((fun (a_0 : Int32) (a_1 : Int32) (k_0 : ¬ (a_0 < 0)) (k_1 : ¬ (a_1 ≤ a_0)) (k_2 : ¬ (30 < a_1)) => (show vp_in (a_0) 30 from by have z0 : (0 : Int32).toInt = 0 := (by decide +kernel); have z1 : (30 : Int32).toInt = 30 := (by decide +kernel); have r0 := fb_rng (a_0); have r1 := fb_rng (a_1); have e0 := k_0; rw [Int32.lt_iff_toInt_lt, z0] at e0; have e1 := k_1; rw [Int32.le_iff_toInt_le] at e1; have e2 := k_2; rw [Int32.lt_iff_toInt_lt, z1] at e2; rw [vp_in_iff]; omega)) v2_1 x_2 iv0_1 c_3 b_2.2) d_Md_pay_16 (fun x_5 e_5 b_5 => ?_)
        refine lv_icmp_ge (tgt := 85) hx hb d_Md_pay_17 (by decide) (fun c_6 => ?_) (fun c_6 => ?_)
        · refine lv_iinc (v := (v2_1 + 1)) (lv' := [(2, .int (v2_1 + 1)), (0, .ref q0), (1, .int p_0)]) hx hb d_Md_pay_85 hl (k := 2) rfl rfl (by decide) rfl (fun ls hl => ?_)
          refine lv_goto (tgt := 2) hx hb d_Md_pay_88 (by decide) ?_
          exact ih_1 (n_1 - 1) (ms_1 ((fun (a_0 : Int32) (a_1 : Int32) (k_0 : ¬ (a_1 ≤ a_0)) (k_1 : ¬ (30 < a_1)) => (show 1 ≤ (30 : Int32).toInt - (a_0).toInt ∧ (30 : Int32).toInt - ((a_0) + (1 : Int32)).toInt + 1 ≤ (30 : Int32).toInt - (a_0).toInt from by have z0 : (1 : Int32).toInt = 1 := (by decide +kernel); have z1 : (30 : Int32).toInt = 30 := (by decide +kernel); have r0 := fb_rng (a_0); have r1 := fb_rng (a_1); have e0 := k_0; rw [Int32.le_iff_toInt_le] at e0; have e1 := k_1; rw [Int32.lt_iff_toInt_lt, z1] at e1; obtain ⟨n_0, hn_0, s0⟩ := nd_add (x := (a_0)) (y := (1 : Int32)) (by (try rw [z0]); omega) (by (try rw [z0]); omega); rw [z0] at s0; rw [hn_0]; (try rw [z1]); omega)) v2_1 x_2 c_3 b_2.2) hm_1) (v2_1 + 1) _ _ _ _ _ hP hD hS hO_1 (hE_1.mono (by decide +kernel)) (show ¬ ((v2_1 + 1) < 0) from by have e0 := iv0_1; rw [Int32.lt_iff_toInt_lt] at e0; have e1 := iv1_1; rw [Int32.lt_iff_toInt_lt] at e1; have z0 : (0 : Int32).toInt = 0 := (by decide +kernel); have z1 : (1 : Int32).toInt = 1 := (by decide +kernel); have z2 : (30 : Int32).toInt = 30 := (by decide +kernel); have ss := fb_addI (x := v2_1) (y := 1) (by omega) (by omega); rw [Int32.lt_iff_toInt_lt]; omega) (show ¬ (30 < (v2_1 + 1)) from ((fun (a_0 : Int32) (a_1 : Int32) (k_0 : ¬ (a_1 ≤ a_0)) (k_1 : ¬ (30 < a_1)) => (show ¬ (30 < (a_0 + 1)) from by have z0 : (1 : Int32).toInt = 1 := (by decide +kernel); have z1 : (30 : Int32).toInt = 30 := (by decide +kernel); have r0 := fb_rng (a_0); have r1 := fb_rng (a_1); have e0 := k_0; rw [Int32.le_iff_toInt_le] at e0; have e1 := k_1; rw [Int32.lt_iff_toInt_lt, z1] at e1; obtain ⟨n_0, hn_0, s0⟩ := nd_add (x := (a_0)) (y := (1 : Int32)) (by (try rw [z0]); omega) (by (try rw [z0]); omega); rw [z0] at s0; rw [hn_0, Int32.lt_iff_toInt_lt, z1]; omega)) v2_1 x_2 c_3 b_2.2)) (by exact ms_2 ((fun (a_0 : Int32) (a_1 : Int32) (k_0 : ¬ (a_1 ≤ a_0)) (k_1 : ¬ (30 < a_1)) => (show 1 ≤ (30 : Int32).toInt - (a_0).toInt ∧ (30 : Int32).toInt - ((a_0) + (1 : Int32)).toInt + 1 ≤ (30 : Int32).toInt - (a_0).toInt from by have z0 : (1 : Int32).toInt = 1 := (by decide +kernel); have z1 : (30 : Int32).toInt = 30 := (by decide +kernel); have r0 := fb_rng (a_0); have r1 := fb_rng (a_1); have e0 := k_0; rw [Int32.le_iff_toInt_le] at e0; have e1 := k_1; rw [Int32.lt_iff_toInt_lt, z1] at e1; obtain ⟨n_0, hn_0, s0⟩ := nd_add (x := (a_0)) (y := (1 : Int32)) (by (try rw [z0]); omega) (by (try rw [z0]); omega); rw [z0] at s0; rw [hn_0]; (try rw [z1]); omega)) v2_1 x_2 c_3 b_2.2) hm_1) (lv_sub hl [1, 2, 0] rfl)
        · refine lv_aload_n hx hb d_Md_pay_20 rfl (lv_at hl 0 rfl) ?_
          refine tw_getl (D := (dC, dI)) (C := R_Md) (T := F_Md) (N := 64) (ci := 7) (kd := 27) (ct := ct) hx hb htb i_Md hown hK hP (hA_1.m m0) rfl rfl 56 (by decide) (htb (.fieldLink R_Md 316 "WaterMenModel" "box" "J") tw_116) (fun _ h9 => h9) rfl d_Md_pay_21 (fun x_7 e_7 => ?_)
          refine lv_aload_n hx hb d_Md_pay_24 rfl (lv_at hl 0 rfl) ?_
          refine tw_getr (D := (dC, dI)) (C := R_Md) (T := F_Md) (N := 64) (ci := 7) (kd := 27) (ct := ct) hx hb htb i_Md hown hK hP hO_1 (hA_1.m m0) rfl rfl 61 (by decide) (htb (.fieldLink R_Md 177 "WaterMenModel" "pensionOf" "[I") tw_119) (fun _ h9 => h9) rfl d_Md_pay_25 (fun q_8 e_8 m_8 => ?_)
          refine lv_iload_n hx hb d_Md_pay_28 rfl (lv_at hl 2 rfl) ?_
          refine tw_aldI (ct := ct) hx hb hK hP hO_1 m_8 rfl ((fun (a_0 : Int32) (a_1 : Int32) (k_0 : ¬ (a_0 < 0)) (k_1 : ¬ (a_1 ≤ a_0)) (k_2 : ¬ (30 < a_1)) => (show vp_in (a_0) 30 from by have z0 : (0 : Int32).toInt = 0 := (by decide +kernel); have z1 : (30 : Int32).toInt = 30 := (by decide +kernel); have r0 := fb_rng (a_0); have r1 := fb_rng (a_1); have e0 := k_0; rw [Int32.lt_iff_toInt_lt, z0] at e0; have e1 := k_1; rw [Int32.le_iff_toInt_le] at e1; have e2 := k_2; rw [Int32.lt_iff_toInt_lt, z1] at e2; rw [vp_in_iff]; omega)) v2_1 x_2 iv0_1 c_3 b_2.2) d_Md_pay_29 (fun x_9 e_9 b_9 => ?_)
          refine lv_i2l hx hb d_Md_pay_30 rfl ?_
          refine W.lcmp hx hb d_Md_pay_31 ?_
          refine hb_anyi (fun y_10 => ?_)
          refine lv_if_ge (tgt := 38) hx hb d_Md_pay_32 (by decide) (fun c_11 => ?_) (fun c_11 => ?_)
          · refine lv_aload_n hx hb d_Md_pay_38 rfl (lv_at hl 0 rfl) ?_
            refine lv_dup hx hb d_Md_pay_39 rfl ?_
            refine tw_getl (D := (dC, dI)) (C := R_Md) (T := F_Md) (N := 64) (ci := 7) (kd := 27) (ct := ct) hx hb htb i_Md hown hK hP (hA_1.m m0) rfl rfl 56 (by decide) (htb (.fieldLink R_Md 316 "WaterMenModel" "box" "J") tw_116) (fun _ h9 => h9) rfl d_Md_pay_40 (fun x_12 e_12 => ?_)
            refine lv_aload_n hx hb d_Md_pay_43 rfl (lv_at hl 0 rfl) ?_
            refine tw_getR (D := (dC, dI)) (C := R_Md) (T := F_Md) (N := 64) (ci := 7) (kd := 27) (ct := ct) hx hb htb i_Md hown hK hP (hA_1.m m0) rfl rfl 61 e_8 (by decide) (htb (.fieldLink R_Md 177 "WaterMenModel" "pensionOf" "[I") tw_119) (fun _ h9 => h9) rfl d_Md_pay_44 ?_
            refine hb_tv (.ref q_8) rfl ?_
            refine lv_iload_n hx hb d_Md_pay_47 rfl (lv_at hl 2 rfl) ?_
            refine tw_aldxI (ct := ct) (x := x_9) hx hb hK hP m_8 rfl ((fun (a_0 : Int32) (a_1 : Int32) (k_0 : ¬ (a_0 < 0)) (k_1 : ¬ (a_1 ≤ a_0)) (k_2 : ¬ (30 < a_1)) => (show vp_in (a_0) 30 from by have z0 : (0 : Int32).toInt = 0 := (by decide +kernel); have z1 : (30 : Int32).toInt = 30 := (by decide +kernel); have r0 := fb_rng (a_0); have r1 := fb_rng (a_1); have e0 := k_0; rw [Int32.lt_iff_toInt_lt, z0] at e0; have e1 := k_1; rw [Int32.le_iff_toInt_le] at e1; have e2 := k_2; rw [Int32.lt_iff_toInt_lt, z1] at e2; rw [vp_in_iff]; omega)) v2_1 x_2 iv0_1 c_3 b_2.2) e_9 d_Md_pay_48 ?_
            refine lv_i2l hx hb d_Md_pay_49 rfl ?_
            refine lv_lsub hx hb d_Md_pay_50 ?_
            refine hb_anyl (fun y_14 => ?_)
            refine tw_putl (v := y_14) (D := (dC, dI)) (C := R_Md) (T := F_Md) (N := 64) (ci := 7) (kd := 27) (ct := ct) (ty := .long) hx hb htb i_Md t_Md t_Md_ok n_Md hown hK hP hD hS hO_1 (hA_1.m m0) rfl rfl 56 (by decide) (htb (.fieldLink R_Md 316 "WaterMenModel" "box" "J") tw_116) (fun _ h9 => h9) rfl (by decide +kernel) rfl rfl rfl d_Md_pay_51 (fun f_2 H locs hP hD hS hO_2 hE_2 w_15 hF_2 => ?_)
            have hA_2 := hA_1.trans hE_2
            refine lv_aload_n hx hb d_Md_pay_54 rfl (lv_at hl 0 rfl) ?_
            refine tw_getr (D := (dC, dI)) (C := R_Md) (T := F_Md) (N := 64) (ci := 7) (kd := 27) (ct := ct) hx hb htb i_Md hown hK hP hO_2 (hA_2.m m0) rfl rfl 63 (by decide) (htb (.fieldLink R_Md 183 "WaterMenModel" "gotten" "[I") tw_121) (fun _ h9 => h9) rfl d_Md_pay_55 (fun q_16 e_16 m_16 => ?_)
            refine lv_iload_n hx hb d_Md_pay_58 rfl (lv_at hl 2 rfl) ?_
            refine lv_dup2_11 hx hb d_Md_pay_59 rfl rfl ?_
            refine tw_aldI (ct := ct) hx hb hK hP hO_2 m_16 rfl ((fun (a_0 : Int32) (a_1 : Int32) (k_0 : ¬ (a_0 < 0)) (k_1 : ¬ (a_1 ≤ a_0)) (k_2 : ¬ (30 < a_1)) => (show vp_in (a_0) 30 from by have z0 : (0 : Int32).toInt = 0 := (by decide +kernel); have z1 : (30 : Int32).toInt = 30 := (by decide +kernel); have r0 := fb_rng (a_0); have r1 := fb_rng (a_1); have e0 := k_0; rw [Int32.lt_iff_toInt_lt, z0] at e0; have e1 := k_1; rw [Int32.le_iff_toInt_le] at e1; have e2 := k_2; rw [Int32.lt_iff_toInt_lt, z1] at e2; rw [vp_in_iff]; omega)) v2_1 x_2 iv0_1 c_3 b_2.2) d_Md_pay_60 (fun x_17 e_17 b_17 => ?_)
            refine lv_aload_n hx hb d_Md_pay_61 rfl (lv_at hl 0 rfl) ?_
            refine tw_getR (D := (dC, dI)) (C := R_Md) (T := F_Md) (N := 64) (ci := 7) (kd := 27) (ct := ct) hx hb htb i_Md hown hK hP (hA_2.m m0) rfl rfl 61 ((hE_2.er (hA_1.m m0) rfl).trans e_8) (by decide) (htb (.fieldLink R_Md 177 "WaterMenModel" "pensionOf" "[I") tw_119) (fun _ h9 => h9) rfl d_Md_pay_62 ?_
            refine hb_tv (.ref q_8) rfl ?_
            refine lv_iload_n hx hb d_Md_pay_65 rfl (lv_at hl 2 rfl) ?_
            refine tw_aldxI (ct := ct) (x := x_9) hx hb hK hP (hE_2.m m_8) rfl ((fun (a_0 : Int32) (a_1 : Int32) (k_0 : ¬ (a_0 < 0)) (k_1 : ¬ (a_1 ≤ a_0)) (k_2 : ¬ (30 < a_1)) => (show vp_in (a_0) 30 from by have z0 : (0 : Int32).toInt = 0 := (by decide +kernel); have z1 : (30 : Int32).toInt = 30 := (by decide +kernel); have r0 := fb_rng (a_0); have r1 := fb_rng (a_1); have e0 := k_0; rw [Int32.lt_iff_toInt_lt, z0] at e0; have e1 := k_1; rw [Int32.le_iff_toInt_le] at e1; have e2 := k_2; rw [Int32.lt_iff_toInt_lt, z1] at e2; rw [vp_in_iff]; omega)) v2_1 x_2 iv0_1 c_3 b_2.2) ((hE_2.ei m_8 rfl).trans e_9) d_Md_pay_66 ?_
            refine lv_iadd hx hb d_Md_pay_67 ?_
            refine tw_astI (ct := ct) (x := (x_17 + x_9)) hx hb hK hP hD hS hO_2 m_16 rfl ((fun (a_0 : Int32) (a_1 : Int32) (k_0 : ¬ (a_0 < 0)) (k_1 : ¬ (a_1 ≤ a_0)) (k_2 : ¬ (30 < a_1)) => (show vp_in (a_0) 30 from by have z0 : (0 : Int32).toInt = 0 := (by decide +kernel); have z1 : (30 : Int32).toInt = 30 := (by decide +kernel); have r0 := fb_rng (a_0); have r1 := fb_rng (a_1); have e0 := k_0; rw [Int32.lt_iff_toInt_lt, z0] at e0; have e1 := k_1; rw [Int32.le_iff_toInt_le] at e1; have e2 := k_2; rw [Int32.lt_iff_toInt_lt, z1] at e2; rw [vp_in_iff]; omega)) v2_1 x_2 iv0_1 c_3 b_2.2) (i32_full _) d_Md_pay_68 (fun f_3 H locs hP hD hS hO_3 hE_3 w_19 ow_19 hF_3 => ?_)
            have hA_3 := hA_2.trans hE_3
            refine lv_aload_n hx hb d_Md_pay_69 rfl (lv_at hl 0 rfl) ?_
            refine lv_dup hx hb d_Md_pay_70 rfl ?_
            refine tw_getl (D := (dC, dI)) (C := R_Md) (T := F_Md) (N := 64) (ci := 7) (kd := 27) (ct := ct) hx hb htb i_Md hown hK hP (hA_3.m m0) rfl rfl 58 (by decide) (htb (.fieldLink R_Md 326 "WaterMenModel" "paidOut" "J") tw_125) (fun _ h9 => h9) rfl d_Md_pay_71 (fun x_20 e_20 => ?_)
            refine lv_aload_n hx hb d_Md_pay_74 rfl (lv_at hl 0 rfl) ?_
            refine tw_getR (D := (dC, dI)) (C := R_Md) (T := F_Md) (N := 64) (ci := 7) (kd := 27) (ct := ct) hx hb htb i_Md hown hK hP (hA_3.m m0) rfl rfl 61 ((hE_3.er (hA_2.m m0) rfl).trans ((hE_2.er (hA_1.m m0) rfl).trans e_8)) (by decide) (htb (.fieldLink R_Md 177 "WaterMenModel" "pensionOf" "[I") tw_119) (fun _ h9 => h9) rfl d_Md_pay_75 ?_
            refine hb_tv (.ref q_8) rfl ?_
            refine lv_iload_n hx hb d_Md_pay_78 rfl (lv_at hl 2 rfl) ?_
            refine tw_aldxI (ct := ct) (x := x_9) hx hb hK hP (hE_3.m (hE_2.m m_8)) rfl ((fun (a_0 : Int32) (a_1 : Int32) (k_0 : ¬ (a_0 < 0)) (k_1 : ¬ (a_1 ≤ a_0)) (k_2 : ¬ (30 < a_1)) => (show vp_in (a_0) 30 from by have z0 : (0 : Int32).toInt = 0 := (by decide +kernel); have z1 : (30 : Int32).toInt = 30 := (by decide +kernel); have r0 := fb_rng (a_0); have r1 := fb_rng (a_1); have e0 := k_0; rw [Int32.lt_iff_toInt_lt, z0] at e0; have e1 := k_1; rw [Int32.le_iff_toInt_le] at e1; have e2 := k_2; rw [Int32.lt_iff_toInt_lt, z1] at e2; rw [vp_in_iff]; omega)) v2_1 x_2 iv0_1 c_3 b_2.2) ((hE_3.ei (hE_2.m m_8) rfl).trans ((hE_2.ei m_8 rfl).trans e_9)) d_Md_pay_79 ?_
            refine lv_i2l hx hb d_Md_pay_80 rfl ?_
            refine lv_ladd hx hb d_Md_pay_81 ?_
            refine hb_anyl (fun y_22 => ?_)
            refine tw_putl (v := y_22) (D := (dC, dI)) (C := R_Md) (T := F_Md) (N := 64) (ci := 7) (kd := 27) (ct := ct) (ty := .long) hx hb htb i_Md t_Md t_Md_ok n_Md hown hK hP hD hS hO_3 (hA_3.m m0) rfl rfl 58 (by decide) (htb (.fieldLink R_Md 326 "WaterMenModel" "paidOut" "J") tw_125) (fun _ h9 => h9) rfl (by decide +kernel) rfl rfl rfl d_Md_pay_82 (fun f_4 H locs hP hD hS hO_4 hE_4 w_23 hF_4 => ?_)
            have hA_4 := hA_3.trans hE_4
            refine lv_iinc (v := (v2_1 + 1)) (lv' := [(2, .int (v2_1 + 1)), (0, .ref q0), (1, .int p_0)]) hx hb d_Md_pay_85 hl (k := 2) rfl rfl (by decide) rfl (fun ls hl => ?_)
            refine lv_goto (tgt := 2) hx hb d_Md_pay_88 (by decide) ?_
            exact ih_1 (n_1 - 1) (ms_1 ((fun (a_0 : Int32) (a_1 : Int32) (k_0 : ¬ (a_1 ≤ a_0)) (k_1 : ¬ (30 < a_1)) => (show 1 ≤ (30 : Int32).toInt - (a_0).toInt ∧ (30 : Int32).toInt - ((a_0) + (1 : Int32)).toInt + 1 ≤ (30 : Int32).toInt - (a_0).toInt from by have z0 : (1 : Int32).toInt = 1 := (by decide +kernel); have z1 : (30 : Int32).toInt = 30 := (by decide +kernel); have r0 := fb_rng (a_0); have r1 := fb_rng (a_1); have e0 := k_0; rw [Int32.le_iff_toInt_le] at e0; have e1 := k_1; rw [Int32.lt_iff_toInt_lt, z1] at e1; obtain ⟨n_0, hn_0, s0⟩ := nd_add (x := (a_0)) (y := (1 : Int32)) (by (try rw [z0]); omega) (by (try rw [z0]); omega); rw [z0] at s0; rw [hn_0]; (try rw [z1]); omega)) v2_1 x_2 c_3 b_2.2) hm_1) (v2_1 + 1) _ _ _ _ _ hP hD hS hO_4 ((((hE_1.trans hE_2).trans hE_3).trans hE_4).mono (by decide +kernel)) (show ¬ ((v2_1 + 1) < 0) from by have e0 := iv0_1; rw [Int32.lt_iff_toInt_lt] at e0; have e1 := iv1_1; rw [Int32.lt_iff_toInt_lt] at e1; have z0 : (0 : Int32).toInt = 0 := (by decide +kernel); have z1 : (1 : Int32).toInt = 1 := (by decide +kernel); have z2 : (30 : Int32).toInt = 30 := (by decide +kernel); have ss := fb_addI (x := v2_1) (y := 1) (by omega) (by omega); rw [Int32.lt_iff_toInt_lt]; omega) (show ¬ (30 < (v2_1 + 1)) from ((fun (a_0 : Int32) (a_1 : Int32) (k_0 : ¬ (a_1 ≤ a_0)) (k_1 : ¬ (30 < a_1)) => (show ¬ (30 < (a_0 + 1)) from by have z0 : (1 : Int32).toInt = 1 := (by decide +kernel); have z1 : (30 : Int32).toInt = 30 := (by decide +kernel); have r0 := fb_rng (a_0); have r1 := fb_rng (a_1); have e0 := k_0; rw [Int32.le_iff_toInt_le] at e0; have e1 := k_1; rw [Int32.lt_iff_toInt_lt, z1] at e1; obtain ⟨n_0, hn_0, s0⟩ := nd_add (x := (a_0)) (y := (1 : Int32)) (by (try rw [z0]); omega) (by (try rw [z0]); omega); rw [z0] at s0; rw [hn_0, Int32.lt_iff_toInt_lt, z1]; omega)) v2_1 x_2 c_3 b_2.2)) (by exact ms_2 ((fun (a_0 : Int32) (a_1 : Int32) (k_0 : ¬ (a_1 ≤ a_0)) (k_1 : ¬ (30 < a_1)) => (show 1 ≤ (30 : Int32).toInt - (a_0).toInt ∧ (30 : Int32).toInt - ((a_0) + (1 : Int32)).toInt + 1 ≤ (30 : Int32).toInt - (a_0).toInt from by have z0 : (1 : Int32).toInt = 1 := (by decide +kernel); have z1 : (30 : Int32).toInt = 30 := (by decide +kernel); have r0 := fb_rng (a_0); have r1 := fb_rng (a_1); have e0 := k_0; rw [Int32.le_iff_toInt_le] at e0; have e1 := k_1; rw [Int32.lt_iff_toInt_lt, z1] at e1; obtain ⟨n_0, hn_0, s0⟩ := nd_add (x := (a_0)) (y := (1 : Int32)) (by (try rw [z0]); omega) (by (try rw [z0]); omega); rw [z0] at s0; rw [hn_0]; (try rw [z1]); omega)) v2_1 x_2 c_3 b_2.2) hm_1) (lv_sub hl [1, 2, 0] rfl)
          · refine lv_goto (tgt := 85) hx hb d_Md_pay_35 (by decide) ?_
            refine lv_iinc (v := (v2_1 + 1)) (lv' := [(2, .int (v2_1 + 1)), (0, .ref q0), (1, .int p_0)]) hx hb d_Md_pay_85 hl (k := 2) rfl rfl (by decide) rfl (fun ls hl => ?_)
            refine lv_goto (tgt := 2) hx hb d_Md_pay_88 (by decide) ?_
            exact ih_1 (n_1 - 1) (ms_1 ((fun (a_0 : Int32) (a_1 : Int32) (k_0 : ¬ (a_1 ≤ a_0)) (k_1 : ¬ (30 < a_1)) => (show 1 ≤ (30 : Int32).toInt - (a_0).toInt ∧ (30 : Int32).toInt - ((a_0) + (1 : Int32)).toInt + 1 ≤ (30 : Int32).toInt - (a_0).toInt from by have z0 : (1 : Int32).toInt = 1 := (by decide +kernel); have z1 : (30 : Int32).toInt = 30 := (by decide +kernel); have r0 := fb_rng (a_0); have r1 := fb_rng (a_1); have e0 := k_0; rw [Int32.le_iff_toInt_le] at e0; have e1 := k_1; rw [Int32.lt_iff_toInt_lt, z1] at e1; obtain ⟨n_0, hn_0, s0⟩ := nd_add (x := (a_0)) (y := (1 : Int32)) (by (try rw [z0]); omega) (by (try rw [z0]); omega); rw [z0] at s0; rw [hn_0]; (try rw [z1]); omega)) v2_1 x_2 c_3 b_2.2) hm_1) (v2_1 + 1) _ _ _ _ _ hP hD hS hO_1 (hE_1.mono (by decide +kernel)) (show ¬ ((v2_1 + 1) < 0) from by have e0 := iv0_1; rw [Int32.lt_iff_toInt_lt] at e0; have e1 := iv1_1; rw [Int32.lt_iff_toInt_lt] at e1; have z0 : (0 : Int32).toInt = 0 := (by decide +kernel); have z1 : (1 : Int32).toInt = 1 := (by decide +kernel); have z2 : (30 : Int32).toInt = 30 := (by decide +kernel); have ss := fb_addI (x := v2_1) (y := 1) (by omega) (by omega); rw [Int32.lt_iff_toInt_lt]; omega) (show ¬ (30 < (v2_1 + 1)) from ((fun (a_0 : Int32) (a_1 : Int32) (k_0 : ¬ (a_1 ≤ a_0)) (k_1 : ¬ (30 < a_1)) => (show ¬ (30 < (a_0 + 1)) from by have z0 : (1 : Int32).toInt = 1 := (by decide +kernel); have z1 : (30 : Int32).toInt = 30 := (by decide +kernel); have r0 := fb_rng (a_0); have r1 := fb_rng (a_1); have e0 := k_0; rw [Int32.le_iff_toInt_le] at e0; have e1 := k_1; rw [Int32.lt_iff_toInt_lt, z1] at e1; obtain ⟨n_0, hn_0, s0⟩ := nd_add (x := (a_0)) (y := (1 : Int32)) (by (try rw [z0]); omega) (by (try rw [z0]); omega); rw [z0] at s0; rw [hn_0, Int32.lt_iff_toInt_lt, z1]; omega)) v2_1 x_2 c_3 b_2.2)) (by exact ms_2 ((fun (a_0 : Int32) (a_1 : Int32) (k_0 : ¬ (a_1 ≤ a_0)) (k_1 : ¬ (30 < a_1)) => (show 1 ≤ (30 : Int32).toInt - (a_0).toInt ∧ (30 : Int32).toInt - ((a_0) + (1 : Int32)).toInt + 1 ≤ (30 : Int32).toInt - (a_0).toInt from by have z0 : (1 : Int32).toInt = 1 := (by decide +kernel); have z1 : (30 : Int32).toInt = 30 := (by decide +kernel); have r0 := fb_rng (a_0); have r1 := fb_rng (a_1); have e0 := k_0; rw [Int32.le_iff_toInt_le] at e0; have e1 := k_1; rw [Int32.lt_iff_toInt_lt, z1] at e1; obtain ⟨n_0, hn_0, s0⟩ := nd_add (x := (a_0)) (y := (1 : Int32)) (by (try rw [z0]); omega) (by (try rw [z0]); omega); rw [z0] at s0; rw [hn_0]; (try rw [z1]); omega)) v2_1 x_2 c_3 b_2.2) hm_1) (lv_sub hl [1, 2, 0] rfl)
  exact cut_1 4294967296 (0 : Int32) _ _ _ _ _ hP hD hS hO_0 Ext.rf (by decide +kernel) (by decide +kernel) (by exact ms_0 _ _) (lv_sub hl [1, 2, 0] rfl)
def WL_Md_part_t_52_6 : List (Nat × Nat) := [(39, 1000), (42, 1000)]
def WL_Md_part_t_52_31 : List (Nat × Nat) := [(39, 1000), (42, 1000)]
def W_Md_part_t : List (Nat × Nat) := [(27, 56), (27, 57), (39, 1000), (42, 1000), (71, 1000)]
set_option maxHeartbeats 4000000 in
set_option maxRecDepth 100000 in
theorem c_Md_part_t (l : Launch) (dC : Nat → ClassId) (dI : Nat → Nat → Nat) (ct : Nat → ClassId) (L : List Nat) (f : TF) (hO_0 : Ok L f) (q0 : Nat) (m0 : q0 ∈ L ∧ tk f q0 = 27) (sz : Nat) (p_0 : Int32)  (as_0 : ¬ (p_0 < 0)) (as_1 : ¬ (499 < p_0)) : Met l y_Md_part (.code y_Md_part b_Md_part 6 none :: TB) ({ frames := 0, cells := 0, slots := 0, locals := 0 }) (va_Pc [.ref q0, .int p_0] (PC dC dI (TW ct L f) (TT ct) sz)) (va_Qv (fun (u : TSt) => Ok u.1 u.2 ∧ Ext W_Md_part_t L f u.1 u.2 ∧ (True)) (fun (u : TSt) t => va_P (dC, dI) vwCl (TW ct u.1 u.2) t.heap ∧ va_K (dC, dI) vwCl (TT ct) t ∧ va_D (va_A (TW ct L f) sz) (TW ct u.1 u.2)) (va_A (TW ct L f) sz)) 0 0 (va_A (TW ct L f) sz) := by
  refine Met.ofW (cc := b_Md_part) (maxL := 6) (ret := none) (by decide) rfl ?_
  intro p e s m args below meth c s₁ B hml hv
  obtain ⟨rfl, hsz, hP, hK, hD0, hN⟩ := hv
  have hx := B.exec
  have hb := B.bytes
  have hr := B.returns
  have hts := atoms_spec (ws := (.code y_Md_part b_Md_part 6 none :: TB)) B.pre
  have htb := fun w (h : w ∈ TB) => hts w (List.mem_cons_of_mem _ h)
  have hown : s.vm.findClass R_Md = some m.cls := findClass_of_methodNamed B.named
  have hlocks := B.notSynchronized
  have hl := lv_entry ([.ref q0, .int p_0]) (n := 6) (Nat.le_of_ble_eq_true rfl)
  rw [lg_entry_eq]
  generalize (lg_sl ([.ref q0, .int p_0]) ++ List.replicate (6 - (lg_sl ([.ref q0, .int p_0])).length) Slot.unset).toArray = ls at hl ⊢
  have hl : lv_has ls 6 [(0, .ref q0), (1, .int p_0)] := hl
  subst hsz
  have hD := hD0.self (sz := s.heap.size)
  obtain ⟨A, hAe⟩ : ∃ A, va_A (TW ct L f) s.heap.size = A := ⟨_, rfl⟩
  rw [hAe] at hD
  have hA : ∀ q : Nat, s.heap.size ≤ q → A q := fun q h => by rw [← hAe]; exact Or.inr h
  have hS : va_S A s.heap s.heap [] := va_S.rf
  have hA_0 : Ext [] L f L f := Ext.rf
  suffices hGo : ∀ (H : Heap) (locs : List Loc), va_P (dC, dI) vwCl (TW ct L f) H → va_S A s.heap H locs → W p l e (headSpec (.code y_Md_part b_Md_part 6 none :: TB) ({ frames := 0, cells := 0, slots := 0, locals := 0 })).room s m [.ref q0, .int p_0].toArray below meth c H locs 0 0 (MQ below (va_Qv (fun (u : TSt) => Ok u.1 u.2 ∧ Ext W_Md_part_t L f u.1 u.2 ∧ (True)) (fun (u : TSt) t => va_P (dC, dI) vwCl (TW ct u.1 u.2) t.heap ∧ va_K (dC, dI) vwCl (TT ct) t ∧ va_D (va_A (TW ct L f) s.heap.size) (TW ct u.1 u.2)) (va_A (TW ct L f) s.heap.size)) [.ref q0, .int p_0].toArray s 0 0 (va_A (TW ct L f) s.heap.size)) (F0 m 0 ls []) from hGo _ _ hP hS
  clear hP hS
  intro H locs hP hS
  refine lv_iconst (v := 0) hx hb d_Md_part_0 (by decide +kernel) ?_
  refine lv_istore_n (lv' := [(2, .int 0), (0, .ref q0), (1, .int p_0)]) hx hb d_Md_part_1 rfl hl (by decide) rfl (fun ls hl => ?_)
  refine lv_iconst (v := 0) hx hb d_Md_part_2 (by decide +kernel) ?_
  refine lv_istore_n (lv' := [(3, .int 0), (2, .int 0), (0, .ref q0), (1, .int p_0)]) hx hb d_Md_part_3 rfl hl (by decide) rfl (fun ls hl => ?_)
  have cut_1 : ∀ (n_1 : Nat) (v2_1 v3_1 : Int32) (ls : Array Slot), ¬ (v3_1 < 0) → ¬ (40 < v3_1) → (40 : Int32).toInt - (v3_1 : Int32).toInt ≤ (n_1 : Int) → lv_has ls 6 [(0, .ref q0), (1, .int p_0), (2, .int v2_1), (3, .int v3_1)] → W p l e (headSpec (.code y_Md_part b_Md_part 6 none :: TB) ({ frames := 0, cells := 0, slots := 0, locals := 0 })).room s m [.ref q0, .int p_0].toArray below meth c H locs 0 0 (MQ below (va_Qv (fun (u : TSt) => Ok u.1 u.2 ∧ Ext W_Md_part_t L f u.1 u.2 ∧ (True)) (fun (u : TSt) t => va_P (dC, dI) vwCl (TW ct u.1 u.2) t.heap ∧ va_K (dC, dI) vwCl (TT ct) t ∧ va_D (va_A (TW ct L f) s.heap.size) (TW ct u.1 u.2)) (va_A (TW ct L f) s.heap.size)) [.ref q0, .int p_0].toArray s 0 0 (va_A (TW ct L f) s.heap.size)) (F0 m 4 ls []) := by
    intro n_1
    induction n_1 using Nat.strongRecOn with
    | _ n_1 ih_1 =>
      intro v2_1 v3_1 ls iv0_1 iv1_1 hm_1 hl
      refine lv_iload_n hx hb d_Md_part_4 rfl (lv_at hl 3 rfl) ?_
      refine lv_bipush (v := 40) hx hb d_Md_part_5 (by decide +kernel) ?_
      refine lv_icmp_ge (tgt := 33) hx hb d_Md_part_7 (by decide) (fun c_2 => ?_) (fun c_2 => ?_)
      · refine lv_iload_n hx hb d_Md_part_33 rfl (lv_at hl 2 rfl) ?_
        refine lv_if_ne (tgt := 41) hx hb d_Md_part_34 (by decide) (fun c_3 => ?_) (fun c_3 => ?_)
        · refine lv_aload_n hx hb d_Md_part_41 rfl (lv_at hl 0 rfl) ?_
          refine tw_getl (D := (dC, dI)) (C := R_Md) (T := F_Md) (N := 64) (ci := 7) (kd := 27) (ct := ct) hx hb htb i_Md hown hK hP m0 rfl rfl 57 (by decide) (htb (.fieldLink R_Md 320 "WaterMenModel" "pot" "J") tw_122) (fun _ h9 => h9) rfl d_Md_part_42 (fun x_4 e_4 => ?_)
          refine lv_iload_n hx hb d_Md_part_45 rfl (lv_at hl 2 rfl) ?_
          refine lv_i2l hx hb d_Md_part_46 rfl ?_
          refine lv_ldiv hx hb d_Md_part_47 (hb_l0 c_3) ?_
          refine hb_anyl (fun y_5 => ?_)
          refine lv_lstore_n (lv' := [(3, .long y_5), (0, .ref q0), (1, .int p_0), (2, .int v2_1)]) hx hb d_Md_part_48 rfl hl (by decide) rfl (fun ls hl => ?_)
          refine lv_iconst (v := 0) hx hb d_Md_part_49 (by decide +kernel) ?_
          refine lv_istore (lv' := [(5, .int 0), (3, .long y_5), (0, .ref q0), (1, .int p_0), (2, .int v2_1)]) hx hb d_Md_part_50 hl (by decide) rfl (fun ls hl => ?_)
          have cut_6 : ∀ (n_6 : Nat) (v5_6 : Int32) (L_1 : List Nat) (f_1 : TF) (H : Heap) (locs : List Loc) (ls : Array Slot), va_P (dC, dI) vwCl (TW ct L_1 f_1) H → va_D A (TW ct L_1 f_1) → va_S A s.heap H locs → Ok L_1 f_1 → Ext WL_Md_part_t_52_6 L f L_1 f_1 → ¬ (v5_6 < 0) → ¬ (40 < v5_6) → (40 : Int32).toInt - (v5_6 : Int32).toInt ≤ (n_6 : Int) → lv_has ls 6 [(0, .ref q0), (1, .int p_0), (2, .int v2_1), (3, .long y_5), (5, .int v5_6)] → W p l e (headSpec (.code y_Md_part b_Md_part 6 none :: TB) ({ frames := 0, cells := 0, slots := 0, locals := 0 })).room s m [.ref q0, .int p_0].toArray below meth c H locs 0 0 (MQ below (va_Qv (fun (u : TSt) => Ok u.1 u.2 ∧ Ext W_Md_part_t L f u.1 u.2 ∧ (True)) (fun (u : TSt) t => va_P (dC, dI) vwCl (TW ct u.1 u.2) t.heap ∧ va_K (dC, dI) vwCl (TT ct) t ∧ va_D (va_A (TW ct L f) s.heap.size) (TW ct u.1 u.2)) (va_A (TW ct L f) s.heap.size)) [.ref q0, .int p_0].toArray s 0 0 (va_A (TW ct L f) s.heap.size)) (F0 m 52 ls []) := by
            intro n_6
            induction n_6 using Nat.strongRecOn with
            | _ n_6 ih_6 =>
              intro v5_6 L_1 f_1 H locs ls hP hD hS hO_1 hE_1 iv0_6 iv1_6 hm_6 hl
              have hA_1 := hA_0.trans hE_1
              refine lv_iload hx hb d_Md_part_52 (lv_at hl 4 rfl) ?_
              refine lv_bipush (v := 40) hx hb d_Md_part_54 (by decide +kernel) ?_
              refine lv_icmp_ge (tgt := 95) hx hb d_Md_part_56 (by decide) (fun c_7 => ?_) (fun c_7 => ?_)
              · refine lv_aload_n hx hb d_Md_part_95 rfl (lv_at hl 0 rfl) ?_
                refine lv_dup hx hb d_Md_part_96 rfl ?_
                refine tw_getl (D := (dC, dI)) (C := R_Md) (T := F_Md) (N := 64) (ci := 7) (kd := 27) (ct := ct) hx hb htb i_Md hown hK hP (hA_1.m m0) rfl rfl 56 (by decide) (htb (.fieldLink R_Md 316 "WaterMenModel" "box" "J") tw_116) (fun _ h9 => h9) rfl d_Md_part_97 (fun x_8 e_8 => ?_)
                refine lv_aload_n hx hb d_Md_part_100 rfl (lv_at hl 0 rfl) ?_
                refine tw_getl (D := (dC, dI)) (C := R_Md) (T := F_Md) (N := 64) (ci := 7) (kd := 27) (ct := ct) hx hb htb i_Md hown hK hP (hA_1.m m0) rfl rfl 57 (by decide) (htb (.fieldLink R_Md 320 "WaterMenModel" "pot" "J") tw_122) (fun _ h9 => h9) rfl d_Md_part_101 (fun x_9 e_9 => ?_)
                refine lv_lload_n hx hb d_Md_part_104 rfl (lv_at hl 3 rfl) ?_
                refine lv_iload_n hx hb d_Md_part_105 rfl (lv_at hl 2 rfl) ?_
                refine lv_i2l hx hb d_Md_part_106 rfl ?_
                refine lv_lmul hx hb d_Md_part_107 ?_
                refine hb_anyl (fun y_10 => ?_)
                refine lv_lsub hx hb d_Md_part_108 ?_
                refine hb_anyl (fun y_11 => ?_)
                refine lv_ladd hx hb d_Md_part_109 ?_
                refine hb_anyl (fun y_12 => ?_)
                refine tw_putl (v := y_12) (D := (dC, dI)) (C := R_Md) (T := F_Md) (N := 64) (ci := 7) (kd := 27) (ct := ct) (ty := .long) hx hb htb i_Md t_Md t_Md_ok n_Md hown hK hP hD hS hO_1 (hA_1.m m0) rfl rfl 56 (by decide) (htb (.fieldLink R_Md 316 "WaterMenModel" "box" "J") tw_116) (fun _ h9 => h9) rfl (by decide +kernel) rfl rfl rfl d_Md_part_110 (fun f_2 H locs hP hD hS hO_2 hE_2 w_13 hF_2 => ?_)
                have hA_2 := hA_1.trans hE_2
                refine lv_aload_n hx hb d_Md_part_113 rfl (lv_at hl 0 rfl) ?_
                refine tw_getr (D := (dC, dI)) (C := R_Md) (T := F_Md) (N := 64) (ci := 7) (kd := 27) (ct := ct) hx hb htb i_Md hown hK hP hO_2 (hA_2.m m0) rfl rfl 59 (by decide) (htb (.fieldLink R_Md 173 "WaterMenModel" "boxIn" "[J") tw_120) (fun _ h9 => h9) rfl d_Md_part_114 (fun q_14 e_14 m_14 => ?_)
                refine lv_iload_n hx hb d_Md_part_117 rfl (lv_at hl 1 rfl) ?_
                refine lv_dup2_11 hx hb d_Md_part_118 rfl rfl ?_
                refine tw_aldJ (ct := ct) hx hb hK hP m_14 rfl (hb_inl as_0 as_1 (by decide +kernel)) d_Md_part_119 (fun x_15 e_15 => ?_)
                refine lv_aload_n hx hb d_Md_part_120 rfl (lv_at hl 0 rfl) ?_
                refine tw_getl (D := (dC, dI)) (C := R_Md) (T := F_Md) (N := 64) (ci := 7) (kd := 27) (ct := ct) hx hb htb i_Md hown hK hP (hA_2.m m0) rfl rfl 57 (by decide) (htb (.fieldLink R_Md 320 "WaterMenModel" "pot" "J") tw_122) (fun _ h9 => h9) rfl d_Md_part_121 (fun x_16 e_16 => ?_)
                refine lv_lload_n hx hb d_Md_part_124 rfl (lv_at hl 3 rfl) ?_
                refine lv_iload_n hx hb d_Md_part_125 rfl (lv_at hl 2 rfl) ?_
                refine lv_i2l hx hb d_Md_part_126 rfl ?_
                refine lv_lmul hx hb d_Md_part_127 ?_
                refine hb_anyl (fun y_17 => ?_)
                refine lv_lsub hx hb d_Md_part_128 ?_
                refine hb_anyl (fun y_18 => ?_)
                refine lv_ladd hx hb d_Md_part_129 ?_
                refine hb_anyl (fun y_19 => ?_)
                refine tw_astJ (ct := ct) (x := y_19) hx hb hK hP hD hS hO_2 m_14 rfl (hb_inl as_0 as_1 (by decide +kernel)) d_Md_part_130 (fun f_3 H locs hP hD hS hO_3 hE_3 w_20 ow_20 hF_3 => ?_)
                have hA_3 := hA_2.trans hE_3
                refine lv_aload_n hx hb d_Md_part_131 rfl (lv_at hl 0 rfl) ?_
                refine lv_lconst (v := 0) hx hb d_Md_part_132 (by decide +kernel) ?_
                refine tw_putl (v := 0) (D := (dC, dI)) (C := R_Md) (T := F_Md) (N := 64) (ci := 7) (kd := 27) (ct := ct) (ty := .long) hx hb htb i_Md t_Md t_Md_ok n_Md hown hK hP hD hS hO_3 (hA_3.m m0) rfl rfl 57 (by decide) (htb (.fieldLink R_Md 320 "WaterMenModel" "pot" "J") tw_122) (fun _ h9 => h9) rfl (by decide +kernel) rfl rfl rfl d_Md_part_133 (fun f_4 H locs hP hD hS hO_4 hE_4 w_21 hF_4 => ?_)
                have hA_4 := hA_3.trans hE_4
                refine W.widen (k := 0) (n := 0) (Nat.le_of_ble_eq_true rfl) (Nat.le_of_ble_eq_true rfl) ?_
                exact W.vret hx hb hr (fun t ht hW => ⟨⟨(L_1, f_4), rfl, ⟨hO_4, hA_4.mono (by decide +kernel), trivial⟩, by rw [ht]; exact hP, va_K.moved hW.alike hK, by rw [hAe]; exact hD⟩, by rw [hAe]; exact hS.F ht⟩) (by rw [hAe]; exact hS.2.2) d_Md_part_136
              · refine lv_aload_n hx hb d_Md_part_59 rfl (lv_at hl 0 rfl) ?_
                refine tw_getr (D := (dC, dI)) (C := R_Md) (T := F_Md) (N := 64) (ci := 7) (kd := 27) (ct := ct) hx hb htb i_Md hown hK hP hO_1 (hA_1.m m0) rfl rfl 18 (by decide) (htb (.fieldLink R_Md 85 "WaterMenModel" "shares" "[Z") tw_239) (fun _ h9 => h9) rfl d_Md_part_60 (fun q_22 e_22 m_22 => ?_)
                refine lv_iload hx hb d_Md_part_63 (lv_at hl 4 rfl) ?_
                refine tw_aldZ (ct := ct) hx hb hK hP hO_1 m_22 rfl (hb_in iv0_6 c_7 (by decide +kernel)) d_Md_part_65 (fun x_23 e_23 b_23 => ?_)
                refine lv_if_eq (tgt := 81) hx hb d_Md_part_66 (by decide) (fun c_24 => ?_) (fun c_24 => ?_)
                · refine lv_aload_n hx hb d_Md_part_81 rfl (lv_at hl 0 rfl) ?_
                  refine tw_getR (D := (dC, dI)) (C := R_Md) (T := F_Md) (N := 64) (ci := 7) (kd := 27) (ct := ct) hx hb htb i_Md hown hK hP (hA_1.m m0) rfl rfl 18 e_22 (by decide) (htb (.fieldLink R_Md 85 "WaterMenModel" "shares" "[Z") tw_239) (fun _ h9 => h9) rfl d_Md_part_82 ?_
                  refine hb_tv (.ref q_22) rfl ?_
                  refine lv_iload hx hb d_Md_part_85 (lv_at hl 4 rfl) ?_
                  refine lv_iconst (v := 0) hx hb d_Md_part_87 (by decide +kernel) ?_
                  refine tw_astZ (ct := ct) (x := 0) hx hb hK hP hD hS hO_1 m_22 rfl (hb_in iv0_6 c_7 (by decide +kernel)) ⟨by decide +kernel, by decide +kernel⟩ d_Md_part_88 (fun f_2 H locs hP hD hS hO_2 hE_2 w_25 ow_25 hF_2 => ?_)
                  have hA_2 := hA_1.trans hE_2
                  refine lv_iinc (v := (v5_6 + 1)) (lv' := [(5, .int (v5_6 + 1)), (0, .ref q0), (1, .int p_0), (2, .int v2_1), (3, .long y_5)]) hx hb d_Md_part_89 hl (k := 4) rfl rfl (by decide) rfl (fun ls hl => ?_)
                  refine lv_goto (tgt := 52) hx hb d_Md_part_92 (by decide) ?_
                  exact ih_6 (n_6 - 1) (ms_1 ((fun (a_0 : Int32) (k_0 : ¬ (40 ≤ a_0)) => (show 1 ≤ (40 : Int32).toInt - (a_0).toInt ∧ (40 : Int32).toInt - ((a_0) + (1 : Int32)).toInt + 1 ≤ (40 : Int32).toInt - (a_0).toInt from by have z0 : (1 : Int32).toInt = 1 := (by decide +kernel); have z1 : (40 : Int32).toInt = 40 := (by decide +kernel); have r0 := fb_rng (a_0); have e0 := k_0; rw [Int32.le_iff_toInt_le, z1] at e0; obtain ⟨n_0, hn_0, s0⟩ := nd_add (x := (a_0)) (y := (1 : Int32)) (by (try rw [z0]); omega) (by (try rw [z0]); omega); rw [z0] at s0; rw [hn_0]; (try rw [z1]); omega)) v5_6 c_7) hm_6) (v5_6 + 1) _ _ _ _ _ hP hD hS hO_2 ((hE_1.trans hE_2).mono (by decide +kernel)) (show ¬ ((v5_6 + 1) < 0) from by have e0 := iv0_6; rw [Int32.lt_iff_toInt_lt] at e0; have e1 := c_7; rw [Int32.le_iff_toInt_le] at e1; have z0 : (0 : Int32).toInt = 0 := (by decide +kernel); have z1 : (1 : Int32).toInt = 1 := (by decide +kernel); have z2 : (40 : Int32).toInt = 40 := (by decide +kernel); have ss := fb_addI (x := v5_6) (y := 1) (by omega) (by omega); rw [Int32.lt_iff_toInt_lt]; omega) (show ¬ (40 < (v5_6 + 1)) from by have e0 := iv0_6; rw [Int32.lt_iff_toInt_lt] at e0; have e1 := c_7; rw [Int32.le_iff_toInt_le] at e1; have z0 : (0 : Int32).toInt = 0 := (by decide +kernel); have z1 : (1 : Int32).toInt = 1 := (by decide +kernel); have z2 : (40 : Int32).toInt = 40 := (by decide +kernel); have ss := fb_addI (x := v5_6) (y := 1) (by omega) (by omega); rw [Int32.lt_iff_toInt_lt]; omega) (by exact ms_2 ((fun (a_0 : Int32) (k_0 : ¬ (40 ≤ a_0)) => (show 1 ≤ (40 : Int32).toInt - (a_0).toInt ∧ (40 : Int32).toInt - ((a_0) + (1 : Int32)).toInt + 1 ≤ (40 : Int32).toInt - (a_0).toInt from by have z0 : (1 : Int32).toInt = 1 := (by decide +kernel); have z1 : (40 : Int32).toInt = 40 := (by decide +kernel); have r0 := fb_rng (a_0); have e0 := k_0; rw [Int32.le_iff_toInt_le, z1] at e0; obtain ⟨n_0, hn_0, s0⟩ := nd_add (x := (a_0)) (y := (1 : Int32)) (by (try rw [z0]); omega) (by (try rw [z0]); omega); rw [z0] at s0; rw [hn_0]; (try rw [z1]); omega)) v5_6 c_7) hm_6) (lv_sub hl [1, 2, 3, 4, 0] rfl)
                · refine lv_aload_n hx hb d_Md_part_69 rfl (lv_at hl 0 rfl) ?_
                  refine tw_getr (D := (dC, dI)) (C := R_Md) (T := F_Md) (N := 64) (ci := 7) (kd := 27) (ct := ct) hx hb htb i_Md hown hK hP hO_1 (hA_1.m m0) rfl rfl 15 (by decide) (htb (.fieldLink R_Md 76 "WaterMenModel" "coins" "[I") tw_108) (fun _ h9 => h9) rfl d_Md_part_70 (fun q_26 e_26 m_26 => ?_)
                  refine lv_iload hx hb d_Md_part_73 (lv_at hl 4 rfl) ?_
                  refine lv_dup2_11 hx hb d_Md_part_75 rfl rfl ?_
                  refine tw_aldI (ct := ct) hx hb hK hP hO_1 m_26 rfl (hb_in iv0_6 c_7 (by decide +kernel)) d_Md_part_76 (fun x_27 e_27 b_27 => ?_)
                  refine lv_lload_n hx hb d_Md_part_77 rfl (lv_at hl 3 rfl) ?_
                  refine lv_l2i hx hb d_Md_part_78 rfl ?_
                  refine hb_anyi (fun y_28 => ?_)
                  refine lv_iadd hx hb d_Md_part_79 ?_
                  refine tw_astI (ct := ct) (x := (x_27 + y_28)) hx hb hK hP hD hS hO_1 m_26 rfl (hb_in iv0_6 c_7 (by decide +kernel)) (i32_full _) d_Md_part_80 (fun f_2 H locs hP hD hS hO_2 hE_2 w_29 ow_29 hF_2 => ?_)
                  have hA_2 := hA_1.trans hE_2
                  refine lv_aload_n hx hb d_Md_part_81 rfl (lv_at hl 0 rfl) ?_
                  refine tw_getR (D := (dC, dI)) (C := R_Md) (T := F_Md) (N := 64) (ci := 7) (kd := 27) (ct := ct) hx hb htb i_Md hown hK hP (hA_2.m m0) rfl rfl 18 ((hE_2.er (hA_1.m m0) rfl).trans e_22) (by decide) (htb (.fieldLink R_Md 85 "WaterMenModel" "shares" "[Z") tw_239) (fun _ h9 => h9) rfl d_Md_part_82 ?_
                  refine hb_tv (.ref q_22) rfl ?_
                  refine lv_iload hx hb d_Md_part_85 (lv_at hl 4 rfl) ?_
                  refine lv_iconst (v := 0) hx hb d_Md_part_87 (by decide +kernel) ?_
                  refine tw_astZ (ct := ct) (x := 0) hx hb hK hP hD hS hO_2 (hE_2.m m_22) rfl (hb_in iv0_6 c_7 (by decide +kernel)) ⟨by decide +kernel, by decide +kernel⟩ d_Md_part_88 (fun f_3 H locs hP hD hS hO_3 hE_3 w_30 ow_30 hF_3 => ?_)
                  have hA_3 := hA_2.trans hE_3
                  refine lv_iinc (v := (v5_6 + 1)) (lv' := [(5, .int (v5_6 + 1)), (0, .ref q0), (1, .int p_0), (2, .int v2_1), (3, .long y_5)]) hx hb d_Md_part_89 hl (k := 4) rfl rfl (by decide) rfl (fun ls hl => ?_)
                  refine lv_goto (tgt := 52) hx hb d_Md_part_92 (by decide) ?_
                  exact ih_6 (n_6 - 1) (ms_1 ((fun (a_0 : Int32) (k_0 : ¬ (40 ≤ a_0)) => (show 1 ≤ (40 : Int32).toInt - (a_0).toInt ∧ (40 : Int32).toInt - ((a_0) + (1 : Int32)).toInt + 1 ≤ (40 : Int32).toInt - (a_0).toInt from by have z0 : (1 : Int32).toInt = 1 := (by decide +kernel); have z1 : (40 : Int32).toInt = 40 := (by decide +kernel); have r0 := fb_rng (a_0); have e0 := k_0; rw [Int32.le_iff_toInt_le, z1] at e0; obtain ⟨n_0, hn_0, s0⟩ := nd_add (x := (a_0)) (y := (1 : Int32)) (by (try rw [z0]); omega) (by (try rw [z0]); omega); rw [z0] at s0; rw [hn_0]; (try rw [z1]); omega)) v5_6 c_7) hm_6) (v5_6 + 1) _ _ _ _ _ hP hD hS hO_3 (((hE_1.trans hE_2).trans hE_3).mono (by decide +kernel)) (show ¬ ((v5_6 + 1) < 0) from by have e0 := iv0_6; rw [Int32.lt_iff_toInt_lt] at e0; have e1 := c_7; rw [Int32.le_iff_toInt_le] at e1; have z0 : (0 : Int32).toInt = 0 := (by decide +kernel); have z1 : (1 : Int32).toInt = 1 := (by decide +kernel); have z2 : (40 : Int32).toInt = 40 := (by decide +kernel); have ss := fb_addI (x := v5_6) (y := 1) (by omega) (by omega); rw [Int32.lt_iff_toInt_lt]; omega) (show ¬ (40 < (v5_6 + 1)) from by have e0 := iv0_6; rw [Int32.lt_iff_toInt_lt] at e0; have e1 := c_7; rw [Int32.le_iff_toInt_le] at e1; have z0 : (0 : Int32).toInt = 0 := (by decide +kernel); have z1 : (1 : Int32).toInt = 1 := (by decide +kernel); have z2 : (40 : Int32).toInt = 40 := (by decide +kernel); have ss := fb_addI (x := v5_6) (y := 1) (by omega) (by omega); rw [Int32.lt_iff_toInt_lt]; omega) (by exact ms_2 ((fun (a_0 : Int32) (k_0 : ¬ (40 ≤ a_0)) => (show 1 ≤ (40 : Int32).toInt - (a_0).toInt ∧ (40 : Int32).toInt - ((a_0) + (1 : Int32)).toInt + 1 ≤ (40 : Int32).toInt - (a_0).toInt from by have z0 : (1 : Int32).toInt = 1 := (by decide +kernel); have z1 : (40 : Int32).toInt = 40 := (by decide +kernel); have r0 := fb_rng (a_0); have e0 := k_0; rw [Int32.le_iff_toInt_le, z1] at e0; obtain ⟨n_0, hn_0, s0⟩ := nd_add (x := (a_0)) (y := (1 : Int32)) (by (try rw [z0]); omega) (by (try rw [z0]); omega); rw [z0] at s0; rw [hn_0]; (try rw [z1]); omega)) v5_6 c_7) hm_6) (lv_sub hl [1, 2, 3, 4, 0] rfl)
          exact cut_6 4294967296 (0 : Int32) _ _ _ _ _ hP hD hS hO_0 Ext.rf (by decide +kernel) (by decide +kernel) (by exact ms_0 _ _) (lv_sub hl [2, 3, 4, 1, 0] rfl)
        · refine lv_lconst (v := 0) hx hb d_Md_part_37 (by decide +kernel) ?_
          refine lv_goto (tgt := 48) hx hb d_Md_part_38 (by decide) ?_
          refine lv_lstore_n (lv' := [(3, .long 0), (0, .ref q0), (1, .int p_0), (2, .int v2_1)]) hx hb d_Md_part_48 rfl hl (by decide) rfl (fun ls hl => ?_)
          refine lv_iconst (v := 0) hx hb d_Md_part_49 (by decide +kernel) ?_
          refine lv_istore (lv' := [(5, .int 0), (3, .long 0), (0, .ref q0), (1, .int p_0), (2, .int v2_1)]) hx hb d_Md_part_50 hl (by decide) rfl (fun ls hl => ?_)
          have cut_31 : ∀ (n_31 : Nat) (v5_31 : Int32) (L_1 : List Nat) (f_1 : TF) (H : Heap) (locs : List Loc) (ls : Array Slot), va_P (dC, dI) vwCl (TW ct L_1 f_1) H → va_D A (TW ct L_1 f_1) → va_S A s.heap H locs → Ok L_1 f_1 → Ext WL_Md_part_t_52_31 L f L_1 f_1 → ¬ (v5_31 < 0) → ¬ (40 < v5_31) → (40 : Int32).toInt - (v5_31 : Int32).toInt ≤ (n_31 : Int) → lv_has ls 6 [(0, .ref q0), (1, .int p_0), (2, .int v2_1), (3, .long 0), (5, .int v5_31)] → W p l e (headSpec (.code y_Md_part b_Md_part 6 none :: TB) ({ frames := 0, cells := 0, slots := 0, locals := 0 })).room s m [.ref q0, .int p_0].toArray below meth c H locs 0 0 (MQ below (va_Qv (fun (u : TSt) => Ok u.1 u.2 ∧ Ext W_Md_part_t L f u.1 u.2 ∧ (True)) (fun (u : TSt) t => va_P (dC, dI) vwCl (TW ct u.1 u.2) t.heap ∧ va_K (dC, dI) vwCl (TT ct) t ∧ va_D (va_A (TW ct L f) s.heap.size) (TW ct u.1 u.2)) (va_A (TW ct L f) s.heap.size)) [.ref q0, .int p_0].toArray s 0 0 (va_A (TW ct L f) s.heap.size)) (F0 m 52 ls []) := by
            intro n_31
            induction n_31 using Nat.strongRecOn with
            | _ n_31 ih_31 =>
              intro v5_31 L_1 f_1 H locs ls hP hD hS hO_1 hE_1 iv0_31 iv1_31 hm_31 hl
              have hA_1 := hA_0.trans hE_1
              refine lv_iload hx hb d_Md_part_52 (lv_at hl 4 rfl) ?_
              refine lv_bipush (v := 40) hx hb d_Md_part_54 (by decide +kernel) ?_
              refine lv_icmp_ge (tgt := 95) hx hb d_Md_part_56 (by decide) (fun c_32 => ?_) (fun c_32 => ?_)
              · refine lv_aload_n hx hb d_Md_part_95 rfl (lv_at hl 0 rfl) ?_
                refine lv_dup hx hb d_Md_part_96 rfl ?_
                refine tw_getl (D := (dC, dI)) (C := R_Md) (T := F_Md) (N := 64) (ci := 7) (kd := 27) (ct := ct) hx hb htb i_Md hown hK hP (hA_1.m m0) rfl rfl 56 (by decide) (htb (.fieldLink R_Md 316 "WaterMenModel" "box" "J") tw_116) (fun _ h9 => h9) rfl d_Md_part_97 (fun x_33 e_33 => ?_)
                refine lv_aload_n hx hb d_Md_part_100 rfl (lv_at hl 0 rfl) ?_
                refine tw_getl (D := (dC, dI)) (C := R_Md) (T := F_Md) (N := 64) (ci := 7) (kd := 27) (ct := ct) hx hb htb i_Md hown hK hP (hA_1.m m0) rfl rfl 57 (by decide) (htb (.fieldLink R_Md 320 "WaterMenModel" "pot" "J") tw_122) (fun _ h9 => h9) rfl d_Md_part_101 (fun x_34 e_34 => ?_)
                refine lv_lload_n hx hb d_Md_part_104 rfl (lv_at hl 3 rfl) ?_
                refine lv_iload_n hx hb d_Md_part_105 rfl (lv_at hl 2 rfl) ?_
                refine lv_i2l hx hb d_Md_part_106 rfl ?_
                refine lv_lmul hx hb d_Md_part_107 ?_
                refine hb_anyl (fun y_35 => ?_)
                refine lv_lsub hx hb d_Md_part_108 ?_
                refine hb_anyl (fun y_36 => ?_)
                refine lv_ladd hx hb d_Md_part_109 ?_
                refine hb_anyl (fun y_37 => ?_)
                refine tw_putl (v := y_37) (D := (dC, dI)) (C := R_Md) (T := F_Md) (N := 64) (ci := 7) (kd := 27) (ct := ct) (ty := .long) hx hb htb i_Md t_Md t_Md_ok n_Md hown hK hP hD hS hO_1 (hA_1.m m0) rfl rfl 56 (by decide) (htb (.fieldLink R_Md 316 "WaterMenModel" "box" "J") tw_116) (fun _ h9 => h9) rfl (by decide +kernel) rfl rfl rfl d_Md_part_110 (fun f_2 H locs hP hD hS hO_2 hE_2 w_38 hF_2 => ?_)
                have hA_2 := hA_1.trans hE_2
                refine lv_aload_n hx hb d_Md_part_113 rfl (lv_at hl 0 rfl) ?_
                refine tw_getr (D := (dC, dI)) (C := R_Md) (T := F_Md) (N := 64) (ci := 7) (kd := 27) (ct := ct) hx hb htb i_Md hown hK hP hO_2 (hA_2.m m0) rfl rfl 59 (by decide) (htb (.fieldLink R_Md 173 "WaterMenModel" "boxIn" "[J") tw_120) (fun _ h9 => h9) rfl d_Md_part_114 (fun q_39 e_39 m_39 => ?_)
                refine lv_iload_n hx hb d_Md_part_117 rfl (lv_at hl 1 rfl) ?_
                refine lv_dup2_11 hx hb d_Md_part_118 rfl rfl ?_
                refine tw_aldJ (ct := ct) hx hb hK hP m_39 rfl (hb_inl as_0 as_1 (by decide +kernel)) d_Md_part_119 (fun x_40 e_40 => ?_)
                refine lv_aload_n hx hb d_Md_part_120 rfl (lv_at hl 0 rfl) ?_
                refine tw_getl (D := (dC, dI)) (C := R_Md) (T := F_Md) (N := 64) (ci := 7) (kd := 27) (ct := ct) hx hb htb i_Md hown hK hP (hA_2.m m0) rfl rfl 57 (by decide) (htb (.fieldLink R_Md 320 "WaterMenModel" "pot" "J") tw_122) (fun _ h9 => h9) rfl d_Md_part_121 (fun x_41 e_41 => ?_)
                refine lv_lload_n hx hb d_Md_part_124 rfl (lv_at hl 3 rfl) ?_
                refine lv_iload_n hx hb d_Md_part_125 rfl (lv_at hl 2 rfl) ?_
                refine lv_i2l hx hb d_Md_part_126 rfl ?_
                refine lv_lmul hx hb d_Md_part_127 ?_
                refine hb_anyl (fun y_42 => ?_)
                refine lv_lsub hx hb d_Md_part_128 ?_
                refine hb_anyl (fun y_43 => ?_)
                refine lv_ladd hx hb d_Md_part_129 ?_
                refine hb_anyl (fun y_44 => ?_)
                refine tw_astJ (ct := ct) (x := y_44) hx hb hK hP hD hS hO_2 m_39 rfl (hb_inl as_0 as_1 (by decide +kernel)) d_Md_part_130 (fun f_3 H locs hP hD hS hO_3 hE_3 w_45 ow_45 hF_3 => ?_)
                have hA_3 := hA_2.trans hE_3
                refine lv_aload_n hx hb d_Md_part_131 rfl (lv_at hl 0 rfl) ?_
                refine lv_lconst (v := 0) hx hb d_Md_part_132 (by decide +kernel) ?_
                refine tw_putl (v := 0) (D := (dC, dI)) (C := R_Md) (T := F_Md) (N := 64) (ci := 7) (kd := 27) (ct := ct) (ty := .long) hx hb htb i_Md t_Md t_Md_ok n_Md hown hK hP hD hS hO_3 (hA_3.m m0) rfl rfl 57 (by decide) (htb (.fieldLink R_Md 320 "WaterMenModel" "pot" "J") tw_122) (fun _ h9 => h9) rfl (by decide +kernel) rfl rfl rfl d_Md_part_133 (fun f_4 H locs hP hD hS hO_4 hE_4 w_46 hF_4 => ?_)
                have hA_4 := hA_3.trans hE_4
                refine W.widen (k := 0) (n := 0) (Nat.le_of_ble_eq_true rfl) (Nat.le_of_ble_eq_true rfl) ?_
                exact W.vret hx hb hr (fun t ht hW => ⟨⟨(L_1, f_4), rfl, ⟨hO_4, hA_4.mono (by decide +kernel), trivial⟩, by rw [ht]; exact hP, va_K.moved hW.alike hK, by rw [hAe]; exact hD⟩, by rw [hAe]; exact hS.F ht⟩) (by rw [hAe]; exact hS.2.2) d_Md_part_136
              · refine lv_aload_n hx hb d_Md_part_59 rfl (lv_at hl 0 rfl) ?_
                refine tw_getr (D := (dC, dI)) (C := R_Md) (T := F_Md) (N := 64) (ci := 7) (kd := 27) (ct := ct) hx hb htb i_Md hown hK hP hO_1 (hA_1.m m0) rfl rfl 18 (by decide) (htb (.fieldLink R_Md 85 "WaterMenModel" "shares" "[Z") tw_239) (fun _ h9 => h9) rfl d_Md_part_60 (fun q_47 e_47 m_47 => ?_)
                refine lv_iload hx hb d_Md_part_63 (lv_at hl 4 rfl) ?_
                refine tw_aldZ (ct := ct) hx hb hK hP hO_1 m_47 rfl (hb_in iv0_31 c_32 (by decide +kernel)) d_Md_part_65 (fun x_48 e_48 b_48 => ?_)
                refine lv_if_eq (tgt := 81) hx hb d_Md_part_66 (by decide) (fun c_49 => ?_) (fun c_49 => ?_)
                · refine lv_aload_n hx hb d_Md_part_81 rfl (lv_at hl 0 rfl) ?_
                  refine tw_getR (D := (dC, dI)) (C := R_Md) (T := F_Md) (N := 64) (ci := 7) (kd := 27) (ct := ct) hx hb htb i_Md hown hK hP (hA_1.m m0) rfl rfl 18 e_47 (by decide) (htb (.fieldLink R_Md 85 "WaterMenModel" "shares" "[Z") tw_239) (fun _ h9 => h9) rfl d_Md_part_82 ?_
                  refine hb_tv (.ref q_47) rfl ?_
                  refine lv_iload hx hb d_Md_part_85 (lv_at hl 4 rfl) ?_
                  refine lv_iconst (v := 0) hx hb d_Md_part_87 (by decide +kernel) ?_
                  refine tw_astZ (ct := ct) (x := 0) hx hb hK hP hD hS hO_1 m_47 rfl (hb_in iv0_31 c_32 (by decide +kernel)) ⟨by decide +kernel, by decide +kernel⟩ d_Md_part_88 (fun f_2 H locs hP hD hS hO_2 hE_2 w_50 ow_50 hF_2 => ?_)
                  have hA_2 := hA_1.trans hE_2
                  refine lv_iinc (v := (v5_31 + 1)) (lv' := [(5, .int (v5_31 + 1)), (0, .ref q0), (1, .int p_0), (2, .int v2_1), (3, .long 0)]) hx hb d_Md_part_89 hl (k := 4) rfl rfl (by decide) rfl (fun ls hl => ?_)
                  refine lv_goto (tgt := 52) hx hb d_Md_part_92 (by decide) ?_
                  exact ih_31 (n_31 - 1) (ms_1 ((fun (a_0 : Int32) (k_0 : ¬ (40 ≤ a_0)) => (show 1 ≤ (40 : Int32).toInt - (a_0).toInt ∧ (40 : Int32).toInt - ((a_0) + (1 : Int32)).toInt + 1 ≤ (40 : Int32).toInt - (a_0).toInt from by have z0 : (1 : Int32).toInt = 1 := (by decide +kernel); have z1 : (40 : Int32).toInt = 40 := (by decide +kernel); have r0 := fb_rng (a_0); have e0 := k_0; rw [Int32.le_iff_toInt_le, z1] at e0; obtain ⟨n_0, hn_0, s0⟩ := nd_add (x := (a_0)) (y := (1 : Int32)) (by (try rw [z0]); omega) (by (try rw [z0]); omega); rw [z0] at s0; rw [hn_0]; (try rw [z1]); omega)) v5_31 c_32) hm_31) (v5_31 + 1) _ _ _ _ _ hP hD hS hO_2 ((hE_1.trans hE_2).mono (by decide +kernel)) (show ¬ ((v5_31 + 1) < 0) from by have e0 := iv0_31; rw [Int32.lt_iff_toInt_lt] at e0; have e1 := c_32; rw [Int32.le_iff_toInt_le] at e1; have z0 : (0 : Int32).toInt = 0 := (by decide +kernel); have z1 : (1 : Int32).toInt = 1 := (by decide +kernel); have z2 : (40 : Int32).toInt = 40 := (by decide +kernel); have ss := fb_addI (x := v5_31) (y := 1) (by omega) (by omega); rw [Int32.lt_iff_toInt_lt]; omega) (show ¬ (40 < (v5_31 + 1)) from by have e0 := iv0_31; rw [Int32.lt_iff_toInt_lt] at e0; have e1 := c_32; rw [Int32.le_iff_toInt_le] at e1; have z0 : (0 : Int32).toInt = 0 := (by decide +kernel); have z1 : (1 : Int32).toInt = 1 := (by decide +kernel); have z2 : (40 : Int32).toInt = 40 := (by decide +kernel); have ss := fb_addI (x := v5_31) (y := 1) (by omega) (by omega); rw [Int32.lt_iff_toInt_lt]; omega) (by exact ms_2 ((fun (a_0 : Int32) (k_0 : ¬ (40 ≤ a_0)) => (show 1 ≤ (40 : Int32).toInt - (a_0).toInt ∧ (40 : Int32).toInt - ((a_0) + (1 : Int32)).toInt + 1 ≤ (40 : Int32).toInt - (a_0).toInt from by have z0 : (1 : Int32).toInt = 1 := (by decide +kernel); have z1 : (40 : Int32).toInt = 40 := (by decide +kernel); have r0 := fb_rng (a_0); have e0 := k_0; rw [Int32.le_iff_toInt_le, z1] at e0; obtain ⟨n_0, hn_0, s0⟩ := nd_add (x := (a_0)) (y := (1 : Int32)) (by (try rw [z0]); omega) (by (try rw [z0]); omega); rw [z0] at s0; rw [hn_0]; (try rw [z1]); omega)) v5_31 c_32) hm_31) (lv_sub hl [1, 2, 3, 4, 0] rfl)
                · refine lv_aload_n hx hb d_Md_part_69 rfl (lv_at hl 0 rfl) ?_
                  refine tw_getr (D := (dC, dI)) (C := R_Md) (T := F_Md) (N := 64) (ci := 7) (kd := 27) (ct := ct) hx hb htb i_Md hown hK hP hO_1 (hA_1.m m0) rfl rfl 15 (by decide) (htb (.fieldLink R_Md 76 "WaterMenModel" "coins" "[I") tw_108) (fun _ h9 => h9) rfl d_Md_part_70 (fun q_51 e_51 m_51 => ?_)
                  refine lv_iload hx hb d_Md_part_73 (lv_at hl 4 rfl) ?_
                  refine lv_dup2_11 hx hb d_Md_part_75 rfl rfl ?_
                  refine tw_aldI (ct := ct) hx hb hK hP hO_1 m_51 rfl (hb_in iv0_31 c_32 (by decide +kernel)) d_Md_part_76 (fun x_52 e_52 b_52 => ?_)
                  refine lv_lload_n hx hb d_Md_part_77 rfl (lv_at hl 3 rfl) ?_
                  refine lv_l2i hx hb d_Md_part_78 rfl ?_
                  refine hb_anyi (fun y_53 => ?_)
                  refine lv_iadd hx hb d_Md_part_79 ?_
                  refine tw_astI (ct := ct) (x := (x_52 + y_53)) hx hb hK hP hD hS hO_1 m_51 rfl (hb_in iv0_31 c_32 (by decide +kernel)) (i32_full _) d_Md_part_80 (fun f_2 H locs hP hD hS hO_2 hE_2 w_54 ow_54 hF_2 => ?_)
                  have hA_2 := hA_1.trans hE_2
                  refine lv_aload_n hx hb d_Md_part_81 rfl (lv_at hl 0 rfl) ?_
                  refine tw_getR (D := (dC, dI)) (C := R_Md) (T := F_Md) (N := 64) (ci := 7) (kd := 27) (ct := ct) hx hb htb i_Md hown hK hP (hA_2.m m0) rfl rfl 18 ((hE_2.er (hA_1.m m0) rfl).trans e_47) (by decide) (htb (.fieldLink R_Md 85 "WaterMenModel" "shares" "[Z") tw_239) (fun _ h9 => h9) rfl d_Md_part_82 ?_
                  refine hb_tv (.ref q_47) rfl ?_
                  refine lv_iload hx hb d_Md_part_85 (lv_at hl 4 rfl) ?_
                  refine lv_iconst (v := 0) hx hb d_Md_part_87 (by decide +kernel) ?_
                  refine tw_astZ (ct := ct) (x := 0) hx hb hK hP hD hS hO_2 (hE_2.m m_47) rfl (hb_in iv0_31 c_32 (by decide +kernel)) ⟨by decide +kernel, by decide +kernel⟩ d_Md_part_88 (fun f_3 H locs hP hD hS hO_3 hE_3 w_55 ow_55 hF_3 => ?_)
                  have hA_3 := hA_2.trans hE_3
                  refine lv_iinc (v := (v5_31 + 1)) (lv' := [(5, .int (v5_31 + 1)), (0, .ref q0), (1, .int p_0), (2, .int v2_1), (3, .long 0)]) hx hb d_Md_part_89 hl (k := 4) rfl rfl (by decide) rfl (fun ls hl => ?_)
                  refine lv_goto (tgt := 52) hx hb d_Md_part_92 (by decide) ?_
                  exact ih_31 (n_31 - 1) (ms_1 ((fun (a_0 : Int32) (k_0 : ¬ (40 ≤ a_0)) => (show 1 ≤ (40 : Int32).toInt - (a_0).toInt ∧ (40 : Int32).toInt - ((a_0) + (1 : Int32)).toInt + 1 ≤ (40 : Int32).toInt - (a_0).toInt from by have z0 : (1 : Int32).toInt = 1 := (by decide +kernel); have z1 : (40 : Int32).toInt = 40 := (by decide +kernel); have r0 := fb_rng (a_0); have e0 := k_0; rw [Int32.le_iff_toInt_le, z1] at e0; obtain ⟨n_0, hn_0, s0⟩ := nd_add (x := (a_0)) (y := (1 : Int32)) (by (try rw [z0]); omega) (by (try rw [z0]); omega); rw [z0] at s0; rw [hn_0]; (try rw [z1]); omega)) v5_31 c_32) hm_31) (v5_31 + 1) _ _ _ _ _ hP hD hS hO_3 (((hE_1.trans hE_2).trans hE_3).mono (by decide +kernel)) (show ¬ ((v5_31 + 1) < 0) from by have e0 := iv0_31; rw [Int32.lt_iff_toInt_lt] at e0; have e1 := c_32; rw [Int32.le_iff_toInt_le] at e1; have z0 : (0 : Int32).toInt = 0 := (by decide +kernel); have z1 : (1 : Int32).toInt = 1 := (by decide +kernel); have z2 : (40 : Int32).toInt = 40 := (by decide +kernel); have ss := fb_addI (x := v5_31) (y := 1) (by omega) (by omega); rw [Int32.lt_iff_toInt_lt]; omega) (show ¬ (40 < (v5_31 + 1)) from by have e0 := iv0_31; rw [Int32.lt_iff_toInt_lt] at e0; have e1 := c_32; rw [Int32.le_iff_toInt_le] at e1; have z0 : (0 : Int32).toInt = 0 := (by decide +kernel); have z1 : (1 : Int32).toInt = 1 := (by decide +kernel); have z2 : (40 : Int32).toInt = 40 := (by decide +kernel); have ss := fb_addI (x := v5_31) (y := 1) (by omega) (by omega); rw [Int32.lt_iff_toInt_lt]; omega) (by exact ms_2 ((fun (a_0 : Int32) (k_0 : ¬ (40 ≤ a_0)) => (show 1 ≤ (40 : Int32).toInt - (a_0).toInt ∧ (40 : Int32).toInt - ((a_0) + (1 : Int32)).toInt + 1 ≤ (40 : Int32).toInt - (a_0).toInt from by have z0 : (1 : Int32).toInt = 1 := (by decide +kernel); have z1 : (40 : Int32).toInt = 40 := (by decide +kernel); have r0 := fb_rng (a_0); have e0 := k_0; rw [Int32.le_iff_toInt_le, z1] at e0; obtain ⟨n_0, hn_0, s0⟩ := nd_add (x := (a_0)) (y := (1 : Int32)) (by (try rw [z0]); omega) (by (try rw [z0]); omega); rw [z0] at s0; rw [hn_0]; (try rw [z1]); omega)) v5_31 c_32) hm_31) (lv_sub hl [1, 2, 3, 4, 0] rfl)
          exact cut_31 4294967296 (0 : Int32) _ _ _ _ _ hP hD hS hO_0 Ext.rf (by decide +kernel) (by decide +kernel) (by exact ms_0 _ _) (lv_sub hl [2, 3, 4, 1, 0] rfl)
      · refine lv_iload_n hx hb d_Md_part_10 rfl (lv_at hl 2 rfl) ?_
        refine lv_aload_n hx hb d_Md_part_11 rfl (lv_at hl 0 rfl) ?_
        refine tw_getr (D := (dC, dI)) (C := R_Md) (T := F_Md) (N := 64) (ci := 7) (kd := 27) (ct := ct) hx hb htb i_Md hown hK hP hO_0 m0 rfl rfl 18 (by decide) (htb (.fieldLink R_Md 85 "WaterMenModel" "shares" "[Z") tw_239) (fun _ h9 => h9) rfl d_Md_part_12 (fun q_56 e_56 m_56 => ?_)
        refine lv_iload_n hx hb d_Md_part_15 rfl (lv_at hl 3 rfl) ?_
        refine tw_aldZ (ct := ct) hx hb hK hP hO_0 m_56 rfl (hb_in iv0_1 c_2 (by decide +kernel)) d_Md_part_16 (fun x_57 e_57 b_57 => ?_)
        refine lv_if_eq (tgt := 24) hx hb d_Md_part_17 (by decide) (fun c_58 => ?_) (fun c_58 => ?_)
        · refine lv_iconst (v := 0) hx hb d_Md_part_24 (by decide +kernel) ?_
          refine lv_iadd hx hb d_Md_part_25 ?_
          refine lv_istore_n (lv' := [(2, .int (v2_1 + 0)), (0, .ref q0), (1, .int p_0), (3, .int v3_1)]) hx hb d_Md_part_26 rfl hl (by decide) rfl (fun ls hl => ?_)
          refine lv_iinc (v := (v3_1 + 1)) (lv' := [(3, .int (v3_1 + 1)), (2, .int (v2_1 + 0)), (0, .ref q0), (1, .int p_0)]) hx hb d_Md_part_27 hl (k := 3) rfl rfl (by decide) rfl (fun ls hl => ?_)
          refine lv_goto (tgt := 4) hx hb d_Md_part_30 (by decide) ?_
          exact ih_1 (n_1 - 1) (ms_1 ((fun (a_0 : Int32) (k_0 : ¬ (40 ≤ a_0)) => (show 1 ≤ (40 : Int32).toInt - (a_0).toInt ∧ (40 : Int32).toInt - ((a_0) + (1 : Int32)).toInt + 1 ≤ (40 : Int32).toInt - (a_0).toInt from by have z0 : (1 : Int32).toInt = 1 := (by decide +kernel); have z1 : (40 : Int32).toInt = 40 := (by decide +kernel); have r0 := fb_rng (a_0); have e0 := k_0; rw [Int32.le_iff_toInt_le, z1] at e0; obtain ⟨n_0, hn_0, s0⟩ := nd_add (x := (a_0)) (y := (1 : Int32)) (by (try rw [z0]); omega) (by (try rw [z0]); omega); rw [z0] at s0; rw [hn_0]; (try rw [z1]); omega)) v3_1 c_2) hm_1) (v2_1 + 0) (v3_1 + 1) _ (show ¬ ((v3_1 + 1) < 0) from by have e0 := iv0_1; rw [Int32.lt_iff_toInt_lt] at e0; have e1 := c_2; rw [Int32.le_iff_toInt_le] at e1; have z0 : (0 : Int32).toInt = 0 := (by decide +kernel); have z1 : (1 : Int32).toInt = 1 := (by decide +kernel); have z2 : (40 : Int32).toInt = 40 := (by decide +kernel); have ss := fb_addI (x := v3_1) (y := 1) (by omega) (by omega); rw [Int32.lt_iff_toInt_lt]; omega) (show ¬ (40 < (v3_1 + 1)) from by have e0 := iv0_1; rw [Int32.lt_iff_toInt_lt] at e0; have e1 := c_2; rw [Int32.le_iff_toInt_le] at e1; have z0 : (0 : Int32).toInt = 0 := (by decide +kernel); have z1 : (1 : Int32).toInt = 1 := (by decide +kernel); have z2 : (40 : Int32).toInt = 40 := (by decide +kernel); have ss := fb_addI (x := v3_1) (y := 1) (by omega) (by omega); rw [Int32.lt_iff_toInt_lt]; omega) (by exact ms_2 ((fun (a_0 : Int32) (k_0 : ¬ (40 ≤ a_0)) => (show 1 ≤ (40 : Int32).toInt - (a_0).toInt ∧ (40 : Int32).toInt - ((a_0) + (1 : Int32)).toInt + 1 ≤ (40 : Int32).toInt - (a_0).toInt from by have z0 : (1 : Int32).toInt = 1 := (by decide +kernel); have z1 : (40 : Int32).toInt = 40 := (by decide +kernel); have r0 := fb_rng (a_0); have e0 := k_0; rw [Int32.le_iff_toInt_le, z1] at e0; obtain ⟨n_0, hn_0, s0⟩ := nd_add (x := (a_0)) (y := (1 : Int32)) (by (try rw [z0]); omega) (by (try rw [z0]); omega); rw [z0] at s0; rw [hn_0]; (try rw [z1]); omega)) v3_1 c_2) hm_1) (lv_sub hl [2, 3, 1, 0] rfl)
        · refine lv_iconst (v := 1) hx hb d_Md_part_20 (by decide +kernel) ?_
          refine lv_goto (tgt := 25) hx hb d_Md_part_21 (by decide) ?_
          refine lv_iadd hx hb d_Md_part_25 ?_
          refine lv_istore_n (lv' := [(2, .int (v2_1 + 1)), (0, .ref q0), (1, .int p_0), (3, .int v3_1)]) hx hb d_Md_part_26 rfl hl (by decide) rfl (fun ls hl => ?_)
          refine lv_iinc (v := (v3_1 + 1)) (lv' := [(3, .int (v3_1 + 1)), (2, .int (v2_1 + 1)), (0, .ref q0), (1, .int p_0)]) hx hb d_Md_part_27 hl (k := 3) rfl rfl (by decide) rfl (fun ls hl => ?_)
          refine lv_goto (tgt := 4) hx hb d_Md_part_30 (by decide) ?_
          exact ih_1 (n_1 - 1) (ms_1 ((fun (a_0 : Int32) (k_0 : ¬ (40 ≤ a_0)) => (show 1 ≤ (40 : Int32).toInt - (a_0).toInt ∧ (40 : Int32).toInt - ((a_0) + (1 : Int32)).toInt + 1 ≤ (40 : Int32).toInt - (a_0).toInt from by have z0 : (1 : Int32).toInt = 1 := (by decide +kernel); have z1 : (40 : Int32).toInt = 40 := (by decide +kernel); have r0 := fb_rng (a_0); have e0 := k_0; rw [Int32.le_iff_toInt_le, z1] at e0; obtain ⟨n_0, hn_0, s0⟩ := nd_add (x := (a_0)) (y := (1 : Int32)) (by (try rw [z0]); omega) (by (try rw [z0]); omega); rw [z0] at s0; rw [hn_0]; (try rw [z1]); omega)) v3_1 c_2) hm_1) (v2_1 + 1) (v3_1 + 1) _ (show ¬ ((v3_1 + 1) < 0) from by have e0 := iv0_1; rw [Int32.lt_iff_toInt_lt] at e0; have e1 := c_2; rw [Int32.le_iff_toInt_le] at e1; have z0 : (0 : Int32).toInt = 0 := (by decide +kernel); have z1 : (1 : Int32).toInt = 1 := (by decide +kernel); have z2 : (40 : Int32).toInt = 40 := (by decide +kernel); have ss := fb_addI (x := v3_1) (y := 1) (by omega) (by omega); rw [Int32.lt_iff_toInt_lt]; omega) (show ¬ (40 < (v3_1 + 1)) from by have e0 := iv0_1; rw [Int32.lt_iff_toInt_lt] at e0; have e1 := c_2; rw [Int32.le_iff_toInt_le] at e1; have z0 : (0 : Int32).toInt = 0 := (by decide +kernel); have z1 : (1 : Int32).toInt = 1 := (by decide +kernel); have z2 : (40 : Int32).toInt = 40 := (by decide +kernel); have ss := fb_addI (x := v3_1) (y := 1) (by omega) (by omega); rw [Int32.lt_iff_toInt_lt]; omega) (by exact ms_2 ((fun (a_0 : Int32) (k_0 : ¬ (40 ≤ a_0)) => (show 1 ≤ (40 : Int32).toInt - (a_0).toInt ∧ (40 : Int32).toInt - ((a_0) + (1 : Int32)).toInt + 1 ≤ (40 : Int32).toInt - (a_0).toInt from by have z0 : (1 : Int32).toInt = 1 := (by decide +kernel); have z1 : (40 : Int32).toInt = 40 := (by decide +kernel); have r0 := fb_rng (a_0); have e0 := k_0; rw [Int32.le_iff_toInt_le, z1] at e0; obtain ⟨n_0, hn_0, s0⟩ := nd_add (x := (a_0)) (y := (1 : Int32)) (by (try rw [z0]); omega) (by (try rw [z0]); omega); rw [z0] at s0; rw [hn_0]; (try rw [z1]); omega)) v3_1 c_2) hm_1) (lv_sub hl [2, 3, 1, 0] rfl)
  exact cut_1 4294967296 (0 : Int32) (0 : Int32) _ (by decide +kernel) (by decide +kernel) (by exact ms_0 _ _) (lv_sub hl [2, 3, 1, 0] rfl)
