def WL_Bx_payPensions_w_10_2 : List (Nat × Nat) := [(12, 0), (12, 3), (26, 2)]
def W_Bx_payPensions_w : List (Nat × Nat) := [(12, 0), (12, 3), (26, 2)]
def wpB_Bx_payPensions_w_10_2 (L : List Nat) (f : TF) (q0 : Nat) (p_0 : Int32) (Q : List Nat → TF → Prop) (rec_2 : Int32 → List Nat → TF → Prop) (v2_2 : Int32) (L_1 : List Nat) (f_1 : TF) : Prop := Ok L_1 f_1 → Ext WL_Bx_payPensions_w_10_2 L f L_1 f_1 → ∀ x_3 : Int32, ti f_1 q0 6 = x_3 → ((x_3 ≤ v2_2 → Q L_1 f_1) ∧ (¬ (x_3 ≤ v2_2) → wp_Bx_pensionerAt_w L_1 f_1 q0 v2_2 (fun (r_5 : Option Nat) => ((r_5 = none → rec_2 (v2_2 + 1) L_1 f_1) ∧ (∀ q_5 : Nat, r_5 = some q_5 → ∀ x_6 : Int32, ti f_1 q_5 1 = x_6 → ((x_6 ≤ p_0 → rec_2 (v2_2 + 1) L_1 f_1) ∧ (¬ (x_6 ≤ p_0) → ∀ x_8 : Int32, ti f_1 q_5 0 = x_8 → ∀ x_9 : Int32, ti f_1 q0 0 = x_9 → ((x_9 < x_8 → rec_2 (v2_2 + 1) L_1 f_1) ∧ (¬ (x_9 < x_8) → ∀ f_2 : TF, f_2 = sI f_1 q0 0 (x_9 - x_8) → Ok L_1 f_2 → ∀ x_12 : Int32, ti f_2 q_5 2 = x_12 → ∀ f_3 : TF, f_3 = sI f_2 q_5 2 (x_12 + x_8) → Ok L_1 f_3 → ∀ x_14 : Int32, ti f_3 q0 3 = x_14 → ∀ f_4 : TF, f_4 = sI f_3 q0 3 (x_14 + x_8) → Ok L_1 f_4 → rec_2 (v2_2 + 1) L_1 f_4)))))))))
def wpL_Bx_payPensions_w_10_2 (L : List Nat) (f : TF) (q0 : Nat) (p_0 : Int32) (Q : List Nat → TF → Prop) : Nat → Int32 → List Nat → TF → Prop
  | 0 => fun v2_2 L_1 f_1 => wpB_Bx_payPensions_w_10_2 L f q0 p_0 Q (fun _ _ _ => True) v2_2 L_1 f_1
  | n + 1 => fun v2_2 L_1 f_1 => wpB_Bx_payPensions_w_10_2 L f q0 p_0 Q (wpL_Bx_payPensions_w_10_2 L f q0 p_0 Q n) v2_2 L_1 f_1
def wpR_Bx_payPensions_w_10_2 (L : List Nat) (f : TF) (q0 : Nat) (p_0 : Int32) (Q : List Nat → TF → Prop) : Nat → Int32 → List Nat → TF → Prop
  | 0 => fun _ _ _ => True
  | n + 1 => wpL_Bx_payPensions_w_10_2 L f q0 p_0 Q n
theorem wpL_Bx_payPensions_w_10_2_eq {L : List Nat} {f : TF} {q0 : Nat} {p_0 : Int32} {Q : List Nat → TF → Prop} {n : Nat} : wpL_Bx_payPensions_w_10_2 L f q0 p_0 Q n = wpB_Bx_payPensions_w_10_2 L f q0 p_0 Q (wpR_Bx_payPensions_w_10_2 L f q0 p_0 Q n) := by cases n <;> rfl
theorem wpR_Bx_payPensions_w_10_2_pos {L : List Nat} {f : TF} {q0 : Nat} {p_0 : Int32} {Q : List Nat → TF → Prop} {n : Nat} (h : 0 < n) : wpR_Bx_payPensions_w_10_2 L f q0 p_0 Q n = wpL_Bx_payPensions_w_10_2 L f q0 p_0 Q (n - 1) := by
  cases n with
  | zero => omega
  | succ n => rfl
def wp_Bx_payPensions_w (L : List Nat) (f : TF) (q0 : Nat) (p_0 : Int32) (Q : List Nat → TF → Prop) : Prop := (((p_0 - p_0 / 100 * 100) = 0 → wpL_Bx_payPensions_w_10_2 L f q0 p_0 Q (((30 : Int32).toInt - (0 : Int32).toInt).toNat) (0 : Int32) L f) ∧ (¬ ((p_0 - p_0 / 100 * 100) = 0) → Q L f))
set_option maxHeartbeats 4000000 in
set_option maxRecDepth 100000 in
theorem c_Bx_payPensions_w (l : Launch) (dC : Nat → ClassId) (dI : Nat → Nat → Nat) (ct : Nat → ClassId) (L : List Nat) (f : TF) (hO_0 : Ok L f) (q0 : Nat) (m0 : q0 ∈ L ∧ tk f q0 = 12) (sz : Nat) (p_0 : Int32)   (Q : List Nat → TF → Prop) (hQ : wp_Bx_payPensions_w L f q0 p_0 Q) : Met l y_Bx_payPensions (.code y_Bx_payPensions b_Bx_payPensions 4 none :: TB) ({ frames := 1, cells := 0, slots := 0, locals := 21 }) (va_Pc [.ref q0, .int p_0] (PC dC dI (TW ct L f) (TT ct) sz)) (va_Qv (fun (u : TSt) => Ok u.1 u.2 ∧ Ext W_Bx_payPensions_w L f u.1 u.2 ∧ (True) ∧ Q u.1 u.2) (fun (u : TSt) t => va_P (dC, dI) vwCl (TW ct u.1 u.2) t.heap ∧ va_K (dC, dI) vwCl (TT ct) t ∧ va_D (va_A (TW ct L f) sz) (TW ct u.1 u.2)) (va_A (TW ct L f) sz)) 0 0 (va_A (TW ct L f) sz) := by
  refine Met.ofW (cc := b_Bx_payPensions) (maxL := 4) (ret := none) (by decide) rfl ?_
  intro p e s m args below meth c s₁ B hml hv
  obtain ⟨rfl, hsz, hP, hK, hD0, hN⟩ := hv
  have hx := B.exec
  have hb := B.bytes
  have hr := B.returns
  have hts := atoms_spec (ws := (.code y_Bx_payPensions b_Bx_payPensions 4 none :: TB)) B.pre
  have htb := fun w (h : w ∈ TB) => hts w (List.mem_cons_of_mem _ h)
  have hown : s.vm.findClass R_Bx = some m.cls := findClass_of_methodNamed B.named
  have hlocks := B.notSynchronized
  have hl := lv_entry ([.ref q0, .int p_0]) (n := 4) (Nat.le_of_ble_eq_true rfl)
  rw [lg_entry_eq]
  generalize (lg_sl ([.ref q0, .int p_0]) ++ List.replicate (4 - (lg_sl ([.ref q0, .int p_0])).length) Slot.unset).toArray = ls at hl ⊢
  have hl : lv_has ls 4 [(0, .ref q0), (1, .int p_0)] := hl
  subst hsz
  have hD := hD0.self (sz := s.heap.size)
  obtain ⟨A, hAe⟩ : ∃ A, va_A (TW ct L f) s.heap.size = A := ⟨_, rfl⟩
  rw [hAe] at hD
  have hA : ∀ q : Nat, s.heap.size ≤ q → A q := fun q h => by rw [← hAe]; exact Or.inr h
  have hS : va_S A s.heap s.heap [] := va_S.rf
  have hA_0 : Ext [] L f L f := Ext.rf
  suffices hGo : ∀ (H : Heap) (locs : List Loc), va_P (dC, dI) vwCl (TW ct L f) H → va_S A s.heap H locs → W p l e (headSpec (.code y_Bx_payPensions b_Bx_payPensions 4 none :: TB) ({ frames := 1, cells := 0, slots := 0, locals := 21 })).room s m [.ref q0, .int p_0].toArray below meth c H locs 0 0 (MQ below (va_Qv (fun (u : TSt) => Ok u.1 u.2 ∧ Ext W_Bx_payPensions_w L f u.1 u.2 ∧ (True) ∧ Q u.1 u.2) (fun (u : TSt) t => va_P (dC, dI) vwCl (TW ct u.1 u.2) t.heap ∧ va_K (dC, dI) vwCl (TT ct) t ∧ va_D (va_A (TW ct L f) s.heap.size) (TW ct u.1 u.2)) (va_A (TW ct L f) s.heap.size)) [.ref q0, .int p_0].toArray s 0 0 (va_A (TW ct L f) s.heap.size)) (F0 m 0 ls []) from hGo _ _ hP hS
  clear hP hS
  intro H locs hP hS
  unfold wp_Bx_payPensions_w at hQ
  refine lv_iload_n hx hb d_Bx_payPensions_0 rfl (lv_at hl 1 rfl) ?_
  refine lv_bipush (v := 100) hx hb d_Bx_payPensions_1 (by decide +kernel) ?_
  refine lv_irem hx hb d_Bx_payPensions_3 (by decide) ?_
  refine lv_if_eq (tgt := 8) hx hb d_Bx_payPensions_4 (by decide) (fun c_1 => ?_) (fun c_1 => ?_)
  · have hQ := hQ.1 c_1
    refine lv_iconst (v := 0) hx hb d_Bx_payPensions_8 (by decide +kernel) ?_
    refine lv_istore_n (lv' := [(2, .int 0), (0, .ref q0), (1, .int p_0)]) hx hb d_Bx_payPensions_9 rfl hl (by decide) rfl (fun ls hl => ?_)
    have cut_2 : ∀ (n_2 : Nat) (v2_2 : Int32) (L_1 : List Nat) (f_1 : TF) (H : Heap) (locs : List Loc) (ls : Array Slot), va_P (dC, dI) vwCl (TW ct L_1 f_1) H → va_D A (TW ct L_1 f_1) → va_S A s.heap H locs → Ok L_1 f_1 → Ext WL_Bx_payPensions_w_10_2 L f L_1 f_1 → ¬ (v2_2 < 0) → ¬ (30 < v2_2) → (30 : Int32).toInt - (v2_2 : Int32).toInt ≤ (n_2 : Int) → wpL_Bx_payPensions_w_10_2 L f q0 p_0 Q n_2 v2_2 L_1 f_1 → lv_has ls 4 [(0, .ref q0), (1, .int p_0), (2, .int v2_2)] → W p l e (headSpec (.code y_Bx_payPensions b_Bx_payPensions 4 none :: TB) ({ frames := 1, cells := 0, slots := 0, locals := 21 })).room s m [.ref q0, .int p_0].toArray below meth c H locs 0 0 (MQ below (va_Qv (fun (u : TSt) => Ok u.1 u.2 ∧ Ext W_Bx_payPensions_w L f u.1 u.2 ∧ (True) ∧ Q u.1 u.2) (fun (u : TSt) t => va_P (dC, dI) vwCl (TW ct u.1 u.2) t.heap ∧ va_K (dC, dI) vwCl (TT ct) t ∧ va_D (va_A (TW ct L f) s.heap.size) (TW ct u.1 u.2)) (va_A (TW ct L f) s.heap.size)) [.ref q0, .int p_0].toArray s 0 0 (va_A (TW ct L f) s.heap.size)) (F0 m 10 ls []) := by
      intro n_2
      induction n_2 using Nat.strongRecOn with
      | _ n_2 ih_2 =>
        intro v2_2 L_1 f_1 H locs ls hP hD hS hO_1 hE_1 iv0_2 iv1_2 hm_2 hQ hl
        have hA_1 := hA_0.trans hE_1
        rw [wpL_Bx_payPensions_w_10_2_eq] at hQ
        obtain ⟨rec_2, hrec_2⟩ : ∃ g, wpR_Bx_payPensions_w_10_2 L f q0 p_0 Q n_2 = g := ⟨_, rfl⟩
        rw [hrec_2] at hQ
        unfold wpB_Bx_payPensions_w_10_2 at hQ
        have hQ := hQ hO_1 hE_1
        refine lv_iload_n hx hb d_Bx_payPensions_10 rfl (lv_at hl 2 rfl) ?_
        refine lv_aload_n hx hb d_Bx_payPensions_11 rfl (lv_at hl 0 rfl) ?_
        refine tw_geti (D := (dC, dI)) (C := R_Bx) (T := F_Bx) (N := 7) (ci := 5) (kd := 12) (ct := ct) hx hb htb i_Bx hown hK hP hO_1 (hA_1.m m0) rfl rfl 6 (by decide) (htb (.fieldLink R_Bx 29 "WaterMen$Box" "pensionerCount" "I") tw_179) (fun _ h9 => h9) rfl d_Bx_payPensions_12 (fun x_3 e_3 b_3 => ?_)
        have hQ := hQ x_3 e_3
        refine lv_icmp_ge (tgt := 92) hx hb d_Bx_payPensions_15 (by decide) (fun c_4 => ?_) (fun c_4 => ?_)
        · have hQ := hQ.1 c_4
          refine W.widen (k := 0) (n := 0) (Nat.le_of_ble_eq_true rfl) (Nat.le_of_ble_eq_true rfl) ?_
          exact W.vret hx hb hr (fun t ht hW => ⟨⟨(L_1, f_1), rfl, ⟨hO_1, hA_1.mono (by decide +kernel), trivial, hQ⟩, by rw [ht]; exact hP, va_K.moved hW.alike hK, by rw [hAe]; exact hD⟩, by rw [hAe]; exact hS.F ht⟩) (by rw [hAe]; exact hS.2.2) d_Bx_payPensions_92
        · have hQ := hQ.2 c_4
          refine lv_aload_n hx hb d_Bx_payPensions_18 rfl (lv_at hl 0 rfl) ?_
          refine lv_iload_n hx hb d_Bx_payPensions_19 rfl (lv_at hl 2 rfl) ?_
          refine va_csq (va_Run.run (va_runV (As := [.int v2_2]) (rest := []) ⟨hx, hb, hml, hown, htb⟩ (c_Bx_pensionerAt_w l dC dI ct L_1 f_1 hO_1 q0 (hA_1.m m0) v2_2 _ hQ) (cwV 1 htb (gd_V tw_182 tw_183 tw_184 tw_170 tw_181) rfl rfl rfl (by decide +kernel) ⟨Nat.le_of_ble_eq_true rfl, Nat.le_of_ble_eq_true rfl⟩) ⟨pr_blind, tw_recv hK hP (hA_1.m m0) rfl rfl, pr_pre hP hK hN⟩ rfl rfl hl.1 rfl (lv_room (Nat.le_of_ble_eq_true rfl)) d_Bx_payPensions_20 ⟨Nat.le_of_ble_eq_true rfl, Nat.le_of_ble_eq_true rfl⟩)) (fun r_5 er_5 => ?_)
          obtain ⟨er_5, hQ⟩ := er_5
          rcases er_5 with rfl | ⟨q_5, rfl, m_5⟩
          · have hQ := hQ.1 rfl
            refine hb_tv .null rfl ?_
            refine lv_astore_nN (lv' := [(3, .null), (0, .ref q0), (1, .int p_0), (2, .int v2_2)]) hx hb d_Bx_payPensions_23 rfl hl (by decide) rfl (fun ls hl => ?_)
            refine lv_aload_nN hx hb d_Bx_payPensions_24 rfl (lv_at hl 0 rfl) ?_
            refine lv_ifnullN (tgt := 86) hx hb d_Bx_payPensions_25 (by decide) ?_
            refine lv_iinc (v := (v2_2 + 1)) (lv' := [(2, .int (v2_2 + 1)), (3, .null), (0, .ref q0), (1, .int p_0)]) hx hb d_Bx_payPensions_86 hl (k := 3) rfl rfl (by decide) rfl (fun ls hl => ?_)
            refine lv_goto (tgt := 10) hx hb d_Bx_payPensions_89 (by decide) ?_
            exact ih_2 (n_2 - 1) (ms_1 ((fun (a_0 : Int32) (a_1 : Int32) (k_0 : ¬ (a_1 ≤ a_0)) (k_1 : ¬ (30 < a_1)) => (show 1 ≤ (30 : Int32).toInt - (a_0).toInt ∧ (30 : Int32).toInt - ((a_0) + (1 : Int32)).toInt + 1 ≤ (30 : Int32).toInt - (a_0).toInt from by have z0 : (1 : Int32).toInt = 1 := (by decide +kernel); have z1 : (30 : Int32).toInt = 30 := (by decide +kernel); have r0 := fb_rng (a_0); have r1 := fb_rng (a_1); have e0 := k_0; rw [Int32.le_iff_toInt_le] at e0; have e1 := k_1; rw [Int32.lt_iff_toInt_lt, z1] at e1; obtain ⟨n_0, hn_0, s0⟩ := nd_add (x := (a_0)) (y := (1 : Int32)) (by (try rw [z0]); omega) (by (try rw [z0]); omega); rw [z0] at s0; rw [hn_0]; (try rw [z1]); omega)) v2_2 x_3 c_4 b_3.2) hm_2) (v2_2 + 1) _ _ _ _ _ hP hD hS hO_1 (hE_1.mono (by decide +kernel)) (show ¬ ((v2_2 + 1) < 0) from by have e0 := iv0_2; rw [Int32.lt_iff_toInt_lt] at e0; have e1 := iv1_2; rw [Int32.lt_iff_toInt_lt] at e1; have z0 : (0 : Int32).toInt = 0 := (by decide +kernel); have z1 : (1 : Int32).toInt = 1 := (by decide +kernel); have z2 : (30 : Int32).toInt = 30 := (by decide +kernel); have ss := fb_addI (x := v2_2) (y := 1) (by omega) (by omega); rw [Int32.lt_iff_toInt_lt]; omega) (show ¬ (30 < (v2_2 + 1)) from ((fun (a_0 : Int32) (a_1 : Int32) (k_0 : ¬ (a_1 ≤ a_0)) (k_1 : ¬ (30 < a_1)) => (show ¬ (30 < (a_0 + 1)) from by have z0 : (1 : Int32).toInt = 1 := (by decide +kernel); have z1 : (30 : Int32).toInt = 30 := (by decide +kernel); have r0 := fb_rng (a_0); have r1 := fb_rng (a_1); have e0 := k_0; rw [Int32.le_iff_toInt_le] at e0; have e1 := k_1; rw [Int32.lt_iff_toInt_lt, z1] at e1; obtain ⟨n_0, hn_0, s0⟩ := nd_add (x := (a_0)) (y := (1 : Int32)) (by (try rw [z0]); omega) (by (try rw [z0]); omega); rw [z0] at s0; rw [hn_0, Int32.lt_iff_toInt_lt, z1]; omega)) v2_2 x_3 c_4 b_3.2)) (by exact ms_2 ((fun (a_0 : Int32) (a_1 : Int32) (k_0 : ¬ (a_1 ≤ a_0)) (k_1 : ¬ (30 < a_1)) => (show 1 ≤ (30 : Int32).toInt - (a_0).toInt ∧ (30 : Int32).toInt - ((a_0) + (1 : Int32)).toInt + 1 ≤ (30 : Int32).toInt - (a_0).toInt from by have z0 : (1 : Int32).toInt = 1 := (by decide +kernel); have z1 : (30 : Int32).toInt = 30 := (by decide +kernel); have r0 := fb_rng (a_0); have r1 := fb_rng (a_1); have e0 := k_0; rw [Int32.le_iff_toInt_le] at e0; have e1 := k_1; rw [Int32.lt_iff_toInt_lt, z1] at e1; obtain ⟨n_0, hn_0, s0⟩ := nd_add (x := (a_0)) (y := (1 : Int32)) (by (try rw [z0]); omega) (by (try rw [z0]); omega); rw [z0] at s0; rw [hn_0]; (try rw [z1]); omega)) v2_2 x_3 c_4 b_3.2) hm_2) (by rw [← hrec_2, wpR_Bx_payPensions_w_10_2_pos (ms_3 ((fun (a_0 : Int32) (a_1 : Int32) (k_0 : ¬ (a_1 ≤ a_0)) (k_1 : ¬ (30 < a_1)) => (show 1 ≤ (30 : Int32).toInt - (a_0).toInt ∧ (30 : Int32).toInt - ((a_0) + (1 : Int32)).toInt + 1 ≤ (30 : Int32).toInt - (a_0).toInt from by have z0 : (1 : Int32).toInt = 1 := (by decide +kernel); have z1 : (30 : Int32).toInt = 30 := (by decide +kernel); have r0 := fb_rng (a_0); have r1 := fb_rng (a_1); have e0 := k_0; rw [Int32.le_iff_toInt_le] at e0; have e1 := k_1; rw [Int32.lt_iff_toInt_lt, z1] at e1; obtain ⟨n_0, hn_0, s0⟩ := nd_add (x := (a_0)) (y := (1 : Int32)) (by (try rw [z0]); omega) (by (try rw [z0]); omega); rw [z0] at s0; rw [hn_0]; (try rw [z1]); omega)) v2_2 x_3 c_4 b_3.2) hm_2)] at hQ; exact hQ) (lv_sub hl [2, 3, 0] rfl)
          · have hQ := hQ.2 q_5 rfl
            refine hb_tv (.ref q_5) rfl ?_
            refine lv_astore_n (lv' := [(3, .ref q_5), (0, .ref q0), (1, .int p_0), (2, .int v2_2)]) hx hb d_Bx_payPensions_23 rfl hl (by decide) rfl (fun ls hl => ?_)
            refine lv_aload_n hx hb d_Bx_payPensions_24 rfl (lv_at hl 0 rfl) ?_
            refine lv_ifnull hx hb d_Bx_payPensions_25 ?_
            refine lv_iload_n hx hb d_Bx_payPensions_28 rfl (lv_at hl 2 rfl) ?_
            refine lv_aload_n hx hb d_Bx_payPensions_29 rfl (lv_at hl 0 rfl) ?_
            refine tw_geti (D := (dC, dI)) (C := R_Pn) (T := F_Pn) (N := 3) (ci := 6) (kd := 26) (ct := ct) hx hb htb i_Pn hown hK hP hO_1 m_5 rfl rfl 1 (by decide) (htb (.fieldLink R_Bx 39 "WaterMen$Pensioner" "end" "I") tw_185) (fun _ h9 => h9) rfl d_Bx_payPensions_30 (fun x_6 e_6 b_6 => ?_)
            have hQ := hQ x_6 e_6
            refine lv_icmp_ge (tgt := 86) hx hb d_Bx_payPensions_33 (by decide) (fun c_7 => ?_) (fun c_7 => ?_)
            · have hQ := hQ.1 c_7
              refine lv_iinc (v := (v2_2 + 1)) (lv' := [(2, .int (v2_2 + 1)), (3, .ref q_5), (0, .ref q0), (1, .int p_0)]) hx hb d_Bx_payPensions_86 hl (k := 3) rfl rfl (by decide) rfl (fun ls hl => ?_)
              refine lv_goto (tgt := 10) hx hb d_Bx_payPensions_89 (by decide) ?_
              exact ih_2 (n_2 - 1) (ms_1 ((fun (a_0 : Int32) (a_1 : Int32) (k_0 : ¬ (a_1 ≤ a_0)) (k_1 : ¬ (30 < a_1)) => (show 1 ≤ (30 : Int32).toInt - (a_0).toInt ∧ (30 : Int32).toInt - ((a_0) + (1 : Int32)).toInt + 1 ≤ (30 : Int32).toInt - (a_0).toInt from by have z0 : (1 : Int32).toInt = 1 := (by decide +kernel); have z1 : (30 : Int32).toInt = 30 := (by decide +kernel); have r0 := fb_rng (a_0); have r1 := fb_rng (a_1); have e0 := k_0; rw [Int32.le_iff_toInt_le] at e0; have e1 := k_1; rw [Int32.lt_iff_toInt_lt, z1] at e1; obtain ⟨n_0, hn_0, s0⟩ := nd_add (x := (a_0)) (y := (1 : Int32)) (by (try rw [z0]); omega) (by (try rw [z0]); omega); rw [z0] at s0; rw [hn_0]; (try rw [z1]); omega)) v2_2 x_3 c_4 b_3.2) hm_2) (v2_2 + 1) _ _ _ _ _ hP hD hS hO_1 (hE_1.mono (by decide +kernel)) (show ¬ ((v2_2 + 1) < 0) from by have e0 := iv0_2; rw [Int32.lt_iff_toInt_lt] at e0; have e1 := iv1_2; rw [Int32.lt_iff_toInt_lt] at e1; have z0 : (0 : Int32).toInt = 0 := (by decide +kernel); have z1 : (1 : Int32).toInt = 1 := (by decide +kernel); have z2 : (30 : Int32).toInt = 30 := (by decide +kernel); have ss := fb_addI (x := v2_2) (y := 1) (by omega) (by omega); rw [Int32.lt_iff_toInt_lt]; omega) (show ¬ (30 < (v2_2 + 1)) from ((fun (a_0 : Int32) (a_1 : Int32) (k_0 : ¬ (a_1 ≤ a_0)) (k_1 : ¬ (30 < a_1)) => (show ¬ (30 < (a_0 + 1)) from by have z0 : (1 : Int32).toInt = 1 := (by decide +kernel); have z1 : (30 : Int32).toInt = 30 := (by decide +kernel); have r0 := fb_rng (a_0); have r1 := fb_rng (a_1); have e0 := k_0; rw [Int32.le_iff_toInt_le] at e0; have e1 := k_1; rw [Int32.lt_iff_toInt_lt, z1] at e1; obtain ⟨n_0, hn_0, s0⟩ := nd_add (x := (a_0)) (y := (1 : Int32)) (by (try rw [z0]); omega) (by (try rw [z0]); omega); rw [z0] at s0; rw [hn_0, Int32.lt_iff_toInt_lt, z1]; omega)) v2_2 x_3 c_4 b_3.2)) (by exact ms_2 ((fun (a_0 : Int32) (a_1 : Int32) (k_0 : ¬ (a_1 ≤ a_0)) (k_1 : ¬ (30 < a_1)) => (show 1 ≤ (30 : Int32).toInt - (a_0).toInt ∧ (30 : Int32).toInt - ((a_0) + (1 : Int32)).toInt + 1 ≤ (30 : Int32).toInt - (a_0).toInt from by have z0 : (1 : Int32).toInt = 1 := (by decide +kernel); have z1 : (30 : Int32).toInt = 30 := (by decide +kernel); have r0 := fb_rng (a_0); have r1 := fb_rng (a_1); have e0 := k_0; rw [Int32.le_iff_toInt_le] at e0; have e1 := k_1; rw [Int32.lt_iff_toInt_lt, z1] at e1; obtain ⟨n_0, hn_0, s0⟩ := nd_add (x := (a_0)) (y := (1 : Int32)) (by (try rw [z0]); omega) (by (try rw [z0]); omega); rw [z0] at s0; rw [hn_0]; (try rw [z1]); omega)) v2_2 x_3 c_4 b_3.2) hm_2) (by rw [← hrec_2, wpR_Bx_payPensions_w_10_2_pos (ms_3 ((fun (a_0 : Int32) (a_1 : Int32) (k_0 : ¬ (a_1 ≤ a_0)) (k_1 : ¬ (30 < a_1)) => (show 1 ≤ (30 : Int32).toInt - (a_0).toInt ∧ (30 : Int32).toInt - ((a_0) + (1 : Int32)).toInt + 1 ≤ (30 : Int32).toInt - (a_0).toInt from by have z0 : (1 : Int32).toInt = 1 := (by decide +kernel); have z1 : (30 : Int32).toInt = 30 := (by decide +kernel); have r0 := fb_rng (a_0); have r1 := fb_rng (a_1); have e0 := k_0; rw [Int32.le_iff_toInt_le] at e0; have e1 := k_1; rw [Int32.lt_iff_toInt_lt, z1] at e1; obtain ⟨n_0, hn_0, s0⟩ := nd_add (x := (a_0)) (y := (1 : Int32)) (by (try rw [z0]); omega) (by (try rw [z0]); omega); rw [z0] at s0; rw [hn_0]; (try rw [z1]); omega)) v2_2 x_3 c_4 b_3.2) hm_2)] at hQ; exact hQ) (lv_sub hl [2, 3, 0] rfl)
            · have hQ := hQ.2 c_7
              refine lv_aload_n hx hb d_Bx_payPensions_36 rfl (lv_at hl 0 rfl) ?_
              refine tw_geti (D := (dC, dI)) (C := R_Pn) (T := F_Pn) (N := 3) (ci := 6) (kd := 26) (ct := ct) hx hb htb i_Pn hown hK hP hO_1 m_5 rfl rfl 0 (by decide) (htb (.fieldLink R_Bx 42 "WaterMen$Pensioner" "pension" "I") tw_186) (fun _ h9 => h9) rfl d_Bx_payPensions_37 (fun x_8 e_8 b_8 => ?_)
              have hQ := hQ x_8 e_8
              refine lv_aload_n hx hb d_Bx_payPensions_40 rfl (lv_at hl 1 rfl) ?_
              refine tw_geti (D := (dC, dI)) (C := R_Bx) (T := F_Bx) (N := 7) (ci := 5) (kd := 12) (ct := ct) hx hb htb i_Bx hown hK hP hO_1 (hA_1.m m0) rfl rfl 0 (by decide) (htb (.fieldLink R_Bx 21 "WaterMen$Box" "coins" "I") tw_167) (fun _ h9 => h9) rfl d_Bx_payPensions_41 (fun x_9 e_9 b_9 => ?_)
              have hQ := hQ x_9 e_9
              refine lv_icmp_gt (tgt := 86) hx hb d_Bx_payPensions_44 (by decide) (fun c_10 => ?_) (fun c_10 => ?_)
              · have hQ := hQ.1 c_10
                refine lv_iinc (v := (v2_2 + 1)) (lv' := [(2, .int (v2_2 + 1)), (3, .ref q_5), (0, .ref q0), (1, .int p_0)]) hx hb d_Bx_payPensions_86 hl (k := 3) rfl rfl (by decide) rfl (fun ls hl => ?_)
                refine lv_goto (tgt := 10) hx hb d_Bx_payPensions_89 (by decide) ?_
                exact ih_2 (n_2 - 1) (ms_1 ((fun (a_0 : Int32) (a_1 : Int32) (k_0 : ¬ (a_1 ≤ a_0)) (k_1 : ¬ (30 < a_1)) => (show 1 ≤ (30 : Int32).toInt - (a_0).toInt ∧ (30 : Int32).toInt - ((a_0) + (1 : Int32)).toInt + 1 ≤ (30 : Int32).toInt - (a_0).toInt from by have z0 : (1 : Int32).toInt = 1 := (by decide +kernel); have z1 : (30 : Int32).toInt = 30 := (by decide +kernel); have r0 := fb_rng (a_0); have r1 := fb_rng (a_1); have e0 := k_0; rw [Int32.le_iff_toInt_le] at e0; have e1 := k_1; rw [Int32.lt_iff_toInt_lt, z1] at e1; obtain ⟨n_0, hn_0, s0⟩ := nd_add (x := (a_0)) (y := (1 : Int32)) (by (try rw [z0]); omega) (by (try rw [z0]); omega); rw [z0] at s0; rw [hn_0]; (try rw [z1]); omega)) v2_2 x_3 c_4 b_3.2) hm_2) (v2_2 + 1) _ _ _ _ _ hP hD hS hO_1 (hE_1.mono (by decide +kernel)) (show ¬ ((v2_2 + 1) < 0) from by have e0 := iv0_2; rw [Int32.lt_iff_toInt_lt] at e0; have e1 := iv1_2; rw [Int32.lt_iff_toInt_lt] at e1; have z0 : (0 : Int32).toInt = 0 := (by decide +kernel); have z1 : (1 : Int32).toInt = 1 := (by decide +kernel); have z2 : (30 : Int32).toInt = 30 := (by decide +kernel); have ss := fb_addI (x := v2_2) (y := 1) (by omega) (by omega); rw [Int32.lt_iff_toInt_lt]; omega) (show ¬ (30 < (v2_2 + 1)) from ((fun (a_0 : Int32) (a_1 : Int32) (k_0 : ¬ (a_1 ≤ a_0)) (k_1 : ¬ (30 < a_1)) => (show ¬ (30 < (a_0 + 1)) from by have z0 : (1 : Int32).toInt = 1 := (by decide +kernel); have z1 : (30 : Int32).toInt = 30 := (by decide +kernel); have r0 := fb_rng (a_0); have r1 := fb_rng (a_1); have e0 := k_0; rw [Int32.le_iff_toInt_le] at e0; have e1 := k_1; rw [Int32.lt_iff_toInt_lt, z1] at e1; obtain ⟨n_0, hn_0, s0⟩ := nd_add (x := (a_0)) (y := (1 : Int32)) (by (try rw [z0]); omega) (by (try rw [z0]); omega); rw [z0] at s0; rw [hn_0, Int32.lt_iff_toInt_lt, z1]; omega)) v2_2 x_3 c_4 b_3.2)) (by exact ms_2 ((fun (a_0 : Int32) (a_1 : Int32) (k_0 : ¬ (a_1 ≤ a_0)) (k_1 : ¬ (30 < a_1)) => (show 1 ≤ (30 : Int32).toInt - (a_0).toInt ∧ (30 : Int32).toInt - ((a_0) + (1 : Int32)).toInt + 1 ≤ (30 : Int32).toInt - (a_0).toInt from by have z0 : (1 : Int32).toInt = 1 := (by decide +kernel); have z1 : (30 : Int32).toInt = 30 := (by decide +kernel); have r0 := fb_rng (a_0); have r1 := fb_rng (a_1); have e0 := k_0; rw [Int32.le_iff_toInt_le] at e0; have e1 := k_1; rw [Int32.lt_iff_toInt_lt, z1] at e1; obtain ⟨n_0, hn_0, s0⟩ := nd_add (x := (a_0)) (y := (1 : Int32)) (by (try rw [z0]); omega) (by (try rw [z0]); omega); rw [z0] at s0; rw [hn_0]; (try rw [z1]); omega)) v2_2 x_3 c_4 b_3.2) hm_2) (by rw [← hrec_2, wpR_Bx_payPensions_w_10_2_pos (ms_3 ((fun (a_0 : Int32) (a_1 : Int32) (k_0 : ¬ (a_1 ≤ a_0)) (k_1 : ¬ (30 < a_1)) => (show 1 ≤ (30 : Int32).toInt - (a_0).toInt ∧ (30 : Int32).toInt - ((a_0) + (1 : Int32)).toInt + 1 ≤ (30 : Int32).toInt - (a_0).toInt from by have z0 : (1 : Int32).toInt = 1 := (by decide +kernel); have z1 : (30 : Int32).toInt = 30 := (by decide +kernel); have r0 := fb_rng (a_0); have r1 := fb_rng (a_1); have e0 := k_0; rw [Int32.le_iff_toInt_le] at e0; have e1 := k_1; rw [Int32.lt_iff_toInt_lt, z1] at e1; obtain ⟨n_0, hn_0, s0⟩ := nd_add (x := (a_0)) (y := (1 : Int32)) (by (try rw [z0]); omega) (by (try rw [z0]); omega); rw [z0] at s0; rw [hn_0]; (try rw [z1]); omega)) v2_2 x_3 c_4 b_3.2) hm_2)] at hQ; exact hQ) (lv_sub hl [2, 3, 0] rfl)
              · have hQ := hQ.2 c_10
                refine lv_aload_n hx hb d_Bx_payPensions_47 rfl (lv_at hl 1 rfl) ?_
                refine lv_dup hx hb d_Bx_payPensions_48 rfl ?_
                refine tw_getI (x := x_9) (D := (dC, dI)) (C := R_Bx) (T := F_Bx) (N := 7) (ci := 5) (kd := 12) (ct := ct) hx hb htb i_Bx hown hK hP (hA_1.m m0) rfl rfl 0 e_9 (by decide) (htb (.fieldLink R_Bx 21 "WaterMen$Box" "coins" "I") tw_167) (fun _ h9 => h9) rfl d_Bx_payPensions_49 ?_
                refine lv_aload_n hx hb d_Bx_payPensions_52 rfl (lv_at hl 0 rfl) ?_
                refine tw_getI (x := x_8) (D := (dC, dI)) (C := R_Pn) (T := F_Pn) (N := 3) (ci := 6) (kd := 26) (ct := ct) hx hb htb i_Pn hown hK hP m_5 rfl rfl 0 e_8 (by decide) (htb (.fieldLink R_Bx 42 "WaterMen$Pensioner" "pension" "I") tw_186) (fun _ h9 => h9) rfl d_Bx_payPensions_53 ?_
                refine lv_isub hx hb d_Bx_payPensions_56 ?_
                refine tw_puti (v := (x_9 - x_8)) (D := (dC, dI)) (C := R_Bx) (T := F_Bx) (N := 7) (ci := 5) (kd := 12) (ct := ct) (ty := .int) hx hb htb i_Bx t_Bx t_Bx_ok n_Bx hown hK hP hD hS hO_1 (hA_1.m m0) rfl rfl 0 (by decide) (htb (.fieldLink R_Bx 21 "WaterMen$Box" "coins" "I") tw_167) (fun _ h9 => h9) rfl (by decide +kernel) rfl rfl rfl (i32_full _) d_Bx_payPensions_57 (fun f_2 H locs hP hD hS hO_2 hE_2 w_11 hF_2 => ?_)
                have hA_2 := hA_1.trans hE_2
                have hQ := hQ f_2 hF_2
                have hQ := hQ hO_2
                refine lv_aload_n hx hb d_Bx_payPensions_60 rfl (lv_at hl 0 rfl) ?_
                refine lv_dup hx hb d_Bx_payPensions_61 rfl ?_
                refine tw_geti (D := (dC, dI)) (C := R_Pn) (T := F_Pn) (N := 3) (ci := 6) (kd := 26) (ct := ct) hx hb htb i_Pn hown hK hP hO_2 (hE_2.m m_5) rfl rfl 2 (by decide) (htb (.fieldLink R_Bx 45 "WaterMen$Pensioner" "got" "I") tw_187) (fun _ h9 => h9) rfl d_Bx_payPensions_62 (fun x_12 e_12 b_12 => ?_)
                have hQ := hQ x_12 e_12
                refine lv_aload_n hx hb d_Bx_payPensions_65 rfl (lv_at hl 0 rfl) ?_
                refine tw_getI (x := x_8) (D := (dC, dI)) (C := R_Pn) (T := F_Pn) (N := 3) (ci := 6) (kd := 26) (ct := ct) hx hb htb i_Pn hown hK hP (hE_2.m m_5) rfl rfl 0 ((hE_2.ei m_5 rfl).trans e_8) (by decide) (htb (.fieldLink R_Bx 42 "WaterMen$Pensioner" "pension" "I") tw_186) (fun _ h9 => h9) rfl d_Bx_payPensions_66 ?_
                refine lv_iadd hx hb d_Bx_payPensions_69 ?_
                refine tw_puti (v := (x_12 + x_8)) (D := (dC, dI)) (C := R_Pn) (T := F_Pn) (N := 3) (ci := 6) (kd := 26) (ct := ct) (ty := .int) hx hb htb i_Pn t_Pn t_Pn_ok n_Pn hown hK hP hD hS hO_2 (hE_2.m m_5) rfl rfl 2 (by decide) (htb (.fieldLink R_Bx 45 "WaterMen$Pensioner" "got" "I") tw_187) (fun _ h9 => h9) rfl (by decide +kernel) rfl rfl rfl (i32_full _) d_Bx_payPensions_70 (fun f_3 H locs hP hD hS hO_3 hE_3 w_13 hF_3 => ?_)
                have hA_3 := hA_2.trans hE_3
                have hQ := hQ f_3 hF_3
                have hQ := hQ hO_3
                refine lv_aload_n hx hb d_Bx_payPensions_73 rfl (lv_at hl 1 rfl) ?_
                refine lv_dup hx hb d_Bx_payPensions_74 rfl ?_
                refine tw_geti (D := (dC, dI)) (C := R_Bx) (T := F_Bx) (N := 7) (ci := 5) (kd := 12) (ct := ct) hx hb htb i_Bx hown hK hP hO_3 (hA_3.m m0) rfl rfl 3 (by decide) (htb (.fieldLink R_Bx 48 "WaterMen$Box" "allPensions" "I") tw_188) (fun _ h9 => h9) rfl d_Bx_payPensions_75 (fun x_14 e_14 b_14 => ?_)
                have hQ := hQ x_14 e_14
                refine lv_aload_n hx hb d_Bx_payPensions_78 rfl (lv_at hl 0 rfl) ?_
                refine tw_getI (x := x_8) (D := (dC, dI)) (C := R_Pn) (T := F_Pn) (N := 3) (ci := 6) (kd := 26) (ct := ct) hx hb htb i_Pn hown hK hP (hE_3.m (hE_2.m m_5)) rfl rfl 0 ((hE_3.ei (hE_2.m m_5) rfl).trans ((hE_2.ei m_5 rfl).trans e_8)) (by decide) (htb (.fieldLink R_Bx 42 "WaterMen$Pensioner" "pension" "I") tw_186) (fun _ h9 => h9) rfl d_Bx_payPensions_79 ?_
                refine lv_iadd hx hb d_Bx_payPensions_82 ?_
                refine tw_puti (v := (x_14 + x_8)) (D := (dC, dI)) (C := R_Bx) (T := F_Bx) (N := 7) (ci := 5) (kd := 12) (ct := ct) (ty := .int) hx hb htb i_Bx t_Bx t_Bx_ok n_Bx hown hK hP hD hS hO_3 (hA_3.m m0) rfl rfl 3 (by decide) (htb (.fieldLink R_Bx 48 "WaterMen$Box" "allPensions" "I") tw_188) (fun _ h9 => h9) rfl (by decide +kernel) rfl rfl rfl (i32_full _) d_Bx_payPensions_83 (fun f_4 H locs hP hD hS hO_4 hE_4 w_15 hF_4 => ?_)
                have hA_4 := hA_3.trans hE_4
                have hQ := hQ f_4 hF_4
                have hQ := hQ hO_4
                refine lv_iinc (v := (v2_2 + 1)) (lv' := [(2, .int (v2_2 + 1)), (3, .ref q_5), (0, .ref q0), (1, .int p_0)]) hx hb d_Bx_payPensions_86 hl (k := 3) rfl rfl (by decide) rfl (fun ls hl => ?_)
                refine lv_goto (tgt := 10) hx hb d_Bx_payPensions_89 (by decide) ?_
                exact ih_2 (n_2 - 1) (ms_1 ((fun (a_0 : Int32) (a_1 : Int32) (k_0 : ¬ (a_1 ≤ a_0)) (k_1 : ¬ (30 < a_1)) => (show 1 ≤ (30 : Int32).toInt - (a_0).toInt ∧ (30 : Int32).toInt - ((a_0) + (1 : Int32)).toInt + 1 ≤ (30 : Int32).toInt - (a_0).toInt from by have z0 : (1 : Int32).toInt = 1 := (by decide +kernel); have z1 : (30 : Int32).toInt = 30 := (by decide +kernel); have r0 := fb_rng (a_0); have r1 := fb_rng (a_1); have e0 := k_0; rw [Int32.le_iff_toInt_le] at e0; have e1 := k_1; rw [Int32.lt_iff_toInt_lt, z1] at e1; obtain ⟨n_0, hn_0, s0⟩ := nd_add (x := (a_0)) (y := (1 : Int32)) (by (try rw [z0]); omega) (by (try rw [z0]); omega); rw [z0] at s0; rw [hn_0]; (try rw [z1]); omega)) v2_2 x_3 c_4 b_3.2) hm_2) (v2_2 + 1) _ _ _ _ _ hP hD hS hO_4 ((((hE_1.trans hE_2).trans hE_3).trans hE_4).mono (by decide +kernel)) (show ¬ ((v2_2 + 1) < 0) from by have e0 := iv0_2; rw [Int32.lt_iff_toInt_lt] at e0; have e1 := iv1_2; rw [Int32.lt_iff_toInt_lt] at e1; have z0 : (0 : Int32).toInt = 0 := (by decide +kernel); have z1 : (1 : Int32).toInt = 1 := (by decide +kernel); have z2 : (30 : Int32).toInt = 30 := (by decide +kernel); have ss := fb_addI (x := v2_2) (y := 1) (by omega) (by omega); rw [Int32.lt_iff_toInt_lt]; omega) (show ¬ (30 < (v2_2 + 1)) from ((fun (a_0 : Int32) (a_1 : Int32) (k_0 : ¬ (a_1 ≤ a_0)) (k_1 : ¬ (30 < a_1)) => (show ¬ (30 < (a_0 + 1)) from by have z0 : (1 : Int32).toInt = 1 := (by decide +kernel); have z1 : (30 : Int32).toInt = 30 := (by decide +kernel); have r0 := fb_rng (a_0); have r1 := fb_rng (a_1); have e0 := k_0; rw [Int32.le_iff_toInt_le] at e0; have e1 := k_1; rw [Int32.lt_iff_toInt_lt, z1] at e1; obtain ⟨n_0, hn_0, s0⟩ := nd_add (x := (a_0)) (y := (1 : Int32)) (by (try rw [z0]); omega) (by (try rw [z0]); omega); rw [z0] at s0; rw [hn_0, Int32.lt_iff_toInt_lt, z1]; omega)) v2_2 x_3 c_4 b_3.2)) (by exact ms_2 ((fun (a_0 : Int32) (a_1 : Int32) (k_0 : ¬ (a_1 ≤ a_0)) (k_1 : ¬ (30 < a_1)) => (show 1 ≤ (30 : Int32).toInt - (a_0).toInt ∧ (30 : Int32).toInt - ((a_0) + (1 : Int32)).toInt + 1 ≤ (30 : Int32).toInt - (a_0).toInt from by have z0 : (1 : Int32).toInt = 1 := (by decide +kernel); have z1 : (30 : Int32).toInt = 30 := (by decide +kernel); have r0 := fb_rng (a_0); have r1 := fb_rng (a_1); have e0 := k_0; rw [Int32.le_iff_toInt_le] at e0; have e1 := k_1; rw [Int32.lt_iff_toInt_lt, z1] at e1; obtain ⟨n_0, hn_0, s0⟩ := nd_add (x := (a_0)) (y := (1 : Int32)) (by (try rw [z0]); omega) (by (try rw [z0]); omega); rw [z0] at s0; rw [hn_0]; (try rw [z1]); omega)) v2_2 x_3 c_4 b_3.2) hm_2) (by rw [← hrec_2, wpR_Bx_payPensions_w_10_2_pos (ms_3 ((fun (a_0 : Int32) (a_1 : Int32) (k_0 : ¬ (a_1 ≤ a_0)) (k_1 : ¬ (30 < a_1)) => (show 1 ≤ (30 : Int32).toInt - (a_0).toInt ∧ (30 : Int32).toInt - ((a_0) + (1 : Int32)).toInt + 1 ≤ (30 : Int32).toInt - (a_0).toInt from by have z0 : (1 : Int32).toInt = 1 := (by decide +kernel); have z1 : (30 : Int32).toInt = 30 := (by decide +kernel); have r0 := fb_rng (a_0); have r1 := fb_rng (a_1); have e0 := k_0; rw [Int32.le_iff_toInt_le] at e0; have e1 := k_1; rw [Int32.lt_iff_toInt_lt, z1] at e1; obtain ⟨n_0, hn_0, s0⟩ := nd_add (x := (a_0)) (y := (1 : Int32)) (by (try rw [z0]); omega) (by (try rw [z0]); omega); rw [z0] at s0; rw [hn_0]; (try rw [z1]); omega)) v2_2 x_3 c_4 b_3.2) hm_2)] at hQ; exact hQ) (lv_sub hl [2, 3, 0] rfl)
    exact cut_2 ((30 : Int32).toInt - (0 : Int32).toInt).toNat (0 : Int32) _ _ _ _ _ hP hD hS hO_0 Ext.rf (by decide +kernel) (by decide +kernel) (by exact ms_e _ _) hQ (lv_sub hl [1, 2, 0] rfl)
  · have hQ := hQ.2 c_1
    refine W.widen (k := 0) (n := 0) (Nat.le_of_ble_eq_true rfl) (Nat.le_of_ble_eq_true rfl) ?_
    exact W.vret hx hb hr (fun t ht hW => ⟨⟨(L, f), rfl, ⟨hO_0, hA_0.mono (by decide +kernel), trivial, hQ⟩, by rw [ht]; exact hP, va_K.moved hW.alike hK, by rw [hAe]; exact hD⟩, by rw [hAe]; exact hS.F ht⟩) (by rw [hAe]; exact hS.2.2) d_Bx_payPensions_7
def WL_WM_minutes_w_44_9 : List (Nat × Nat) := [(12, 0), (12, 1), (12, 3), (13, 1000), (20, 4), (26, 2)]
def W_WM_minutes_w : List (Nat × Nat) := [(0, 10), (12, 0), (12, 1), (12, 3), (13, 1000), (20, 4), (26, 2)]
def wpB_WM_minutes_w_44_9 (L : List Nat) (f : TF) (q0 : Nat) (p_0 : Int32) (x_3 : Int32) (y_5 : Int32) (r_6 : Int32) (Q : Int32 → List Nat → TF → Prop) (rec_9 : Int32 → List Nat → TF → Prop) (v3_9 : Int32) (L_1 : List Nat) (f_1 : TF) : Prop := Ok L_1 f_1 → Ext WL_WM_minutes_w_44_9 L f L_1 f_1 → ((y_5 < v3_9 → ∀ f_2 : TF, f_2 = sI f_1 q0 10 (x_3 + p_0) → Ok L_1 f_2 → Q (x_3 + p_0) L_1 f_2) ∧ (¬ (y_5 < v3_9) → wp_WM_partPot_w L_1 f_1 q0 (v3_9 - 1) (fun (L_2 : List Nat) (f_2 : TF) => Ok L_2 f_2 → Ext W_WM_partPot_w L_1 f_1 L_2 f_2 → ∀ q_13 : Nat, tr f_2 q0 6 = some q_13 → wp_Bx_payPensions_w L_2 f_2 q_13 v3_9 (fun (L_3 : List Nat) (f_3 : TF) => Ok L_3 f_3 → Ext W_Bx_payPensions_w L_2 f_2 L_3 f_3 → rec_9 (v3_9 + 1) L_3 f_3))))
def wpL_WM_minutes_w_44_9 (L : List Nat) (f : TF) (q0 : Nat) (p_0 : Int32) (x_3 : Int32) (y_5 : Int32) (r_6 : Int32) (Q : Int32 → List Nat → TF → Prop) : Nat → Int32 → List Nat → TF → Prop
  | 0 => fun v3_9 L_1 f_1 => wpB_WM_minutes_w_44_9 L f q0 p_0 x_3 y_5 r_6 Q (fun _ _ _ => True) v3_9 L_1 f_1
  | n + 1 => fun v3_9 L_1 f_1 => wpB_WM_minutes_w_44_9 L f q0 p_0 x_3 y_5 r_6 Q (wpL_WM_minutes_w_44_9 L f q0 p_0 x_3 y_5 r_6 Q n) v3_9 L_1 f_1
def wpR_WM_minutes_w_44_9 (L : List Nat) (f : TF) (q0 : Nat) (p_0 : Int32) (x_3 : Int32) (y_5 : Int32) (r_6 : Int32) (Q : Int32 → List Nat → TF → Prop) : Nat → Int32 → List Nat → TF → Prop
  | 0 => fun _ _ _ => True
  | n + 1 => wpL_WM_minutes_w_44_9 L f q0 p_0 x_3 y_5 r_6 Q n
theorem wpL_WM_minutes_w_44_9_eq {L : List Nat} {f : TF} {q0 : Nat} {p_0 : Int32} {x_3 : Int32} {y_5 : Int32} {r_6 : Int32} {Q : Int32 → List Nat → TF → Prop} {n : Nat} : wpL_WM_minutes_w_44_9 L f q0 p_0 x_3 y_5 r_6 Q n = wpB_WM_minutes_w_44_9 L f q0 p_0 x_3 y_5 r_6 Q (wpR_WM_minutes_w_44_9 L f q0 p_0 x_3 y_5 r_6 Q n) := by cases n <;> rfl
theorem wpR_WM_minutes_w_44_9_pos {L : List Nat} {f : TF} {q0 : Nat} {p_0 : Int32} {x_3 : Int32} {y_5 : Int32} {r_6 : Int32} {Q : Int32 → List Nat → TF → Prop} {n : Nat} (h : 0 < n) : wpR_WM_minutes_w_44_9 L f q0 p_0 x_3 y_5 r_6 Q n = wpL_WM_minutes_w_44_9 L f q0 p_0 x_3 y_5 r_6 Q (n - 1) := by
  cases n with
  | zero => omega
  | succ n => rfl
def wp_WM_minutes_w (L : List Nat) (f : TF) (q0 : Nat) (p_0 : Int32) (Q : Int32 → List Nat → TF → Prop) : Prop := ((p_0 < 1 → Q (-1) L f) ∧ (¬ (p_0 < 1) → ((1440 < p_0 → Q (-1) L f) ∧ (¬ (1440 < p_0) → ∀ x_3 : Int32, ti f q0 10 = x_3 → ((p_0 ≤ (359999 - x_3) → ∀ y_5 : Int32, y_5 = (x_3 + p_0) / 720 → wp_WM_today_w L f q0 (fun (r_6 : Int32) => (wpL_WM_minutes_w_44_9 L f q0 p_0 x_3 y_5 r_6 Q (((500 : Int32).toInt - ((r_6 + 1) : Int32).toInt).toNat) (r_6 + 1) L f))) ∧ (¬ (p_0 ≤ (359999 - x_3)) → Q (-1) L f))))))
set_option maxHeartbeats 4000000 in
set_option maxRecDepth 100000 in
theorem c_WM_minutes_w (l : Launch) (dC : Nat → ClassId) (dI : Nat → Nat → Nat) (ct : Nat → ClassId) (L : List Nat) (f : TF) (hO_0 : Ok L f) (q0 : Nat) (m0 : q0 ∈ L ∧ tk f q0 = 0) (sz : Nat) (p_0 : Int32)   (Q : Int32 → List Nat → TF → Prop) (hQ : wp_WM_minutes_w L f q0 p_0 Q) : Met l y_WM_minutes (.code y_WM_minutes b_WM_minutes 4 (some .int) :: TB) ({ frames := 3, cells := 0, slots := 0, locals := 67 }) (va_Pc [.ref q0, .int p_0] (PC dC dI (TW ct L f) (TT ct) sz)) (va_Qi (fun r (u : TSt) => Ok u.1 u.2 ∧ Ext W_WM_minutes_w L f u.1 u.2 ∧ (True) ∧ Q r u.1 u.2) (fun (u : TSt) t => va_P (dC, dI) vwCl (TW ct u.1 u.2) t.heap ∧ va_K (dC, dI) vwCl (TT ct) t ∧ va_D (va_A (TW ct L f) sz) (TW ct u.1 u.2)) (va_A (TW ct L f) sz)) 0 0 (va_A (TW ct L f) sz) := by
  refine Met.ofW (cc := b_WM_minutes) (maxL := 4) (ret := (some .int)) (by decide) rfl ?_
  intro p e s m args below meth c s₁ B hml hv
  obtain ⟨rfl, hsz, hP, hK, hD0, hN⟩ := hv
  have hx := B.exec
  have hb := B.bytes
  have hr := B.returns
  have hts := atoms_spec (ws := (.code y_WM_minutes b_WM_minutes 4 (some .int) :: TB)) B.pre
  have htb := fun w (h : w ∈ TB) => hts w (List.mem_cons_of_mem _ h)
  have hown : s.vm.findClass R_WM = some m.cls := findClass_of_methodNamed B.named
  have hlocks := B.notSynchronized
  have hl := lv_entry ([.ref q0, .int p_0]) (n := 4) (Nat.le_of_ble_eq_true rfl)
  rw [lg_entry_eq]
  generalize (lg_sl ([.ref q0, .int p_0]) ++ List.replicate (4 - (lg_sl ([.ref q0, .int p_0])).length) Slot.unset).toArray = ls at hl ⊢
  have hl : lv_has ls 4 [(0, .ref q0), (1, .int p_0)] := hl
  subst hsz
  have hD := hD0.self (sz := s.heap.size)
  obtain ⟨A, hAe⟩ : ∃ A, va_A (TW ct L f) s.heap.size = A := ⟨_, rfl⟩
  rw [hAe] at hD
  have hA : ∀ q : Nat, s.heap.size ≤ q → A q := fun q h => by rw [← hAe]; exact Or.inr h
  have hS : va_S A s.heap s.heap [] := va_S.rf
  have hA_0 : Ext [] L f L f := Ext.rf
  suffices hGo : ∀ (H : Heap) (locs : List Loc), va_P (dC, dI) vwCl (TW ct L f) H → va_S A s.heap H locs → W p l e (headSpec (.code y_WM_minutes b_WM_minutes 4 (some .int) :: TB) ({ frames := 3, cells := 0, slots := 0, locals := 67 })).room s m [.ref q0, .int p_0].toArray below meth c H locs 0 0 (MQ below (va_Qi (fun r (u : TSt) => Ok u.1 u.2 ∧ Ext W_WM_minutes_w L f u.1 u.2 ∧ (True) ∧ Q r u.1 u.2) (fun (u : TSt) t => va_P (dC, dI) vwCl (TW ct u.1 u.2) t.heap ∧ va_K (dC, dI) vwCl (TT ct) t ∧ va_D (va_A (TW ct L f) s.heap.size) (TW ct u.1 u.2)) (va_A (TW ct L f) s.heap.size)) [.ref q0, .int p_0].toArray s 0 0 (va_A (TW ct L f) s.heap.size)) (F0 m 0 ls []) from hGo _ _ hP hS
  clear hP hS
  intro H locs hP hS
  unfold wp_WM_minutes_w at hQ
  refine lv_iload_n hx hb d_WM_minutes_0 rfl (lv_at hl 1 rfl) ?_
  refine lv_iconst (v := 1) hx hb d_WM_minutes_1 (by decide +kernel) ?_
  refine lv_icmp_lt (tgt := 24) hx hb d_WM_minutes_2 (by decide) (fun c_1 => ?_) (fun c_1 => ?_)
  · have hQ := hQ.1 c_1
    refine lv_iconst (v := (-1)) hx hb d_WM_minutes_24 (by decide +kernel) ?_
    refine W.widen (k := 0) (n := 0) (Nat.le_of_ble_eq_true rfl) (Nat.le_of_ble_eq_true rfl) ?_
    exact W.iret (v := (-1)) hx hb hr (fun t ht hW => ⟨⟨(-1), (L, f), rfl, ⟨hO_0, hA_0.mono (by decide +kernel), trivial, hQ⟩, by rw [ht]; exact hP, va_K.moved hW.alike hK, by rw [hAe]; exact hD⟩, by rw [hAe]; exact hS.F ht⟩) (by rw [hAe]; exact hS.2.2) d_WM_minutes_25
  · have hQ := hQ.2 c_1
    refine lv_iload_n hx hb d_WM_minutes_5 rfl (lv_at hl 1 rfl) ?_
    refine lv_sipush (v := 1440) hx hb d_WM_minutes_6 (by decide +kernel) ?_
    refine lv_icmp_gt (tgt := 24) hx hb d_WM_minutes_9 (by decide) (fun c_2 => ?_) (fun c_2 => ?_)
    · have hQ := hQ.1 c_2
      refine lv_iconst (v := (-1)) hx hb d_WM_minutes_24 (by decide +kernel) ?_
      refine W.widen (k := 0) (n := 0) (Nat.le_of_ble_eq_true rfl) (Nat.le_of_ble_eq_true rfl) ?_
      exact W.iret (v := (-1)) hx hb hr (fun t ht hW => ⟨⟨(-1), (L, f), rfl, ⟨hO_0, hA_0.mono (by decide +kernel), trivial, hQ⟩, by rw [ht]; exact hP, va_K.moved hW.alike hK, by rw [hAe]; exact hD⟩, by rw [hAe]; exact hS.F ht⟩) (by rw [hAe]; exact hS.2.2) d_WM_minutes_25
    · have hQ := hQ.2 c_2
      refine lv_iload_n hx hb d_WM_minutes_12 rfl (lv_at hl 1 rfl) ?_
      refine lv_ldcw (v := 359999) hx hb hown (htb (.constant R_WM 270 359999) tw_161) d_WM_minutes_13 ?_
      refine lv_aload_n hx hb d_WM_minutes_16 rfl (lv_at hl 0 rfl) ?_
      refine tw_geti (D := (dC, dI)) (C := R_WM) (T := F_WM) (N := 13) (ci := 0) (kd := 0) (ct := ct) hx hb htb i_WM hown hK hP hO_0 m0 rfl rfl 10 (by decide) (htb (.fieldLink R_WM 155 "WaterMen" "now" "I") tw_40) (fun _ h9 => h9) rfl d_WM_minutes_17 (fun x_3 e_3 b_3 => ?_)
      have hQ := hQ x_3 e_3
      refine lv_isub hx hb d_WM_minutes_20 ?_
      refine lv_icmp_le (tgt := 26) hx hb d_WM_minutes_21 (by decide) (fun c_4 => ?_) (fun c_4 => ?_)
      · have hQ := hQ.1 c_4
        refine lv_aload_n hx hb d_WM_minutes_26 rfl (lv_at hl 0 rfl) ?_
        refine tw_getI (x := x_3) (D := (dC, dI)) (C := R_WM) (T := F_WM) (N := 13) (ci := 0) (kd := 0) (ct := ct) hx hb htb i_WM hown hK hP m0 rfl rfl 10 e_3 (by decide) (htb (.fieldLink R_WM 155 "WaterMen" "now" "I") tw_40) (fun _ h9 => h9) rfl d_WM_minutes_27 ?_
        refine lv_iload_n hx hb d_WM_minutes_30 rfl (lv_at hl 1 rfl) ?_
        refine lv_iadd hx hb d_WM_minutes_31 ?_
        refine lv_sipush (v := 720) hx hb d_WM_minutes_32 (by decide +kernel) ?_
        refine lv_idiv hx hb d_WM_minutes_35 (by decide) ?_
        refine hb_divn (U := 359999) (Qm := 499) (c := 720) (C1 := 719) (K := 2147482927) (by decide +kernel) (by decide +kernel) (by decide +kernel) (show ¬ ((x_3 + p_0) < 0) from ((fun (a_0 : Int32) (a_1 : Int32) (k_0 : ¬ (a_0 < 1)) (k_1 : ¬ (a_1 < 0)) (k_2 : a_0 ≤ (359999 - a_1)) => (show ¬ ((a_1 + a_0) < 0) from by have z0 : (0 : Int32).toInt = 0 := (by decide +kernel); have z1 : (1 : Int32).toInt = 1 := (by decide +kernel); have z2 : (359999 : Int32).toInt = 359999 := (by decide +kernel); have r0 := fb_rng (a_0); have r1 := fb_rng (a_1); have e0 := k_0; rw [Int32.lt_iff_toInt_lt, z1] at e0; have e1 := k_1; rw [Int32.lt_iff_toInt_lt, z0] at e1; obtain ⟨n_0, hn_0, s0⟩ := nd_sub (x := (359999 : Int32)) (y := (a_1)) (by (try rw [z2]); omega) (by (try rw [z2]); omega); rw [z2] at s0; have e2 := k_2; rw [hn_0, Int32.le_iff_toInt_le] at e2; obtain ⟨n_1, hn_1, s1⟩ := nd_add (x := (a_1)) (y := (a_0)) (by omega) (by omega); rw [hn_1, Int32.lt_iff_toInt_lt, z0]; omega)) p_0 x_3 c_1 b_3.1 c_4)) (show ¬ (2147482927 < (x_3 + p_0)) from ((fun (a_0 : Int32) (a_1 : Int32) (k_0 : ¬ (a_1 < 0)) (k_1 : a_0 ≤ (359999 - a_1)) => (show ¬ (2147482927 < (a_1 + a_0)) from by have z0 : (0 : Int32).toInt = 0 := (by decide +kernel); have z1 : (359999 : Int32).toInt = 359999 := (by decide +kernel); have z2 : (2147482927 : Int32).toInt = 2147482927 := (by decide +kernel); have r0 := fb_rng (a_0); have r1 := fb_rng (a_1); have e0 := k_0; rw [Int32.lt_iff_toInt_lt, z0] at e0; obtain ⟨n_0, hn_0, s0⟩ := nd_sub (x := (359999 : Int32)) (y := (a_1)) (by (try rw [z1]); omega) (by (try rw [z1]); omega); rw [z1] at s0; have e1 := k_1; rw [hn_0, Int32.le_iff_toInt_le] at e1; obtain ⟨n_1, hn_1, s1⟩ := nd_add (x := (a_1)) (y := (a_0)) (by omega) (by omega); rw [hn_1, Int32.lt_iff_toInt_lt, z2]; omega)) p_0 x_3 b_3.1 c_4)) (show ¬ (359999 < (x_3 + p_0)) from ((fun (a_0 : Int32) (a_1 : Int32) (k_0 : ¬ (a_1 < 0)) (k_1 : a_0 ≤ (359999 - a_1)) => (show ¬ (359999 < (a_1 + a_0)) from by have z0 : (0 : Int32).toInt = 0 := (by decide +kernel); have z1 : (359999 : Int32).toInt = 359999 := (by decide +kernel); have r0 := fb_rng (a_0); have r1 := fb_rng (a_1); have e0 := k_0; rw [Int32.lt_iff_toInt_lt, z0] at e0; obtain ⟨n_0, hn_0, s0⟩ := nd_sub (x := (359999 : Int32)) (y := (a_1)) (by (try rw [z1]); omega) (by (try rw [z1]); omega); rw [z1] at s0; have e1 := k_1; rw [hn_0, Int32.le_iff_toInt_le] at e1; obtain ⟨n_1, hn_1, s1⟩ := nd_add (x := (a_1)) (y := (a_0)) (by omega) (by omega); rw [hn_1, Int32.lt_iff_toInt_lt, z1]; omega)) p_0 x_3 b_3.1 c_4)) (by decide +kernel) (fun y_5 g1_5 g2_5 g3_5 g4_5 g5_5 g9_5 => ?_)
        have hQ := hQ y_5 g9_5
        refine lv_istore_n (lv' := [(2, .int y_5), (0, .ref q0), (1, .int p_0)]) hx hb d_WM_minutes_36 rfl hl (by decide) rfl (fun ls hl => ?_)
        refine lv_aload_n hx hb d_WM_minutes_37 rfl (lv_at hl 1 rfl) ?_
        refine vp_callSi (va_Run.run (va_runV (As := []) (rest := []) ⟨hx, hb, hml, hown, htb⟩ (c_WM_today_w l dC dI ct L f hO_0 q0 m0 _ hQ) (cwV 0 htb (gd_V tw_113 tw_114 tw_115 tw_26 tw_112) rfl rfl rfl (by decide +kernel) ⟨Nat.le_of_ble_eq_true rfl, Nat.le_of_ble_eq_true rfl⟩) ⟨pr_blind, tw_recv hK hP m0 rfl rfl, pr_pre hP hK hN⟩ rfl rfl hl.1 rfl (lv_room (Nat.le_of_ble_eq_true rfl)) d_WM_minutes_38 ⟨Nat.le_of_ble_eq_true rfl, Nat.le_of_ble_eq_true rfl⟩)) (fun r_6 er_6 => ?_)
        obtain ⟨er_6, hQ⟩ := er_6
        obtain ⟨po_7, po_8, -⟩ := er_6
        refine lv_iconst (v := 1) hx hb d_WM_minutes_41 (by decide +kernel) ?_
        refine lv_iadd hx hb d_WM_minutes_42 ?_
        refine lv_istore_n (lv' := [(3, .int (r_6 + 1)), (2, .int y_5), (0, .ref q0), (1, .int p_0)]) hx hb d_WM_minutes_43 rfl hl (by decide) rfl (fun ls hl => ?_)
        have cut_9 : ∀ (n_9 : Nat) (v3_9 : Int32) (L_1 : List Nat) (f_1 : TF) (H : Heap) (locs : List Loc) (ls : Array Slot), va_P (dC, dI) vwCl (TW ct L_1 f_1) H → va_D A (TW ct L_1 f_1) → va_S A s.heap H locs → Ok L_1 f_1 → Ext WL_WM_minutes_w_44_9 L f L_1 f_1 → ¬ (v3_9 < 1) → ¬ (500 < v3_9) → (500 : Int32).toInt - (v3_9 : Int32).toInt ≤ (n_9 : Int) → wpL_WM_minutes_w_44_9 L f q0 p_0 x_3 y_5 r_6 Q n_9 v3_9 L_1 f_1 → lv_has ls 4 [(0, .ref q0), (1, .int p_0), (2, .int y_5), (3, .int v3_9)] → W p l e (headSpec (.code y_WM_minutes b_WM_minutes 4 (some .int) :: TB) ({ frames := 3, cells := 0, slots := 0, locals := 67 })).room s m [.ref q0, .int p_0].toArray below meth c H locs 0 0 (MQ below (va_Qi (fun r (u : TSt) => Ok u.1 u.2 ∧ Ext W_WM_minutes_w L f u.1 u.2 ∧ (True) ∧ Q r u.1 u.2) (fun (u : TSt) t => va_P (dC, dI) vwCl (TW ct u.1 u.2) t.heap ∧ va_K (dC, dI) vwCl (TT ct) t ∧ va_D (va_A (TW ct L f) s.heap.size) (TW ct u.1 u.2)) (va_A (TW ct L f) s.heap.size)) [.ref q0, .int p_0].toArray s 0 0 (va_A (TW ct L f) s.heap.size)) (F0 m 44 ls []) := by
          intro n_9
          induction n_9 using Nat.strongRecOn with
          | _ n_9 ih_9 =>
            intro v3_9 L_1 f_1 H locs ls hP hD hS hO_1 hE_1 iv0_9 iv1_9 hm_9 hQ hl
            have hA_1 := hA_0.trans hE_1
            rw [wpL_WM_minutes_w_44_9_eq] at hQ
            obtain ⟨rec_9, hrec_9⟩ : ∃ g, wpR_WM_minutes_w_44_9 L f q0 p_0 x_3 y_5 r_6 Q n_9 = g := ⟨_, rfl⟩
            rw [hrec_9] at hQ
            unfold wpB_WM_minutes_w_44_9 at hQ
            have hQ := hQ hO_1 hE_1
            refine lv_iload_n hx hb d_WM_minutes_44 rfl (lv_at hl 3 rfl) ?_
            refine lv_iload_n hx hb d_WM_minutes_45 rfl (lv_at hl 2 rfl) ?_
            refine lv_icmp_gt (tgt := 70) hx hb d_WM_minutes_46 (by decide) (fun c_10 => ?_) (fun c_10 => ?_)
            · have hQ := hQ.1 c_10
              refine lv_aload_n hx hb d_WM_minutes_70 rfl (lv_at hl 0 rfl) ?_
              refine lv_dup hx hb d_WM_minutes_71 rfl ?_
              refine tw_getI (x := x_3) (D := (dC, dI)) (C := R_WM) (T := F_WM) (N := 13) (ci := 0) (kd := 0) (ct := ct) hx hb htb i_WM hown hK hP (hA_1.m m0) rfl rfl 10 ((hA_1.ei m0 rfl).trans e_3) (by decide) (htb (.fieldLink R_WM 155 "WaterMen" "now" "I") tw_40) (fun _ h9 => h9) rfl d_WM_minutes_72 ?_
              refine lv_iload_n hx hb d_WM_minutes_75 rfl (lv_at hl 1 rfl) ?_
              refine lv_iadd hx hb d_WM_minutes_76 ?_
              refine tw_puti (v := (x_3 + p_0)) (D := (dC, dI)) (C := R_WM) (T := F_WM) (N := 13) (ci := 0) (kd := 0) (ct := ct) (ty := .int) hx hb htb i_WM t_WM t_WM_ok n_WM hown hK hP hD hS hO_1 (hA_1.m m0) rfl rfl 10 (by decide) (htb (.fieldLink R_WM 155 "WaterMen" "now" "I") tw_40) (fun _ h9 => h9) rfl (by decide +kernel) rfl rfl rfl ⟨(show ¬ ((x_3 + p_0) < 0) from ((fun (a_0 : Int32) (a_1 : Int32) (a_2 : Int32) (a_3 : Int32) (k_0 : ¬ (a_2 < 0)) (k_1 : a_0 ≤ (359999 - a_2)) (k_2 : a_3 < a_1) (k_3 : ¬ (a_3 < 0)) (k_4 : ¬ (500 < a_1)) (k_5 : ¬ ((a_2 + a_0) < (a_3 * 720))) => (show ¬ ((a_2 + a_0) < 0) from by have z0 : (0 : Int32).toInt = 0 := (by decide +kernel); have z1 : (500 : Int32).toInt = 500 := (by decide +kernel); have z2 : (720 : Int32).toInt = 720 := (by decide +kernel); have z3 : (359999 : Int32).toInt = 359999 := (by decide +kernel); have r0 := fb_rng (a_0); have r1 := fb_rng (a_1); have r2 := fb_rng (a_2); have r3 := fb_rng (a_3); have e0 := k_0; rw [Int32.lt_iff_toInt_lt, z0] at e0; obtain ⟨n_0, hn_0, s0⟩ := nd_sub (x := (359999 : Int32)) (y := (a_2)) (by (try rw [z3]); omega) (by (try rw [z3]); omega); rw [z3] at s0; have e1 := k_1; rw [hn_0, Int32.le_iff_toInt_le] at e1; obtain ⟨n_1, hn_1, s1⟩ := nd_add (x := (a_2)) (y := (a_0)) (by omega) (by omega); have e2 := k_2; rw [Int32.lt_iff_toInt_lt] at e2; have e3 := k_3; rw [Int32.lt_iff_toInt_lt, z0] at e3; have e4 := k_4; rw [Int32.lt_iff_toInt_lt, z1] at e4; obtain ⟨n_2, hn_2, s2⟩ := nd_mul (x := (a_3)) (y := (720 : Int32)) (by (try rw [z2]); omega) (by (try rw [z2]); omega); rw [z2] at s2; have e5 := k_5; rw [hn_1, hn_2, Int32.lt_iff_toInt_lt] at e5; rw [hn_1, Int32.lt_iff_toInt_lt, z0]; omega)) p_0 v3_9 x_3 y_5 b_3.1 c_4 c_10 g1_5 iv1_9 g3_5)), (show ¬ (359999 < (x_3 + p_0)) from ((fun (a_0 : Int32) (a_1 : Int32) (k_0 : ¬ (a_1 < 0)) (k_1 : a_0 ≤ (359999 - a_1)) => (show ¬ (359999 < (a_1 + a_0)) from by have z0 : (0 : Int32).toInt = 0 := (by decide +kernel); have z1 : (359999 : Int32).toInt = 359999 := (by decide +kernel); have r0 := fb_rng (a_0); have r1 := fb_rng (a_1); have e0 := k_0; rw [Int32.lt_iff_toInt_lt, z0] at e0; obtain ⟨n_0, hn_0, s0⟩ := nd_sub (x := (359999 : Int32)) (y := (a_1)) (by (try rw [z1]); omega) (by (try rw [z1]); omega); rw [z1] at s0; have e1 := k_1; rw [hn_0, Int32.le_iff_toInt_le] at e1; obtain ⟨n_1, hn_1, s1⟩ := nd_add (x := (a_1)) (y := (a_0)) (by omega) (by omega); rw [hn_1, Int32.lt_iff_toInt_lt, z1]; omega)) p_0 x_3 b_3.1 c_4))⟩ d_WM_minutes_77 (fun f_2 H locs hP hD hS hO_2 hE_2 w_11 hF_2 => ?_)
              have hA_2 := hA_1.trans hE_2
              have hQ := hQ f_2 hF_2
              have hQ := hQ hO_2
              refine lv_aload_n hx hb d_WM_minutes_80 rfl (lv_at hl 0 rfl) ?_
              refine tw_getI (x := (x_3 + p_0)) (D := (dC, dI)) (C := R_WM) (T := F_WM) (N := 13) (ci := 0) (kd := 0) (ct := ct) hx hb htb i_WM hown hK hP (hA_2.m m0) rfl rfl 10 w_11 (by decide) (htb (.fieldLink R_WM 155 "WaterMen" "now" "I") tw_40) (fun _ h9 => h9) rfl d_WM_minutes_81 ?_
              refine W.widen (k := 0) (n := 0) (Nat.le_of_ble_eq_true rfl) (Nat.le_of_ble_eq_true rfl) ?_
              exact W.iret (v := (x_3 + p_0)) hx hb hr (fun t ht hW => ⟨⟨(x_3 + p_0), (L_1, f_2), rfl, ⟨hO_2, hA_2.mono (by decide +kernel), trivial, hQ⟩, by rw [ht]; exact hP, va_K.moved hW.alike hK, by rw [hAe]; exact hD⟩, by rw [hAe]; exact hS.F ht⟩) (by rw [hAe]; exact hS.2.2) d_WM_minutes_84
            · have hQ := hQ.2 c_10
              refine lv_aload_n hx hb d_WM_minutes_49 rfl (lv_at hl 0 rfl) ?_
              refine lv_iload_n hx hb d_WM_minutes_50 rfl (lv_at hl 3 rfl) ?_
              refine lv_iconst (v := 1) hx hb d_WM_minutes_51 (by decide +kernel) ?_
              refine lv_isub hx hb d_WM_minutes_52 ?_
              have hFc := hb_free hD hS hA
              refine va_callv (va_runV (As := [.int (v3_9 - 1)]) (rest := []) ⟨hx, hb, hml, hown, htb⟩ (c_WM_partPot_w l dC dI ct L_1 f_1 hO_1 q0 (hA_1.m m0) _ (v3_9 - 1) _ hQ) (cwV 1 htb (gd_V tw_176 tw_177 tw_178 tw_26 tw_175) rfl rfl rfl (by decide +kernel) ⟨Nat.le_of_ble_eq_true rfl, Nat.le_of_ble_eq_true rfl⟩) ⟨pc_blind, tw_recv hK hP (hA_1.m m0) rfl rfl, pc_pre hP hK hD hN⟩ rfl rfl hl.1 rfl (lv_room (Nat.le_of_ble_eq_true rfl)) d_WM_minutes_53 ⟨Nat.le_of_ble_eq_true rfl, Nat.le_of_ble_eq_true rfl⟩) hS (fun q _ h => hFc q h) hFc (fun u t H locs ht hvm er hB hz1 hk1 hS => ?_)
              obtain ⟨L_2, f_2⟩ := u
              obtain ⟨hO_2, hE_2, er, hQ⟩ := er
              obtain ⟨hP, hK1, hD1⟩ := hB
              rw [ht] at hP
              have hP : va_P (dC, dI) vwCl (TW ct L_2 f_2) H := hP
              have hD : va_D A (TW ct L_2 f_2) := hD1.weaken (fun _ q _ h => hFc q.1 h)
              have hO_2 : Ok L_2 f_2 := hO_2
              have hE_2 : Ext W_WM_partPot_w L_1 f_1 L_2 f_2 := hE_2
              clear hK1 hD1 ht hvm hz1 hk1
              have hA_2 := hA_1.trans hE_2
              have hQ := hQ hO_2 hE_2
              clear er
              refine lv_aload_n hx hb d_WM_minutes_56 rfl (lv_at hl 0 rfl) ?_
              refine tw_getr (D := (dC, dI)) (C := R_WM) (T := F_WM) (N := 13) (ci := 0) (kd := 0) (ct := ct) hx hb htb i_WM hown hK hP hO_2 (hA_2.m m0) rfl rfl 6 (by decide) (htb (.fieldLink R_WM 50 "WaterMen" "box" "LWaterMen$Box;") tw_165) (fun _ h9 => h9) rfl d_WM_minutes_57 (fun q_13 e_13 m_13 => ?_)
              have hQ := hQ q_13 e_13
              refine lv_iload_n hx hb d_WM_minutes_60 rfl (lv_at hl 3 rfl) ?_
              have hFc := hb_free hD hS hA
              refine va_callv (va_runV (As := [.int v3_9]) (rest := []) ⟨hx, hb, hml, hown, htb⟩ (c_Bx_payPensions_w l dC dI ct L_2 f_2 hO_2 q_13 m_13 _ v3_9 _ hQ) (cwV 1 htb (gd_V tw_190 tw_191 tw_192 tw_170 tw_189) rfl rfl rfl (by decide +kernel) ⟨Nat.le_of_ble_eq_true rfl, Nat.le_of_ble_eq_true rfl⟩) ⟨pc_blind, tw_recv hK hP m_13 rfl rfl, pc_pre hP hK hD hN⟩ rfl rfl hl.1 rfl (lv_room (Nat.le_of_ble_eq_true rfl)) d_WM_minutes_61 ⟨Nat.le_of_ble_eq_true rfl, Nat.le_of_ble_eq_true rfl⟩) hS (fun q _ h => hFc q h) hFc (fun u t H locs ht hvm er hB hz1 hk1 hS => ?_)
              obtain ⟨L_3, f_3⟩ := u
              obtain ⟨hO_3, hE_3, er, hQ⟩ := er
              obtain ⟨hP, hK1, hD1⟩ := hB
              rw [ht] at hP
              have hP : va_P (dC, dI) vwCl (TW ct L_3 f_3) H := hP
              have hD : va_D A (TW ct L_3 f_3) := hD1.weaken (fun _ q _ h => hFc q.1 h)
              have hO_3 : Ok L_3 f_3 := hO_3
              have hE_3 : Ext W_Bx_payPensions_w L_2 f_2 L_3 f_3 := hE_3
              clear hK1 hD1 ht hvm hz1 hk1
              have hA_3 := hA_2.trans hE_3
              have hQ := hQ hO_3 hE_3
              clear er
              refine lv_iinc (v := (v3_9 + 1)) (lv' := [(3, .int (v3_9 + 1)), (0, .ref q0), (1, .int p_0), (2, .int y_5)]) hx hb d_WM_minutes_64 hl (k := 3) rfl rfl (by decide) rfl (fun ls hl => ?_)
              refine lv_goto (tgt := 44) hx hb d_WM_minutes_67 (by decide) ?_
              exact ih_9 (n_9 - 1) (ms_1 ((fun (a_0 : Int32) (a_1 : Int32) (k_0 : ¬ (a_1 < a_0)) (k_1 : ¬ (499 < a_1)) => (show 1 ≤ (500 : Int32).toInt - (a_0).toInt ∧ (500 : Int32).toInt - ((a_0) + (1 : Int32)).toInt + 1 ≤ (500 : Int32).toInt - (a_0).toInt from by have z0 : (1 : Int32).toInt = 1 := (by decide +kernel); have z1 : (499 : Int32).toInt = 499 := (by decide +kernel); have z2 : (500 : Int32).toInt = 500 := (by decide +kernel); have r0 := fb_rng (a_0); have r1 := fb_rng (a_1); have e0 := k_0; rw [Int32.lt_iff_toInt_lt] at e0; have e1 := k_1; rw [Int32.lt_iff_toInt_lt, z1] at e1; obtain ⟨n_0, hn_0, s0⟩ := nd_add (x := (a_0)) (y := (1 : Int32)) (by (try rw [z0]); omega) (by (try rw [z0]); omega); rw [z0] at s0; rw [hn_0]; (try rw [z2]); omega)) v3_9 y_5 c_10 g5_5) hm_9) (v3_9 + 1) _ _ _ _ _ hP hD hS hO_3 (((hE_1.trans hE_2).trans hE_3).mono (by decide +kernel)) (show ¬ ((v3_9 + 1) < 1) from by have e0 := iv0_9; rw [Int32.lt_iff_toInt_lt] at e0; have e1 := iv1_9; rw [Int32.lt_iff_toInt_lt] at e1; have z0 : (1 : Int32).toInt = 1 := (by decide +kernel); have z1 : (500 : Int32).toInt = 500 := (by decide +kernel); have ss := fb_addI (x := v3_9) (y := 1) (by omega) (by omega); rw [Int32.lt_iff_toInt_lt]; omega) (show ¬ (500 < (v3_9 + 1)) from ((fun (a_0 : Int32) (a_1 : Int32) (k_0 : ¬ (a_1 < a_0)) (k_1 : ¬ (499 < a_1)) => (show ¬ (500 < (a_0 + 1)) from by have z0 : (1 : Int32).toInt = 1 := (by decide +kernel); have z1 : (499 : Int32).toInt = 499 := (by decide +kernel); have z2 : (500 : Int32).toInt = 500 := (by decide +kernel); have r0 := fb_rng (a_0); have r1 := fb_rng (a_1); have e0 := k_0; rw [Int32.lt_iff_toInt_lt] at e0; have e1 := k_1; rw [Int32.lt_iff_toInt_lt, z1] at e1; obtain ⟨n_0, hn_0, s0⟩ := nd_add (x := (a_0)) (y := (1 : Int32)) (by (try rw [z0]); omega) (by (try rw [z0]); omega); rw [z0] at s0; rw [hn_0, Int32.lt_iff_toInt_lt, z2]; omega)) v3_9 y_5 c_10 g5_5)) (by exact ms_2 ((fun (a_0 : Int32) (a_1 : Int32) (k_0 : ¬ (a_1 < a_0)) (k_1 : ¬ (499 < a_1)) => (show 1 ≤ (500 : Int32).toInt - (a_0).toInt ∧ (500 : Int32).toInt - ((a_0) + (1 : Int32)).toInt + 1 ≤ (500 : Int32).toInt - (a_0).toInt from by have z0 : (1 : Int32).toInt = 1 := (by decide +kernel); have z1 : (499 : Int32).toInt = 499 := (by decide +kernel); have z2 : (500 : Int32).toInt = 500 := (by decide +kernel); have r0 := fb_rng (a_0); have r1 := fb_rng (a_1); have e0 := k_0; rw [Int32.lt_iff_toInt_lt] at e0; have e1 := k_1; rw [Int32.lt_iff_toInt_lt, z1] at e1; obtain ⟨n_0, hn_0, s0⟩ := nd_add (x := (a_0)) (y := (1 : Int32)) (by (try rw [z0]); omega) (by (try rw [z0]); omega); rw [z0] at s0; rw [hn_0]; (try rw [z2]); omega)) v3_9 y_5 c_10 g5_5) hm_9) (by rw [← hrec_9, wpR_WM_minutes_w_44_9_pos (ms_3 ((fun (a_0 : Int32) (a_1 : Int32) (k_0 : ¬ (a_1 < a_0)) (k_1 : ¬ (499 < a_1)) => (show 1 ≤ (500 : Int32).toInt - (a_0).toInt ∧ (500 : Int32).toInt - ((a_0) + (1 : Int32)).toInt + 1 ≤ (500 : Int32).toInt - (a_0).toInt from by have z0 : (1 : Int32).toInt = 1 := (by decide +kernel); have z1 : (499 : Int32).toInt = 499 := (by decide +kernel); have z2 : (500 : Int32).toInt = 500 := (by decide +kernel); have r0 := fb_rng (a_0); have r1 := fb_rng (a_1); have e0 := k_0; rw [Int32.lt_iff_toInt_lt] at e0; have e1 := k_1; rw [Int32.lt_iff_toInt_lt, z1] at e1; obtain ⟨n_0, hn_0, s0⟩ := nd_add (x := (a_0)) (y := (1 : Int32)) (by (try rw [z0]); omega) (by (try rw [z0]); omega); rw [z0] at s0; rw [hn_0]; (try rw [z2]); omega)) v3_9 y_5 c_10 g5_5) hm_9)] at hQ; exact hQ) (lv_sub hl [1, 2, 3, 0] rfl)
        exact cut_9 ((500 : Int32).toInt - ((r_6 + 1) : Int32).toInt).toNat (r_6 + 1) _ _ _ _ _ hP hD hS hO_0 Ext.rf (show ¬ ((r_6 + 1) < 1) from by have e0 := po_7; rw [Int32.lt_iff_toInt_lt] at e0; have e1 := po_8; rw [Int32.lt_iff_toInt_lt] at e1; have z0 : (0 : Int32).toInt = 0 := (by decide +kernel); have z1 : (1 : Int32).toInt = 1 := (by decide +kernel); have z2 : (499 : Int32).toInt = 499 := (by decide +kernel); have ss := fb_addI (x := r_6) (y := 1) (by omega) (by omega); rw [Int32.lt_iff_toInt_lt]; omega) (show ¬ (500 < (r_6 + 1)) from by have e0 := po_7; rw [Int32.lt_iff_toInt_lt] at e0; have e1 := po_8; rw [Int32.lt_iff_toInt_lt] at e1; have z0 : (0 : Int32).toInt = 0 := (by decide +kernel); have z1 : (1 : Int32).toInt = 1 := (by decide +kernel); have z2 : (499 : Int32).toInt = 499 := (by decide +kernel); have z3 : (500 : Int32).toInt = 500 := (by decide +kernel); have ss := fb_addI (x := r_6) (y := 1) (by omega) (by omega); rw [Int32.lt_iff_toInt_lt]; omega) (by exact ms_e _ _) hQ (lv_sub hl [2, 3, 1, 0] rfl)
      · have hQ := hQ.2 c_4
        refine lv_iconst (v := (-1)) hx hb d_WM_minutes_24 (by decide +kernel) ?_
        refine W.widen (k := 0) (n := 0) (Nat.le_of_ble_eq_true rfl) (Nat.le_of_ble_eq_true rfl) ?_
        exact W.iret (v := (-1)) hx hb hr (fun t ht hW => ⟨⟨(-1), (L, f), rfl, ⟨hO_0, hA_0.mono (by decide +kernel), trivial, hQ⟩, by rw [ht]; exact hP, va_K.moved hW.alike hK, by rw [hAe]; exact hD⟩, by rw [hAe]; exact hS.F ht⟩) (by rw [hAe]; exact hS.2.2) d_WM_minutes_25
def WL_Md_arrive_w_2_1 : List (Nat × Nat) := [(40, 1000), (48, 1000)]
def W_Md_arrive_w : List (Nat × Nat) := [(40, 1000), (48, 1000)]
def wpB_Md_arrive_w_2_1 (L : List Nat) (f : TF) (q0 : Nat) (Q : List Nat → TF → Prop) (rec_1 : Int32 → List Nat → TF → Prop) (v1_1 : Int32) (L_1 : List Nat) (f_1 : TF) : Prop := Ok L_1 f_1 → Ext WL_Md_arrive_w_2_1 L f L_1 f_1 → ∀ x_2 : Int32, ti f_1 q0 21 = x_2 → ((x_2 ≤ v1_1 → Q L_1 f_1) ∧ (¬ (x_2 ≤ v1_1) → ∀ q_4 : Nat, tr f_1 q0 25 = some q_4 → ∀ x_5 : Int32, ti f_1 q_4 (v1_1 : Int32).toNatClampNeg = x_5 → ((x_5 < 0 → rec_1 (v1_1 + 1) L_1 f_1) ∧ (¬ (x_5 < 0) → ∀ q_7 : Nat, tr f_1 q0 53 = some q_7 → ∀ x_8 : Int32, ti f_1 q_7 (x_5 : Int32).toNatClampNeg = x_8 → ∀ x_9 : Int32, ti f_1 q0 1 = x_9 → ((x_8 ≤ x_9 → ∀ f_2 : TF, f_2 = sI f_1 q_4 (v1_1 : Int32).toNatClampNeg (-1) → Ok L_1 f_2 → ∀ q_12 : Nat, tr f_2 q0 16 = some q_12 → ∀ q_13 : Nat, tr f_2 q0 49 = some q_13 → ∀ x_14 : Int32, ti f_2 q_13 (x_5 : Int32).toNatClampNeg = x_14 → ∀ f_3 : TF, f_3 = sI f_2 q_12 (x_14 : Int32).toNatClampNeg (-1) → Ok L_1 f_3 → rec_1 (v1_1 + 1) L_1 f_3) ∧ (¬ (x_8 ≤ x_9) → rec_1 (v1_1 + 1) L_1 f_1))))))
def wpL_Md_arrive_w_2_1 (L : List Nat) (f : TF) (q0 : Nat) (Q : List Nat → TF → Prop) : Nat → Int32 → List Nat → TF → Prop
  | 0 => fun v1_1 L_1 f_1 => wpB_Md_arrive_w_2_1 L f q0 Q (fun _ _ _ => True) v1_1 L_1 f_1
  | n + 1 => fun v1_1 L_1 f_1 => wpB_Md_arrive_w_2_1 L f q0 Q (wpL_Md_arrive_w_2_1 L f q0 Q n) v1_1 L_1 f_1
def wpR_Md_arrive_w_2_1 (L : List Nat) (f : TF) (q0 : Nat) (Q : List Nat → TF → Prop) : Nat → Int32 → List Nat → TF → Prop
  | 0 => fun _ _ _ => True
  | n + 1 => wpL_Md_arrive_w_2_1 L f q0 Q n
theorem wpL_Md_arrive_w_2_1_eq {L : List Nat} {f : TF} {q0 : Nat} {Q : List Nat → TF → Prop} {n : Nat} : wpL_Md_arrive_w_2_1 L f q0 Q n = wpB_Md_arrive_w_2_1 L f q0 Q (wpR_Md_arrive_w_2_1 L f q0 Q n) := by cases n <;> rfl
theorem wpR_Md_arrive_w_2_1_pos {L : List Nat} {f : TF} {q0 : Nat} {Q : List Nat → TF → Prop} {n : Nat} (h : 0 < n) : wpR_Md_arrive_w_2_1 L f q0 Q n = wpL_Md_arrive_w_2_1 L f q0 Q (n - 1) := by
  cases n with
  | zero => omega
  | succ n => rfl
def wp_Md_arrive_w (L : List Nat) (f : TF) (q0 : Nat) (Q : List Nat → TF → Prop) : Prop := wpL_Md_arrive_w_2_1 L f q0 Q (((20 : Int32).toInt - (0 : Int32).toInt).toNat) (0 : Int32) L f
set_option maxHeartbeats 4000000 in
set_option maxRecDepth 100000 in
theorem c_Md_arrive_w (l : Launch) (dC : Nat → ClassId) (dI : Nat → Nat → Nat) (ct : Nat → ClassId) (L : List Nat) (f : TF) (hO_0 : Ok L f) (q0 : Nat) (m0 : q0 ∈ L ∧ tk f q0 = 27) (sz : Nat)    (Q : List Nat → TF → Prop) (hQ : wp_Md_arrive_w L f q0 Q) : Met l y_Md_arrive (.code y_Md_arrive b_Md_arrive 3 none :: TB) ({ frames := 0, cells := 0, slots := 0, locals := 0 }) (va_Pc [.ref q0] (PC dC dI (TW ct L f) (TT ct) sz)) (va_Qv (fun (u : TSt) => Ok u.1 u.2 ∧ Ext W_Md_arrive_w L f u.1 u.2 ∧ (True) ∧ Q u.1 u.2) (fun (u : TSt) t => va_P (dC, dI) vwCl (TW ct u.1 u.2) t.heap ∧ va_K (dC, dI) vwCl (TT ct) t ∧ va_D (va_A (TW ct L f) sz) (TW ct u.1 u.2)) (va_A (TW ct L f) sz)) 0 0 (va_A (TW ct L f) sz) := by
  refine Met.ofW (cc := b_Md_arrive) (maxL := 3) (ret := none) (by decide) rfl ?_
  intro p e s m args below meth c s₁ B hml hv
  obtain ⟨rfl, hsz, hP, hK, hD0, hN⟩ := hv
  have hx := B.exec
  have hb := B.bytes
  have hr := B.returns
  have hts := atoms_spec (ws := (.code y_Md_arrive b_Md_arrive 3 none :: TB)) B.pre
  have htb := fun w (h : w ∈ TB) => hts w (List.mem_cons_of_mem _ h)
  have hown : s.vm.findClass R_Md = some m.cls := findClass_of_methodNamed B.named
  have hlocks := B.notSynchronized
  have hl := lv_entry ([.ref q0]) (n := 3) (Nat.le_of_ble_eq_true rfl)
  rw [lg_entry_eq]
  generalize (lg_sl ([.ref q0]) ++ List.replicate (3 - (lg_sl ([.ref q0])).length) Slot.unset).toArray = ls at hl ⊢
  have hl : lv_has ls 3 [(0, .ref q0)] := hl
  subst hsz
  have hD := hD0.self (sz := s.heap.size)
  obtain ⟨A, hAe⟩ : ∃ A, va_A (TW ct L f) s.heap.size = A := ⟨_, rfl⟩
  rw [hAe] at hD
  have hA : ∀ q : Nat, s.heap.size ≤ q → A q := fun q h => by rw [← hAe]; exact Or.inr h
  have hS : va_S A s.heap s.heap [] := va_S.rf
  have hA_0 : Ext [] L f L f := Ext.rf
  suffices hGo : ∀ (H : Heap) (locs : List Loc), va_P (dC, dI) vwCl (TW ct L f) H → va_S A s.heap H locs → W p l e (headSpec (.code y_Md_arrive b_Md_arrive 3 none :: TB) ({ frames := 0, cells := 0, slots := 0, locals := 0 })).room s m [.ref q0].toArray below meth c H locs 0 0 (MQ below (va_Qv (fun (u : TSt) => Ok u.1 u.2 ∧ Ext W_Md_arrive_w L f u.1 u.2 ∧ (True) ∧ Q u.1 u.2) (fun (u : TSt) t => va_P (dC, dI) vwCl (TW ct u.1 u.2) t.heap ∧ va_K (dC, dI) vwCl (TT ct) t ∧ va_D (va_A (TW ct L f) s.heap.size) (TW ct u.1 u.2)) (va_A (TW ct L f) s.heap.size)) [.ref q0].toArray s 0 0 (va_A (TW ct L f) s.heap.size)) (F0 m 0 ls []) from hGo _ _ hP hS
  clear hP hS
  intro H locs hP hS
  unfold wp_Md_arrive_w at hQ
  refine lv_iconst (v := 0) hx hb d_Md_arrive_0 (by decide +kernel) ?_
  refine lv_istore_n (lv' := [(1, .int 0), (0, .ref q0)]) hx hb d_Md_arrive_1 rfl hl (by decide) rfl (fun ls hl => ?_)
  have cut_1 : ∀ (n_1 : Nat) (v1_1 : Int32) (L_1 : List Nat) (f_1 : TF) (H : Heap) (locs : List Loc) (ls : Array Slot), va_P (dC, dI) vwCl (TW ct L_1 f_1) H → va_D A (TW ct L_1 f_1) → va_S A s.heap H locs → Ok L_1 f_1 → Ext WL_Md_arrive_w_2_1 L f L_1 f_1 → ¬ (v1_1 < 0) → ¬ (20 < v1_1) → (20 : Int32).toInt - (v1_1 : Int32).toInt ≤ (n_1 : Int) → wpL_Md_arrive_w_2_1 L f q0 Q n_1 v1_1 L_1 f_1 → lv_has ls 3 [(0, .ref q0), (1, .int v1_1)] → W p l e (headSpec (.code y_Md_arrive b_Md_arrive 3 none :: TB) ({ frames := 0, cells := 0, slots := 0, locals := 0 })).room s m [.ref q0].toArray below meth c H locs 0 0 (MQ below (va_Qv (fun (u : TSt) => Ok u.1 u.2 ∧ Ext W_Md_arrive_w L f u.1 u.2 ∧ (True) ∧ Q u.1 u.2) (fun (u : TSt) t => va_P (dC, dI) vwCl (TW ct u.1 u.2) t.heap ∧ va_K (dC, dI) vwCl (TT ct) t ∧ va_D (va_A (TW ct L f) s.heap.size) (TW ct u.1 u.2)) (va_A (TW ct L f) s.heap.size)) [.ref q0].toArray s 0 0 (va_A (TW ct L f) s.heap.size)) (F0 m 2 ls []) := by
    intro n_1
    induction n_1 using Nat.strongRecOn with
    | _ n_1 ih_1 =>
      intro v1_1 L_1 f_1 H locs ls hP hD hS hO_1 hE_1 iv0_1 iv1_1 hm_1 hQ hl
      have hA_1 := hA_0.trans hE_1
      rw [wpL_Md_arrive_w_2_1_eq] at hQ
      obtain ⟨rec_1, hrec_1⟩ : ∃ g, wpR_Md_arrive_w_2_1 L f q0 Q n_1 = g := ⟨_, rfl⟩
      rw [hrec_1] at hQ
      unfold wpB_Md_arrive_w_2_1 at hQ
      have hQ := hQ hO_1 hE_1
      refine lv_iload_n hx hb d_Md_arrive_2 rfl (lv_at hl 1 rfl) ?_
      refine lv_aload_n hx hb d_Md_arrive_3 rfl (lv_at hl 0 rfl) ?_
      refine tw_geti (D := (dC, dI)) (C := R_Md) (T := F_Md) (N := 64) (ci := 7) (kd := 27) (ct := ct) hx hb htb i_Md hown hK hP hO_1 (hA_1.m m0) rfl rfl 21 (by decide) (htb (.fieldLink R_Md 206 "WaterMenModel" "boats" "I") tw_194) (fun _ h9 => h9) rfl d_Md_arrive_4 (fun x_2 e_2 b_2 => ?_)
      have hQ := hQ x_2 e_2
      refine lv_icmp_ge (tgt := 62) hx hb d_Md_arrive_7 (by decide) (fun c_3 => ?_) (fun c_3 => ?_)
      · have hQ := hQ.1 c_3
        refine W.widen (k := 0) (n := 0) (Nat.le_of_ble_eq_true rfl) (Nat.le_of_ble_eq_true rfl) ?_
        exact W.vret hx hb hr (fun t ht hW => ⟨⟨(L_1, f_1), rfl, ⟨hO_1, hA_1.mono (by decide +kernel), trivial, hQ⟩, by rw [ht]; exact hP, va_K.moved hW.alike hK, by rw [hAe]; exact hD⟩, by rw [hAe]; exact hS.F ht⟩) (by rw [hAe]; exact hS.2.2) d_Md_arrive_62
      · have hQ := hQ.2 c_3
        refine lv_aload_n hx hb d_Md_arrive_10 rfl (lv_at hl 0 rfl) ?_
        refine tw_getr (D := (dC, dI)) (C := R_Md) (T := F_Md) (N := 64) (ci := 7) (kd := 27) (ct := ct) hx hb htb i_Md hown hK hP hO_1 (hA_1.m m0) rfl rfl 25 (by decide) (htb (.fieldLink R_Md 103 "WaterMenModel" "boatTrip" "[I") tw_195) (fun _ h9 => h9) rfl d_Md_arrive_11 (fun q_4 e_4 m_4 => ?_)
        have hQ := hQ q_4 e_4
        refine lv_iload_n hx hb d_Md_arrive_14 rfl (lv_at hl 1 rfl) ?_
        refine tw_aldI (ct := ct) hx hb hK hP hO_1 m_4 rfl ((fun (a_0 : Int32) (a_1 : Int32) (k_0 : ¬ (a_0 < 0)) (k_1 : ¬ (a_1 ≤ a_0)) (k_2 : ¬ (20 < a_1)) => (show vp_in (a_0) 20 from by have z0 : (0 : Int32).toInt = 0 := (by decide +kernel); have z1 : (20 : Int32).toInt = 20 := (by decide +kernel); have r0 := fb_rng (a_0); have r1 := fb_rng (a_1); have e0 := k_0; rw [Int32.lt_iff_toInt_lt, z0] at e0; have e1 := k_1; rw [Int32.le_iff_toInt_le] at e1; have e2 := k_2; rw [Int32.lt_iff_toInt_lt, z1] at e2; rw [vp_in_iff]; omega)) v1_1 x_2 iv0_1 c_3 b_2.2) d_Md_arrive_15 (fun x_5 e_5 b_5 => ?_)
        have hQ := hQ x_5 e_5
        refine lv_istore_n (lv' := [(2, .int x_5), (0, .ref q0), (1, .int v1_1)]) hx hb d_Md_arrive_16 rfl hl (by decide) rfl (fun ls hl => ?_)
        refine lv_iload_n hx hb d_Md_arrive_17 rfl (lv_at hl 0 rfl) ?_
        refine lv_if_lt (tgt := 56) hx hb d_Md_arrive_18 (by decide) (fun c_6 => ?_) (fun c_6 => ?_)
        · have hQ := hQ.1 c_6
          refine lv_iinc (v := (v1_1 + 1)) (lv' := [(1, .int (v1_1 + 1)), (2, .int x_5), (0, .ref q0)]) hx hb d_Md_arrive_56 hl (k := 2) rfl rfl (by decide) rfl (fun ls hl => ?_)
          refine lv_goto (tgt := 2) hx hb d_Md_arrive_59 (by decide) ?_
          exact ih_1 (n_1 - 1) (ms_1 ((fun (a_0 : Int32) (a_1 : Int32) (k_0 : ¬ (a_1 ≤ a_0)) (k_1 : ¬ (20 < a_1)) => (show 1 ≤ (20 : Int32).toInt - (a_0).toInt ∧ (20 : Int32).toInt - ((a_0) + (1 : Int32)).toInt + 1 ≤ (20 : Int32).toInt - (a_0).toInt from by have z0 : (1 : Int32).toInt = 1 := (by decide +kernel); have z1 : (20 : Int32).toInt = 20 := (by decide +kernel); have r0 := fb_rng (a_0); have r1 := fb_rng (a_1); have e0 := k_0; rw [Int32.le_iff_toInt_le] at e0; have e1 := k_1; rw [Int32.lt_iff_toInt_lt, z1] at e1; obtain ⟨n_0, hn_0, s0⟩ := nd_add (x := (a_0)) (y := (1 : Int32)) (by (try rw [z0]); omega) (by (try rw [z0]); omega); rw [z0] at s0; rw [hn_0]; (try rw [z1]); omega)) v1_1 x_2 c_3 b_2.2) hm_1) (v1_1 + 1) _ _ _ _ _ hP hD hS hO_1 (hE_1.mono (by decide +kernel)) (show ¬ ((v1_1 + 1) < 0) from by have e0 := iv0_1; rw [Int32.lt_iff_toInt_lt] at e0; have e1 := iv1_1; rw [Int32.lt_iff_toInt_lt] at e1; have z0 : (0 : Int32).toInt = 0 := (by decide +kernel); have z1 : (1 : Int32).toInt = 1 := (by decide +kernel); have z2 : (20 : Int32).toInt = 20 := (by decide +kernel); have ss := fb_addI (x := v1_1) (y := 1) (by omega) (by omega); rw [Int32.lt_iff_toInt_lt]; omega) (show ¬ (20 < (v1_1 + 1)) from ((fun (a_0 : Int32) (a_1 : Int32) (k_0 : ¬ (a_1 ≤ a_0)) (k_1 : ¬ (20 < a_1)) => (show ¬ (20 < (a_0 + 1)) from by have z0 : (1 : Int32).toInt = 1 := (by decide +kernel); have z1 : (20 : Int32).toInt = 20 := (by decide +kernel); have r0 := fb_rng (a_0); have r1 := fb_rng (a_1); have e0 := k_0; rw [Int32.le_iff_toInt_le] at e0; have e1 := k_1; rw [Int32.lt_iff_toInt_lt, z1] at e1; obtain ⟨n_0, hn_0, s0⟩ := nd_add (x := (a_0)) (y := (1 : Int32)) (by (try rw [z0]); omega) (by (try rw [z0]); omega); rw [z0] at s0; rw [hn_0, Int32.lt_iff_toInt_lt, z1]; omega)) v1_1 x_2 c_3 b_2.2)) (by exact ms_2 ((fun (a_0 : Int32) (a_1 : Int32) (k_0 : ¬ (a_1 ≤ a_0)) (k_1 : ¬ (20 < a_1)) => (show 1 ≤ (20 : Int32).toInt - (a_0).toInt ∧ (20 : Int32).toInt - ((a_0) + (1 : Int32)).toInt + 1 ≤ (20 : Int32).toInt - (a_0).toInt from by have z0 : (1 : Int32).toInt = 1 := (by decide +kernel); have z1 : (20 : Int32).toInt = 20 := (by decide +kernel); have r0 := fb_rng (a_0); have r1 := fb_rng (a_1); have e0 := k_0; rw [Int32.le_iff_toInt_le] at e0; have e1 := k_1; rw [Int32.lt_iff_toInt_lt, z1] at e1; obtain ⟨n_0, hn_0, s0⟩ := nd_add (x := (a_0)) (y := (1 : Int32)) (by (try rw [z0]); omega) (by (try rw [z0]); omega); rw [z0] at s0; rw [hn_0]; (try rw [z1]); omega)) v1_1 x_2 c_3 b_2.2) hm_1) (by rw [← hrec_1, wpR_Md_arrive_w_2_1_pos (ms_3 ((fun (a_0 : Int32) (a_1 : Int32) (k_0 : ¬ (a_1 ≤ a_0)) (k_1 : ¬ (20 < a_1)) => (show 1 ≤ (20 : Int32).toInt - (a_0).toInt ∧ (20 : Int32).toInt - ((a_0) + (1 : Int32)).toInt + 1 ≤ (20 : Int32).toInt - (a_0).toInt from by have z0 : (1 : Int32).toInt = 1 := (by decide +kernel); have z1 : (20 : Int32).toInt = 20 := (by decide +kernel); have r0 := fb_rng (a_0); have r1 := fb_rng (a_1); have e0 := k_0; rw [Int32.le_iff_toInt_le] at e0; have e1 := k_1; rw [Int32.lt_iff_toInt_lt, z1] at e1; obtain ⟨n_0, hn_0, s0⟩ := nd_add (x := (a_0)) (y := (1 : Int32)) (by (try rw [z0]); omega) (by (try rw [z0]); omega); rw [z0] at s0; rw [hn_0]; (try rw [z1]); omega)) v1_1 x_2 c_3 b_2.2) hm_1)] at hQ; exact hQ) (lv_sub hl [2, 0] rfl)
        · have hQ := hQ.2 c_6
          refine lv_aload_n hx hb d_Md_arrive_21 rfl (lv_at hl 1 rfl) ?_
          refine tw_getr (D := (dC, dI)) (C := R_Md) (T := F_Md) (N := 64) (ci := 7) (kd := 27) (ct := ct) hx hb htb i_Md hown hK hP hO_1 (hA_1.m m0) rfl rfl 53 (by decide) (htb (.fieldLink R_Md 164 "WaterMenModel" "tripThere" "[I") tw_196) (fun _ h9 => h9) rfl d_Md_arrive_22 (fun q_7 e_7 m_7 => ?_)
          have hQ := hQ q_7 e_7
          refine lv_iload_n hx hb d_Md_arrive_25 rfl (lv_at hl 0 rfl) ?_
          refine tw_aldI (ct := ct) hx hb hK hP hO_1 m_7 rfl (hb_inl c_6 b_5.2 (by decide +kernel)) d_Md_arrive_26 (fun x_8 e_8 b_8 => ?_)
          have hQ := hQ x_8 e_8
          refine lv_aload_n hx hb d_Md_arrive_27 rfl (lv_at hl 1 rfl) ?_
          refine tw_geti (D := (dC, dI)) (C := R_Md) (T := F_Md) (N := 64) (ci := 7) (kd := 27) (ct := ct) hx hb htb i_Md hown hK hP hO_1 (hA_1.m m0) rfl rfl 1 (by decide) (htb (.fieldLink R_Md 7 "WaterMenModel" "time" "I") tw_122) (fun _ h9 => h9) rfl d_Md_arrive_28 (fun x_9 e_9 b_9 => ?_)
          have hQ := hQ x_9 e_9
          refine lv_icmp_le (tgt := 37) hx hb d_Md_arrive_31 (by decide) (fun c_10 => ?_) (fun c_10 => ?_)
          · have hQ := hQ.1 c_10
            refine lv_aload_n hx hb d_Md_arrive_37 rfl (lv_at hl 1 rfl) ?_
            refine tw_getR (D := (dC, dI)) (C := R_Md) (T := F_Md) (N := 64) (ci := 7) (kd := 27) (ct := ct) hx hb htb i_Md hown hK hP (hA_1.m m0) rfl rfl 25 e_4 (by decide) (htb (.fieldLink R_Md 103 "WaterMenModel" "boatTrip" "[I") tw_195) (fun _ h9 => h9) rfl d_Md_arrive_38 ?_
            refine hb_tv (.ref q_4) rfl ?_
            refine lv_iload_n hx hb d_Md_arrive_41 rfl (lv_at hl 2 rfl) ?_
            refine lv_iconst (v := (-1)) hx hb d_Md_arrive_42 (by decide +kernel) ?_
            refine tw_astI (ct := ct) (x := (-1)) hx hb hK hP hD hS hO_1 m_4 rfl ((fun (a_0 : Int32) (a_1 : Int32) (k_0 : ¬ (a_0 < 0)) (k_1 : ¬ (a_1 ≤ a_0)) (k_2 : ¬ (20 < a_1)) => (show vp_in (a_0) 20 from by have z0 : (0 : Int32).toInt = 0 := (by decide +kernel); have z1 : (20 : Int32).toInt = 20 := (by decide +kernel); have r0 := fb_rng (a_0); have r1 := fb_rng (a_1); have e0 := k_0; rw [Int32.lt_iff_toInt_lt, z0] at e0; have e1 := k_1; rw [Int32.le_iff_toInt_le] at e1; have e2 := k_2; rw [Int32.lt_iff_toInt_lt, z1] at e2; rw [vp_in_iff]; omega)) v1_1 x_2 iv0_1 c_3 b_2.2) ⟨by decide +kernel, by decide +kernel⟩ d_Md_arrive_43 (fun f_2 H locs hP hD hS hO_2 hE_2 w_11 ow_11 hF_2 => ?_)
            have hA_2 := hA_1.trans hE_2
            have hQ := hQ f_2 hF_2
            have hQ := hQ hO_2
            refine lv_aload_n hx hb d_Md_arrive_44 rfl (lv_at hl 1 rfl) ?_
            refine tw_getr (D := (dC, dI)) (C := R_Md) (T := F_Md) (N := 64) (ci := 7) (kd := 27) (ct := ct) hx hb htb i_Md hown hK hP hO_2 (hA_2.m m0) rfl rfl 16 (by decide) (htb (.fieldLink R_Md 79 "WaterMenModel" "wayOf" "[I") tw_69) (fun _ h9 => h9) rfl d_Md_arrive_45 (fun q_12 e_12 m_12 => ?_)
            have hQ := hQ q_12 e_12
            refine lv_aload_n hx hb d_Md_arrive_48 rfl (lv_at hl 1 rfl) ?_
            refine tw_getr (D := (dC, dI)) (C := R_Md) (T := F_Md) (N := 64) (ci := 7) (kd := 27) (ct := ct) hx hb htb i_Md hown hK hP hO_2 (hA_2.m m0) rfl rfl 49 (by decide) (htb (.fieldLink R_Md 152 "WaterMenModel" "tripMan" "[I") tw_197) (fun _ h9 => h9) rfl d_Md_arrive_49 (fun q_13 e_13 m_13 => ?_)
            have hQ := hQ q_13 e_13
            refine lv_iload_n hx hb d_Md_arrive_52 rfl (lv_at hl 0 rfl) ?_
            refine tw_aldI (ct := ct) hx hb hK hP hO_2 m_13 rfl (hb_inl c_6 b_5.2 (by decide +kernel)) d_Md_arrive_53 (fun x_14 e_14 b_14 => ?_)
            have hQ := hQ x_14 e_14
            refine lv_iconst (v := (-1)) hx hb d_Md_arrive_54 (by decide +kernel) ?_
            refine tw_astI (ct := ct) (x := (-1)) hx hb hK hP hD hS hO_2 m_12 rfl (hb_inl b_14.1 b_14.2 (by decide +kernel)) (i32_full _) d_Md_arrive_55 (fun f_3 H locs hP hD hS hO_3 hE_3 w_15 ow_15 hF_3 => ?_)
            have hA_3 := hA_2.trans hE_3
            have hQ := hQ f_3 hF_3
            have hQ := hQ hO_3
            refine lv_iinc (v := (v1_1 + 1)) (lv' := [(1, .int (v1_1 + 1)), (2, .int x_5), (0, .ref q0)]) hx hb d_Md_arrive_56 hl (k := 2) rfl rfl (by decide) rfl (fun ls hl => ?_)
            refine lv_goto (tgt := 2) hx hb d_Md_arrive_59 (by decide) ?_
            exact ih_1 (n_1 - 1) (ms_1 ((fun (a_0 : Int32) (a_1 : Int32) (k_0 : ¬ (a_1 ≤ a_0)) (k_1 : ¬ (20 < a_1)) => (show 1 ≤ (20 : Int32).toInt - (a_0).toInt ∧ (20 : Int32).toInt - ((a_0) + (1 : Int32)).toInt + 1 ≤ (20 : Int32).toInt - (a_0).toInt from by have z0 : (1 : Int32).toInt = 1 := (by decide +kernel); have z1 : (20 : Int32).toInt = 20 := (by decide +kernel); have r0 := fb_rng (a_0); have r1 := fb_rng (a_1); have e0 := k_0; rw [Int32.le_iff_toInt_le] at e0; have e1 := k_1; rw [Int32.lt_iff_toInt_lt, z1] at e1; obtain ⟨n_0, hn_0, s0⟩ := nd_add (x := (a_0)) (y := (1 : Int32)) (by (try rw [z0]); omega) (by (try rw [z0]); omega); rw [z0] at s0; rw [hn_0]; (try rw [z1]); omega)) v1_1 x_2 c_3 b_2.2) hm_1) (v1_1 + 1) _ _ _ _ _ hP hD hS hO_3 (((hE_1.trans hE_2).trans hE_3).mono (by decide +kernel)) (show ¬ ((v1_1 + 1) < 0) from by have e0 := iv0_1; rw [Int32.lt_iff_toInt_lt] at e0; have e1 := iv1_1; rw [Int32.lt_iff_toInt_lt] at e1; have z0 : (0 : Int32).toInt = 0 := (by decide +kernel); have z1 : (1 : Int32).toInt = 1 := (by decide +kernel); have z2 : (20 : Int32).toInt = 20 := (by decide +kernel); have ss := fb_addI (x := v1_1) (y := 1) (by omega) (by omega); rw [Int32.lt_iff_toInt_lt]; omega) (show ¬ (20 < (v1_1 + 1)) from ((fun (a_0 : Int32) (a_1 : Int32) (k_0 : ¬ (a_1 ≤ a_0)) (k_1 : ¬ (20 < a_1)) => (show ¬ (20 < (a_0 + 1)) from by have z0 : (1 : Int32).toInt = 1 := (by decide +kernel); have z1 : (20 : Int32).toInt = 20 := (by decide +kernel); have r0 := fb_rng (a_0); have r1 := fb_rng (a_1); have e0 := k_0; rw [Int32.le_iff_toInt_le] at e0; have e1 := k_1; rw [Int32.lt_iff_toInt_lt, z1] at e1; obtain ⟨n_0, hn_0, s0⟩ := nd_add (x := (a_0)) (y := (1 : Int32)) (by (try rw [z0]); omega) (by (try rw [z0]); omega); rw [z0] at s0; rw [hn_0, Int32.lt_iff_toInt_lt, z1]; omega)) v1_1 x_2 c_3 b_2.2)) (by exact ms_2 ((fun (a_0 : Int32) (a_1 : Int32) (k_0 : ¬ (a_1 ≤ a_0)) (k_1 : ¬ (20 < a_1)) => (show 1 ≤ (20 : Int32).toInt - (a_0).toInt ∧ (20 : Int32).toInt - ((a_0) + (1 : Int32)).toInt + 1 ≤ (20 : Int32).toInt - (a_0).toInt from by have z0 : (1 : Int32).toInt = 1 := (by decide +kernel); have z1 : (20 : Int32).toInt = 20 := (by decide +kernel); have r0 := fb_rng (a_0); have r1 := fb_rng (a_1); have e0 := k_0; rw [Int32.le_iff_toInt_le] at e0; have e1 := k_1; rw [Int32.lt_iff_toInt_lt, z1] at e1; obtain ⟨n_0, hn_0, s0⟩ := nd_add (x := (a_0)) (y := (1 : Int32)) (by (try rw [z0]); omega) (by (try rw [z0]); omega); rw [z0] at s0; rw [hn_0]; (try rw [z1]); omega)) v1_1 x_2 c_3 b_2.2) hm_1) (by rw [← hrec_1, wpR_Md_arrive_w_2_1_pos (ms_3 ((fun (a_0 : Int32) (a_1 : Int32) (k_0 : ¬ (a_1 ≤ a_0)) (k_1 : ¬ (20 < a_1)) => (show 1 ≤ (20 : Int32).toInt - (a_0).toInt ∧ (20 : Int32).toInt - ((a_0) + (1 : Int32)).toInt + 1 ≤ (20 : Int32).toInt - (a_0).toInt from by have z0 : (1 : Int32).toInt = 1 := (by decide +kernel); have z1 : (20 : Int32).toInt = 20 := (by decide +kernel); have r0 := fb_rng (a_0); have r1 := fb_rng (a_1); have e0 := k_0; rw [Int32.le_iff_toInt_le] at e0; have e1 := k_1; rw [Int32.lt_iff_toInt_lt, z1] at e1; obtain ⟨n_0, hn_0, s0⟩ := nd_add (x := (a_0)) (y := (1 : Int32)) (by (try rw [z0]); omega) (by (try rw [z0]); omega); rw [z0] at s0; rw [hn_0]; (try rw [z1]); omega)) v1_1 x_2 c_3 b_2.2) hm_1)] at hQ; exact hQ) (lv_sub hl [2, 0] rfl)
          · have hQ := hQ.2 c_10
            refine lv_goto (tgt := 56) hx hb d_Md_arrive_34 (by decide) ?_
            refine lv_iinc (v := (v1_1 + 1)) (lv' := [(1, .int (v1_1 + 1)), (2, .int x_5), (0, .ref q0)]) hx hb d_Md_arrive_56 hl (k := 2) rfl rfl (by decide) rfl (fun ls hl => ?_)
            refine lv_goto (tgt := 2) hx hb d_Md_arrive_59 (by decide) ?_
            exact ih_1 (n_1 - 1) (ms_1 ((fun (a_0 : Int32) (a_1 : Int32) (k_0 : ¬ (a_1 ≤ a_0)) (k_1 : ¬ (20 < a_1)) => (show 1 ≤ (20 : Int32).toInt - (a_0).toInt ∧ (20 : Int32).toInt - ((a_0) + (1 : Int32)).toInt + 1 ≤ (20 : Int32).toInt - (a_0).toInt from by have z0 : (1 : Int32).toInt = 1 := (by decide +kernel); have z1 : (20 : Int32).toInt = 20 := (by decide +kernel); have r0 := fb_rng (a_0); have r1 := fb_rng (a_1); have e0 := k_0; rw [Int32.le_iff_toInt_le] at e0; have e1 := k_1; rw [Int32.lt_iff_toInt_lt, z1] at e1; obtain ⟨n_0, hn_0, s0⟩ := nd_add (x := (a_0)) (y := (1 : Int32)) (by (try rw [z0]); omega) (by (try rw [z0]); omega); rw [z0] at s0; rw [hn_0]; (try rw [z1]); omega)) v1_1 x_2 c_3 b_2.2) hm_1) (v1_1 + 1) _ _ _ _ _ hP hD hS hO_1 (hE_1.mono (by decide +kernel)) (show ¬ ((v1_1 + 1) < 0) from by have e0 := iv0_1; rw [Int32.lt_iff_toInt_lt] at e0; have e1 := iv1_1; rw [Int32.lt_iff_toInt_lt] at e1; have z0 : (0 : Int32).toInt = 0 := (by decide +kernel); have z1 : (1 : Int32).toInt = 1 := (by decide +kernel); have z2 : (20 : Int32).toInt = 20 := (by decide +kernel); have ss := fb_addI (x := v1_1) (y := 1) (by omega) (by omega); rw [Int32.lt_iff_toInt_lt]; omega) (show ¬ (20 < (v1_1 + 1)) from ((fun (a_0 : Int32) (a_1 : Int32) (k_0 : ¬ (a_1 ≤ a_0)) (k_1 : ¬ (20 < a_1)) => (show ¬ (20 < (a_0 + 1)) from by have z0 : (1 : Int32).toInt = 1 := (by decide +kernel); have z1 : (20 : Int32).toInt = 20 := (by decide +kernel); have r0 := fb_rng (a_0); have r1 := fb_rng (a_1); have e0 := k_0; rw [Int32.le_iff_toInt_le] at e0; have e1 := k_1; rw [Int32.lt_iff_toInt_lt, z1] at e1; obtain ⟨n_0, hn_0, s0⟩ := nd_add (x := (a_0)) (y := (1 : Int32)) (by (try rw [z0]); omega) (by (try rw [z0]); omega); rw [z0] at s0; rw [hn_0, Int32.lt_iff_toInt_lt, z1]; omega)) v1_1 x_2 c_3 b_2.2)) (by exact ms_2 ((fun (a_0 : Int32) (a_1 : Int32) (k_0 : ¬ (a_1 ≤ a_0)) (k_1 : ¬ (20 < a_1)) => (show 1 ≤ (20 : Int32).toInt - (a_0).toInt ∧ (20 : Int32).toInt - ((a_0) + (1 : Int32)).toInt + 1 ≤ (20 : Int32).toInt - (a_0).toInt from by have z0 : (1 : Int32).toInt = 1 := (by decide +kernel); have z1 : (20 : Int32).toInt = 20 := (by decide +kernel); have r0 := fb_rng (a_0); have r1 := fb_rng (a_1); have e0 := k_0; rw [Int32.le_iff_toInt_le] at e0; have e1 := k_1; rw [Int32.lt_iff_toInt_lt, z1] at e1; obtain ⟨n_0, hn_0, s0⟩ := nd_add (x := (a_0)) (y := (1 : Int32)) (by (try rw [z0]); omega) (by (try rw [z0]); omega); rw [z0] at s0; rw [hn_0]; (try rw [z1]); omega)) v1_1 x_2 c_3 b_2.2) hm_1) (by rw [← hrec_1, wpR_Md_arrive_w_2_1_pos (ms_3 ((fun (a_0 : Int32) (a_1 : Int32) (k_0 : ¬ (a_1 ≤ a_0)) (k_1 : ¬ (20 < a_1)) => (show 1 ≤ (20 : Int32).toInt - (a_0).toInt ∧ (20 : Int32).toInt - ((a_0) + (1 : Int32)).toInt + 1 ≤ (20 : Int32).toInt - (a_0).toInt from by have z0 : (1 : Int32).toInt = 1 := (by decide +kernel); have z1 : (20 : Int32).toInt = 20 := (by decide +kernel); have r0 := fb_rng (a_0); have r1 := fb_rng (a_1); have e0 := k_0; rw [Int32.le_iff_toInt_le] at e0; have e1 := k_1; rw [Int32.lt_iff_toInt_lt, z1] at e1; obtain ⟨n_0, hn_0, s0⟩ := nd_add (x := (a_0)) (y := (1 : Int32)) (by (try rw [z0]); omega) (by (try rw [z0]); omega); rw [z0] at s0; rw [hn_0]; (try rw [z1]); omega)) v1_1 x_2 c_3 b_2.2) hm_1)] at hQ; exact hQ) (lv_sub hl [2, 0] rfl)
  exact cut_1 ((20 : Int32).toInt - (0 : Int32).toInt).toNat (0 : Int32) _ _ _ _ _ hP hD hS hO_0 Ext.rf (by decide +kernel) (by decide +kernel) (by exact ms_e _ _) hQ (lv_sub hl [1, 0] rfl)
def WL_Md_pay_w_2_1 : List (Nat × Nat) := [(27, 56), (27, 58), (74, 1000)]
def W_Md_pay_w : List (Nat × Nat) := [(27, 56), (27, 58), (74, 1000)]
def wpB_Md_pay_w_2_1 (L : List Nat) (f : TF) (q0 : Nat) (p_0 : Int32) (Q : List Nat → TF → Prop) (rec_1 : Int32 → List Nat → TF → Prop) (v2_1 : Int32) (L_1 : List Nat) (f_1 : TF) : Prop := Ok L_1 f_1 → Ext WL_Md_pay_w_2_1 L f L_1 f_1 → ∀ x_2 : Int32, ti f_1 q0 60 = x_2 → ((x_2 ≤ v2_1 → Q L_1 f_1) ∧ (¬ (x_2 ≤ v2_1) → ∀ q_4 : Nat, tr f_1 q0 62 = some q_4 → ∀ x_5 : Int32, ti f_1 q_4 (v2_1 : Int32).toNatClampNeg = x_5 → ((x_5 ≤ p_0 → rec_1 (v2_1 + 1) L_1 f_1) ∧ (¬ (x_5 ≤ p_0) → ∀ x_7 : Int64, tl f_1 q0 56 = x_7 → ∀ q_8 : Nat, tr f_1 q0 61 = some q_8 → ∀ x_9 : Int32, ti f_1 q_8 (v2_1 : Int32).toNatClampNeg = x_9 → ∀ y_10 : Int32, y_10 = lg_cmp (x_7 : Int64) ((x_9 : Int32).toInt64 : Int64) → ((0 ≤ y_10 → ∀ x_12 : Int64, tl f_1 q0 56 = x_12 → ∀ y_14 : Int64, y_14 = (x_12 : Int64) - ((x_9 : Int32).toInt64 : Int64) → ∀ f_2 : TF, f_2 = sL f_1 q0 56 y_14 → Ok L_1 f_2 → ∀ q_16 : Nat, tr f_2 q0 63 = some q_16 → ∀ x_17 : Int32, ti f_2 q_16 (v2_1 : Int32).toNatClampNeg = x_17 → ∀ f_3 : TF, f_3 = sI f_2 q_16 (v2_1 : Int32).toNatClampNeg (x_17 + x_9) → Ok L_1 f_3 → ∀ x_20 : Int64, tl f_3 q0 58 = x_20 → ∀ y_22 : Int64, y_22 = (x_20 : Int64) + ((x_9 : Int32).toInt64 : Int64) → ∀ f_4 : TF, f_4 = sL f_3 q0 58 y_22 → Ok L_1 f_4 → rec_1 (v2_1 + 1) L_1 f_4) ∧ (¬ (0 ≤ y_10) → rec_1 (v2_1 + 1) L_1 f_1))))))
def wpL_Md_pay_w_2_1 (L : List Nat) (f : TF) (q0 : Nat) (p_0 : Int32) (Q : List Nat → TF → Prop) : Nat → Int32 → List Nat → TF → Prop
  | 0 => fun v2_1 L_1 f_1 => wpB_Md_pay_w_2_1 L f q0 p_0 Q (fun _ _ _ => True) v2_1 L_1 f_1
  | n + 1 => fun v2_1 L_1 f_1 => wpB_Md_pay_w_2_1 L f q0 p_0 Q (wpL_Md_pay_w_2_1 L f q0 p_0 Q n) v2_1 L_1 f_1
def wpR_Md_pay_w_2_1 (L : List Nat) (f : TF) (q0 : Nat) (p_0 : Int32) (Q : List Nat → TF → Prop) : Nat → Int32 → List Nat → TF → Prop
  | 0 => fun _ _ _ => True
  | n + 1 => wpL_Md_pay_w_2_1 L f q0 p_0 Q n
theorem wpL_Md_pay_w_2_1_eq {L : List Nat} {f : TF} {q0 : Nat} {p_0 : Int32} {Q : List Nat → TF → Prop} {n : Nat} : wpL_Md_pay_w_2_1 L f q0 p_0 Q n = wpB_Md_pay_w_2_1 L f q0 p_0 Q (wpR_Md_pay_w_2_1 L f q0 p_0 Q n) := by cases n <;> rfl
theorem wpR_Md_pay_w_2_1_pos {L : List Nat} {f : TF} {q0 : Nat} {p_0 : Int32} {Q : List Nat → TF → Prop} {n : Nat} (h : 0 < n) : wpR_Md_pay_w_2_1 L f q0 p_0 Q n = wpL_Md_pay_w_2_1 L f q0 p_0 Q (n - 1) := by
  cases n with
  | zero => omega
  | succ n => rfl
def wp_Md_pay_w (L : List Nat) (f : TF) (q0 : Nat) (p_0 : Int32) (Q : List Nat → TF → Prop) : Prop := wpL_Md_pay_w_2_1 L f q0 p_0 Q (((30 : Int32).toInt - (0 : Int32).toInt).toNat) (0 : Int32) L f
set_option maxHeartbeats 4000000 in
set_option maxRecDepth 100000 in
theorem c_Md_pay_w (l : Launch) (dC : Nat → ClassId) (dI : Nat → Nat → Nat) (ct : Nat → ClassId) (L : List Nat) (f : TF) (hO_0 : Ok L f) (q0 : Nat) (m0 : q0 ∈ L ∧ tk f q0 = 27) (sz : Nat) (p_0 : Int32)   (Q : List Nat → TF → Prop) (hQ : wp_Md_pay_w L f q0 p_0 Q) : Met l y_Md_pay (.code y_Md_pay b_Md_pay 3 none :: TB) ({ frames := 0, cells := 0, slots := 0, locals := 0 }) (va_Pc [.ref q0, .int p_0] (PC dC dI (TW ct L f) (TT ct) sz)) (va_Qv (fun (u : TSt) => Ok u.1 u.2 ∧ Ext W_Md_pay_w L f u.1 u.2 ∧ (True) ∧ Q u.1 u.2) (fun (u : TSt) t => va_P (dC, dI) vwCl (TW ct u.1 u.2) t.heap ∧ va_K (dC, dI) vwCl (TT ct) t ∧ va_D (va_A (TW ct L f) sz) (TW ct u.1 u.2)) (va_A (TW ct L f) sz)) 0 0 (va_A (TW ct L f) sz) := by
  refine Met.ofW (cc := b_Md_pay) (maxL := 3) (ret := none) (by decide) rfl ?_
  intro p e s m args below meth c s₁ B hml hv
  obtain ⟨rfl, hsz, hP, hK, hD0, hN⟩ := hv
  have hx := B.exec
  have hb := B.bytes
  have hr := B.returns
  have hts := atoms_spec (ws := (.code y_Md_pay b_Md_pay 3 none :: TB)) B.pre
  have htb := fun w (h : w ∈ TB) => hts w (List.mem_cons_of_mem _ h)
  have hown : s.vm.findClass R_Md = some m.cls := findClass_of_methodNamed B.named
  have hlocks := B.notSynchronized
  have hl := lv_entry ([.ref q0, .int p_0]) (n := 3) (Nat.le_of_ble_eq_true rfl)
  rw [lg_entry_eq]
  generalize (lg_sl ([.ref q0, .int p_0]) ++ List.replicate (3 - (lg_sl ([.ref q0, .int p_0])).length) Slot.unset).toArray = ls at hl ⊢
  have hl : lv_has ls 3 [(0, .ref q0), (1, .int p_0)] := hl
  subst hsz
  have hD := hD0.self (sz := s.heap.size)
  obtain ⟨A, hAe⟩ : ∃ A, va_A (TW ct L f) s.heap.size = A := ⟨_, rfl⟩
  rw [hAe] at hD
  have hA : ∀ q : Nat, s.heap.size ≤ q → A q := fun q h => by rw [← hAe]; exact Or.inr h
  have hS : va_S A s.heap s.heap [] := va_S.rf
  have hA_0 : Ext [] L f L f := Ext.rf
  suffices hGo : ∀ (H : Heap) (locs : List Loc), va_P (dC, dI) vwCl (TW ct L f) H → va_S A s.heap H locs → W p l e (headSpec (.code y_Md_pay b_Md_pay 3 none :: TB) ({ frames := 0, cells := 0, slots := 0, locals := 0 })).room s m [.ref q0, .int p_0].toArray below meth c H locs 0 0 (MQ below (va_Qv (fun (u : TSt) => Ok u.1 u.2 ∧ Ext W_Md_pay_w L f u.1 u.2 ∧ (True) ∧ Q u.1 u.2) (fun (u : TSt) t => va_P (dC, dI) vwCl (TW ct u.1 u.2) t.heap ∧ va_K (dC, dI) vwCl (TT ct) t ∧ va_D (va_A (TW ct L f) s.heap.size) (TW ct u.1 u.2)) (va_A (TW ct L f) s.heap.size)) [.ref q0, .int p_0].toArray s 0 0 (va_A (TW ct L f) s.heap.size)) (F0 m 0 ls []) from hGo _ _ hP hS
  clear hP hS
  intro H locs hP hS
  unfold wp_Md_pay_w at hQ
  refine lv_iconst (v := 0) hx hb d_Md_pay_0 (by decide +kernel) ?_
  refine lv_istore_n (lv' := [(2, .int 0), (0, .ref q0), (1, .int p_0)]) hx hb d_Md_pay_1 rfl hl (by decide) rfl (fun ls hl => ?_)
  have cut_1 : ∀ (n_1 : Nat) (v2_1 : Int32) (L_1 : List Nat) (f_1 : TF) (H : Heap) (locs : List Loc) (ls : Array Slot), va_P (dC, dI) vwCl (TW ct L_1 f_1) H → va_D A (TW ct L_1 f_1) → va_S A s.heap H locs → Ok L_1 f_1 → Ext WL_Md_pay_w_2_1 L f L_1 f_1 → ¬ (v2_1 < 0) → ¬ (30 < v2_1) → (30 : Int32).toInt - (v2_1 : Int32).toInt ≤ (n_1 : Int) → wpL_Md_pay_w_2_1 L f q0 p_0 Q n_1 v2_1 L_1 f_1 → lv_has ls 3 [(0, .ref q0), (1, .int p_0), (2, .int v2_1)] → W p l e (headSpec (.code y_Md_pay b_Md_pay 3 none :: TB) ({ frames := 0, cells := 0, slots := 0, locals := 0 })).room s m [.ref q0, .int p_0].toArray below meth c H locs 0 0 (MQ below (va_Qv (fun (u : TSt) => Ok u.1 u.2 ∧ Ext W_Md_pay_w L f u.1 u.2 ∧ (True) ∧ Q u.1 u.2) (fun (u : TSt) t => va_P (dC, dI) vwCl (TW ct u.1 u.2) t.heap ∧ va_K (dC, dI) vwCl (TT ct) t ∧ va_D (va_A (TW ct L f) s.heap.size) (TW ct u.1 u.2)) (va_A (TW ct L f) s.heap.size)) [.ref q0, .int p_0].toArray s 0 0 (va_A (TW ct L f) s.heap.size)) (F0 m 2 ls []) := by
    intro n_1
    induction n_1 using Nat.strongRecOn with
    | _ n_1 ih_1 =>
      intro v2_1 L_1 f_1 H locs ls hP hD hS hO_1 hE_1 iv0_1 iv1_1 hm_1 hQ hl
      have hA_1 := hA_0.trans hE_1
      rw [wpL_Md_pay_w_2_1_eq] at hQ
      obtain ⟨rec_1, hrec_1⟩ : ∃ g, wpR_Md_pay_w_2_1 L f q0 p_0 Q n_1 = g := ⟨_, rfl⟩
      rw [hrec_1] at hQ
      unfold wpB_Md_pay_w_2_1 at hQ
      have hQ := hQ hO_1 hE_1
      refine lv_iload_n hx hb d_Md_pay_2 rfl (lv_at hl 2 rfl) ?_
      refine lv_aload_n hx hb d_Md_pay_3 rfl (lv_at hl 0 rfl) ?_
      refine tw_geti (D := (dC, dI)) (C := R_Md) (T := F_Md) (N := 64) (ci := 7) (kd := 27) (ct := ct) hx hb htb i_Md hown hK hP hO_1 (hA_1.m m0) rfl rfl 60 (by decide) (htb (.fieldLink R_Md 323 "WaterMenModel" "pensioners" "I") tw_202) (fun _ h9 => h9) rfl d_Md_pay_4 (fun x_2 e_2 b_2 => ?_)
      have hQ := hQ x_2 e_2
      refine lv_icmp_ge (tgt := 91) hx hb d_Md_pay_7 (by decide) (fun c_3 => ?_) (fun c_3 => ?_)
      · have hQ := hQ.1 c_3
        refine W.widen (k := 0) (n := 0) (Nat.le_of_ble_eq_true rfl) (Nat.le_of_ble_eq_true rfl) ?_
        exact W.vret hx hb hr (fun t ht hW => ⟨⟨(L_1, f_1), rfl, ⟨hO_1, hA_1.mono (by decide +kernel), trivial, hQ⟩, by rw [ht]; exact hP, va_K.moved hW.alike hK, by rw [hAe]; exact hD⟩, by rw [hAe]; exact hS.F ht⟩) (by rw [hAe]; exact hS.2.2) d_Md_pay_91
      · have hQ := hQ.2 c_3
        refine lv_iload_n hx hb d_Md_pay_10 rfl (lv_at hl 1 rfl) ?_
        refine lv_aload_n hx hb d_Md_pay_11 rfl (lv_at hl 0 rfl) ?_
        refine tw_getr (D := (dC, dI)) (C := R_Md) (T := F_Md) (N := 64) (ci := 7) (kd := 27) (ct := ct) hx hb htb i_Md hown hK hP hO_1 (hA_1.m m0) rfl rfl 62 (by decide) (htb (.fieldLink R_Md 180 "WaterMenModel" "pensionEnd" "[I") tw_203) (fun _ h9 => h9) rfl d_Md_pay_12 (fun q_4 e_4 m_4 => ?_)
        have hQ := hQ q_4 e_4
        refine lv_iload_n hx hb d_Md_pay_15 rfl (lv_at hl 2 rfl) ?_
        refine tw_aldI (ct := ct) hx hb hK hP hO_1 m_4 rfl ((fun (a_0 : Int32) (a_1 : Int32) (k_0 : ¬ (a_0 < 0)) (k_1 : ¬ (a_1 ≤ a_0)) (k_2 : ¬ (30 < a_1)) => (show vp_in (a_0) 30 from by have z0 : (0 : Int32).toInt = 0 := (by decide +kernel); have z1 : (30 : Int32).toInt = 30 := (by decide +kernel); have r0 := fb_rng (a_0); have r1 := fb_rng (a_1); have e0 := k_0; rw [Int32.lt_iff_toInt_lt, z0] at e0; have e1 := k_1; rw [Int32.le_iff_toInt_le] at e1; have e2 := k_2; rw [Int32.lt_iff_toInt_lt, z1] at e2; rw [vp_in_iff]; omega)) v2_1 x_2 iv0_1 c_3 b_2.2) d_Md_pay_16 (fun x_5 e_5 b_5 => ?_)
        have hQ := hQ x_5 e_5
        refine lv_icmp_ge (tgt := 85) hx hb d_Md_pay_17 (by decide) (fun c_6 => ?_) (fun c_6 => ?_)
        · have hQ := hQ.1 c_6
          refine lv_iinc (v := (v2_1 + 1)) (lv' := [(2, .int (v2_1 + 1)), (0, .ref q0), (1, .int p_0)]) hx hb d_Md_pay_85 hl (k := 2) rfl rfl (by decide) rfl (fun ls hl => ?_)
          refine lv_goto (tgt := 2) hx hb d_Md_pay_88 (by decide) ?_
          exact ih_1 (n_1 - 1) (ms_1 ((fun (a_0 : Int32) (a_1 : Int32) (k_0 : ¬ (a_1 ≤ a_0)) (k_1 : ¬ (30 < a_1)) => (show 1 ≤ (30 : Int32).toInt - (a_0).toInt ∧ (30 : Int32).toInt - ((a_0) + (1 : Int32)).toInt + 1 ≤ (30 : Int32).toInt - (a_0).toInt from by have z0 : (1 : Int32).toInt = 1 := (by decide +kernel); have z1 : (30 : Int32).toInt = 30 := (by decide +kernel); have r0 := fb_rng (a_0); have r1 := fb_rng (a_1); have e0 := k_0; rw [Int32.le_iff_toInt_le] at e0; have e1 := k_1; rw [Int32.lt_iff_toInt_lt, z1] at e1; obtain ⟨n_0, hn_0, s0⟩ := nd_add (x := (a_0)) (y := (1 : Int32)) (by (try rw [z0]); omega) (by (try rw [z0]); omega); rw [z0] at s0; rw [hn_0]; (try rw [z1]); omega)) v2_1 x_2 c_3 b_2.2) hm_1) (v2_1 + 1) _ _ _ _ _ hP hD hS hO_1 (hE_1.mono (by decide +kernel)) (show ¬ ((v2_1 + 1) < 0) from by have e0 := iv0_1; rw [Int32.lt_iff_toInt_lt] at e0; have e1 := iv1_1; rw [Int32.lt_iff_toInt_lt] at e1; have z0 : (0 : Int32).toInt = 0 := (by decide +kernel); have z1 : (1 : Int32).toInt = 1 := (by decide +kernel); have z2 : (30 : Int32).toInt = 30 := (by decide +kernel); have ss := fb_addI (x := v2_1) (y := 1) (by omega) (by omega); rw [Int32.lt_iff_toInt_lt]; omega) (show ¬ (30 < (v2_1 + 1)) from ((fun (a_0 : Int32) (a_1 : Int32) (k_0 : ¬ (a_1 ≤ a_0)) (k_1 : ¬ (30 < a_1)) => (show ¬ (30 < (a_0 + 1)) from by have z0 : (1 : Int32).toInt = 1 := (by decide +kernel); have z1 : (30 : Int32).toInt = 30 := (by decide +kernel); have r0 := fb_rng (a_0); have r1 := fb_rng (a_1); have e0 := k_0; rw [Int32.le_iff_toInt_le] at e0; have e1 := k_1; rw [Int32.lt_iff_toInt_lt, z1] at e1; obtain ⟨n_0, hn_0, s0⟩ := nd_add (x := (a_0)) (y := (1 : Int32)) (by (try rw [z0]); omega) (by (try rw [z0]); omega); rw [z0] at s0; rw [hn_0, Int32.lt_iff_toInt_lt, z1]; omega)) v2_1 x_2 c_3 b_2.2)) (by exact ms_2 ((fun (a_0 : Int32) (a_1 : Int32) (k_0 : ¬ (a_1 ≤ a_0)) (k_1 : ¬ (30 < a_1)) => (show 1 ≤ (30 : Int32).toInt - (a_0).toInt ∧ (30 : Int32).toInt - ((a_0) + (1 : Int32)).toInt + 1 ≤ (30 : Int32).toInt - (a_0).toInt from by have z0 : (1 : Int32).toInt = 1 := (by decide +kernel); have z1 : (30 : Int32).toInt = 30 := (by decide +kernel); have r0 := fb_rng (a_0); have r1 := fb_rng (a_1); have e0 := k_0; rw [Int32.le_iff_toInt_le] at e0; have e1 := k_1; rw [Int32.lt_iff_toInt_lt, z1] at e1; obtain ⟨n_0, hn_0, s0⟩ := nd_add (x := (a_0)) (y := (1 : Int32)) (by (try rw [z0]); omega) (by (try rw [z0]); omega); rw [z0] at s0; rw [hn_0]; (try rw [z1]); omega)) v2_1 x_2 c_3 b_2.2) hm_1) (by rw [← hrec_1, wpR_Md_pay_w_2_1_pos (ms_3 ((fun (a_0 : Int32) (a_1 : Int32) (k_0 : ¬ (a_1 ≤ a_0)) (k_1 : ¬ (30 < a_1)) => (show 1 ≤ (30 : Int32).toInt - (a_0).toInt ∧ (30 : Int32).toInt - ((a_0) + (1 : Int32)).toInt + 1 ≤ (30 : Int32).toInt - (a_0).toInt from by have z0 : (1 : Int32).toInt = 1 := (by decide +kernel); have z1 : (30 : Int32).toInt = 30 := (by decide +kernel); have r0 := fb_rng (a_0); have r1 := fb_rng (a_1); have e0 := k_0; rw [Int32.le_iff_toInt_le] at e0; have e1 := k_1; rw [Int32.lt_iff_toInt_lt, z1] at e1; obtain ⟨n_0, hn_0, s0⟩ := nd_add (x := (a_0)) (y := (1 : Int32)) (by (try rw [z0]); omega) (by (try rw [z0]); omega); rw [z0] at s0; rw [hn_0]; (try rw [z1]); omega)) v2_1 x_2 c_3 b_2.2) hm_1)] at hQ; exact hQ) (lv_sub hl [1, 2, 0] rfl)
        · have hQ := hQ.2 c_6
          refine lv_aload_n hx hb d_Md_pay_20 rfl (lv_at hl 0 rfl) ?_
          refine tw_getl (D := (dC, dI)) (C := R_Md) (T := F_Md) (N := 64) (ci := 7) (kd := 27) (ct := ct) hx hb htb i_Md hown hK hP (hA_1.m m0) rfl rfl 56 (by decide) (htb (.fieldLink R_Md 316 "WaterMenModel" "box" "J") tw_204) (fun _ h9 => h9) rfl d_Md_pay_21 (fun x_7 e_7 => ?_)
          have hQ := hQ x_7 e_7
          refine lv_aload_n hx hb d_Md_pay_24 rfl (lv_at hl 0 rfl) ?_
          refine tw_getr (D := (dC, dI)) (C := R_Md) (T := F_Md) (N := 64) (ci := 7) (kd := 27) (ct := ct) hx hb htb i_Md hown hK hP hO_1 (hA_1.m m0) rfl rfl 61 (by decide) (htb (.fieldLink R_Md 177 "WaterMenModel" "pensionOf" "[I") tw_205) (fun _ h9 => h9) rfl d_Md_pay_25 (fun q_8 e_8 m_8 => ?_)
          have hQ := hQ q_8 e_8
          refine lv_iload_n hx hb d_Md_pay_28 rfl (lv_at hl 2 rfl) ?_
          refine tw_aldI (ct := ct) hx hb hK hP hO_1 m_8 rfl ((fun (a_0 : Int32) (a_1 : Int32) (k_0 : ¬ (a_0 < 0)) (k_1 : ¬ (a_1 ≤ a_0)) (k_2 : ¬ (30 < a_1)) => (show vp_in (a_0) 30 from by have z0 : (0 : Int32).toInt = 0 := (by decide +kernel); have z1 : (30 : Int32).toInt = 30 := (by decide +kernel); have r0 := fb_rng (a_0); have r1 := fb_rng (a_1); have e0 := k_0; rw [Int32.lt_iff_toInt_lt, z0] at e0; have e1 := k_1; rw [Int32.le_iff_toInt_le] at e1; have e2 := k_2; rw [Int32.lt_iff_toInt_lt, z1] at e2; rw [vp_in_iff]; omega)) v2_1 x_2 iv0_1 c_3 b_2.2) d_Md_pay_29 (fun x_9 e_9 b_9 => ?_)
          have hQ := hQ x_9 e_9
          refine lv_i2l hx hb d_Md_pay_30 rfl ?_
          refine W.lcmp hx hb d_Md_pay_31 ?_
          refine hb_eqi (fun y_10 hy_10 => ?_)
          have hQ := hQ y_10 hy_10
          refine lv_if_ge (tgt := 38) hx hb d_Md_pay_32 (by decide) (fun c_11 => ?_) (fun c_11 => ?_)
          · have hQ := hQ.1 c_11
            refine lv_aload_n hx hb d_Md_pay_38 rfl (lv_at hl 0 rfl) ?_
            refine lv_dup hx hb d_Md_pay_39 rfl ?_
            refine tw_getl (D := (dC, dI)) (C := R_Md) (T := F_Md) (N := 64) (ci := 7) (kd := 27) (ct := ct) hx hb htb i_Md hown hK hP (hA_1.m m0) rfl rfl 56 (by decide) (htb (.fieldLink R_Md 316 "WaterMenModel" "box" "J") tw_204) (fun _ h9 => h9) rfl d_Md_pay_40 (fun x_12 e_12 => ?_)
            have hQ := hQ x_12 e_12
            refine lv_aload_n hx hb d_Md_pay_43 rfl (lv_at hl 0 rfl) ?_
            refine tw_getR (D := (dC, dI)) (C := R_Md) (T := F_Md) (N := 64) (ci := 7) (kd := 27) (ct := ct) hx hb htb i_Md hown hK hP (hA_1.m m0) rfl rfl 61 e_8 (by decide) (htb (.fieldLink R_Md 177 "WaterMenModel" "pensionOf" "[I") tw_205) (fun _ h9 => h9) rfl d_Md_pay_44 ?_
            refine hb_tv (.ref q_8) rfl ?_
            refine lv_iload_n hx hb d_Md_pay_47 rfl (lv_at hl 2 rfl) ?_
            refine tw_aldxI (ct := ct) (x := x_9) hx hb hK hP m_8 rfl ((fun (a_0 : Int32) (a_1 : Int32) (k_0 : ¬ (a_0 < 0)) (k_1 : ¬ (a_1 ≤ a_0)) (k_2 : ¬ (30 < a_1)) => (show vp_in (a_0) 30 from by have z0 : (0 : Int32).toInt = 0 := (by decide +kernel); have z1 : (30 : Int32).toInt = 30 := (by decide +kernel); have r0 := fb_rng (a_0); have r1 := fb_rng (a_1); have e0 := k_0; rw [Int32.lt_iff_toInt_lt, z0] at e0; have e1 := k_1; rw [Int32.le_iff_toInt_le] at e1; have e2 := k_2; rw [Int32.lt_iff_toInt_lt, z1] at e2; rw [vp_in_iff]; omega)) v2_1 x_2 iv0_1 c_3 b_2.2) e_9 d_Md_pay_48 ?_
            refine lv_i2l hx hb d_Md_pay_49 rfl ?_
            refine lv_lsub hx hb d_Md_pay_50 ?_
            refine hb_eql (fun y_14 hy_14 => ?_)
            have hQ := hQ y_14 hy_14
            refine tw_putl (v := y_14) (D := (dC, dI)) (C := R_Md) (T := F_Md) (N := 64) (ci := 7) (kd := 27) (ct := ct) (ty := .long) hx hb htb i_Md t_Md t_Md_ok n_Md hown hK hP hD hS hO_1 (hA_1.m m0) rfl rfl 56 (by decide) (htb (.fieldLink R_Md 316 "WaterMenModel" "box" "J") tw_204) (fun _ h9 => h9) rfl (by decide +kernel) rfl rfl rfl d_Md_pay_51 (fun f_2 H locs hP hD hS hO_2 hE_2 w_15 hF_2 => ?_)
            have hA_2 := hA_1.trans hE_2
            have hQ := hQ f_2 hF_2
            have hQ := hQ hO_2
            refine lv_aload_n hx hb d_Md_pay_54 rfl (lv_at hl 0 rfl) ?_
            refine tw_getr (D := (dC, dI)) (C := R_Md) (T := F_Md) (N := 64) (ci := 7) (kd := 27) (ct := ct) hx hb htb i_Md hown hK hP hO_2 (hA_2.m m0) rfl rfl 63 (by decide) (htb (.fieldLink R_Md 183 "WaterMenModel" "gotten" "[I") tw_206) (fun _ h9 => h9) rfl d_Md_pay_55 (fun q_16 e_16 m_16 => ?_)
            have hQ := hQ q_16 e_16
            refine lv_iload_n hx hb d_Md_pay_58 rfl (lv_at hl 2 rfl) ?_
            refine lv_dup2_11 hx hb d_Md_pay_59 rfl rfl ?_
            refine tw_aldI (ct := ct) hx hb hK hP hO_2 m_16 rfl ((fun (a_0 : Int32) (a_1 : Int32) (k_0 : ¬ (a_0 < 0)) (k_1 : ¬ (a_1 ≤ a_0)) (k_2 : ¬ (30 < a_1)) => (show vp_in (a_0) 30 from by have z0 : (0 : Int32).toInt = 0 := (by decide +kernel); have z1 : (30 : Int32).toInt = 30 := (by decide +kernel); have r0 := fb_rng (a_0); have r1 := fb_rng (a_1); have e0 := k_0; rw [Int32.lt_iff_toInt_lt, z0] at e0; have e1 := k_1; rw [Int32.le_iff_toInt_le] at e1; have e2 := k_2; rw [Int32.lt_iff_toInt_lt, z1] at e2; rw [vp_in_iff]; omega)) v2_1 x_2 iv0_1 c_3 b_2.2) d_Md_pay_60 (fun x_17 e_17 b_17 => ?_)
            have hQ := hQ x_17 e_17
            refine lv_aload_n hx hb d_Md_pay_61 rfl (lv_at hl 0 rfl) ?_
            refine tw_getR (D := (dC, dI)) (C := R_Md) (T := F_Md) (N := 64) (ci := 7) (kd := 27) (ct := ct) hx hb htb i_Md hown hK hP (hA_2.m m0) rfl rfl 61 ((hE_2.er (hA_1.m m0) rfl).trans e_8) (by decide) (htb (.fieldLink R_Md 177 "WaterMenModel" "pensionOf" "[I") tw_205) (fun _ h9 => h9) rfl d_Md_pay_62 ?_
            refine hb_tv (.ref q_8) rfl ?_
            refine lv_iload_n hx hb d_Md_pay_65 rfl (lv_at hl 2 rfl) ?_
            refine tw_aldxI (ct := ct) (x := x_9) hx hb hK hP (hE_2.m m_8) rfl ((fun (a_0 : Int32) (a_1 : Int32) (k_0 : ¬ (a_0 < 0)) (k_1 : ¬ (a_1 ≤ a_0)) (k_2 : ¬ (30 < a_1)) => (show vp_in (a_0) 30 from by have z0 : (0 : Int32).toInt = 0 := (by decide +kernel); have z1 : (30 : Int32).toInt = 30 := (by decide +kernel); have r0 := fb_rng (a_0); have r1 := fb_rng (a_1); have e0 := k_0; rw [Int32.lt_iff_toInt_lt, z0] at e0; have e1 := k_1; rw [Int32.le_iff_toInt_le] at e1; have e2 := k_2; rw [Int32.lt_iff_toInt_lt, z1] at e2; rw [vp_in_iff]; omega)) v2_1 x_2 iv0_1 c_3 b_2.2) ((hE_2.ei m_8 rfl).trans e_9) d_Md_pay_66 ?_
            refine lv_iadd hx hb d_Md_pay_67 ?_
            refine tw_astI (ct := ct) (x := (x_17 + x_9)) hx hb hK hP hD hS hO_2 m_16 rfl ((fun (a_0 : Int32) (a_1 : Int32) (k_0 : ¬ (a_0 < 0)) (k_1 : ¬ (a_1 ≤ a_0)) (k_2 : ¬ (30 < a_1)) => (show vp_in (a_0) 30 from by have z0 : (0 : Int32).toInt = 0 := (by decide +kernel); have z1 : (30 : Int32).toInt = 30 := (by decide +kernel); have r0 := fb_rng (a_0); have r1 := fb_rng (a_1); have e0 := k_0; rw [Int32.lt_iff_toInt_lt, z0] at e0; have e1 := k_1; rw [Int32.le_iff_toInt_le] at e1; have e2 := k_2; rw [Int32.lt_iff_toInt_lt, z1] at e2; rw [vp_in_iff]; omega)) v2_1 x_2 iv0_1 c_3 b_2.2) (i32_full _) d_Md_pay_68 (fun f_3 H locs hP hD hS hO_3 hE_3 w_19 ow_19 hF_3 => ?_)
            have hA_3 := hA_2.trans hE_3
            have hQ := hQ f_3 hF_3
            have hQ := hQ hO_3
            refine lv_aload_n hx hb d_Md_pay_69 rfl (lv_at hl 0 rfl) ?_
            refine lv_dup hx hb d_Md_pay_70 rfl ?_
            refine tw_getl (D := (dC, dI)) (C := R_Md) (T := F_Md) (N := 64) (ci := 7) (kd := 27) (ct := ct) hx hb htb i_Md hown hK hP (hA_3.m m0) rfl rfl 58 (by decide) (htb (.fieldLink R_Md 326 "WaterMenModel" "paidOut" "J") tw_207) (fun _ h9 => h9) rfl d_Md_pay_71 (fun x_20 e_20 => ?_)
            have hQ := hQ x_20 e_20
            refine lv_aload_n hx hb d_Md_pay_74 rfl (lv_at hl 0 rfl) ?_
            refine tw_getR (D := (dC, dI)) (C := R_Md) (T := F_Md) (N := 64) (ci := 7) (kd := 27) (ct := ct) hx hb htb i_Md hown hK hP (hA_3.m m0) rfl rfl 61 ((hE_3.er (hA_2.m m0) rfl).trans ((hE_2.er (hA_1.m m0) rfl).trans e_8)) (by decide) (htb (.fieldLink R_Md 177 "WaterMenModel" "pensionOf" "[I") tw_205) (fun _ h9 => h9) rfl d_Md_pay_75 ?_
            refine hb_tv (.ref q_8) rfl ?_
            refine lv_iload_n hx hb d_Md_pay_78 rfl (lv_at hl 2 rfl) ?_
            refine tw_aldxI (ct := ct) (x := x_9) hx hb hK hP (hE_3.m (hE_2.m m_8)) rfl ((fun (a_0 : Int32) (a_1 : Int32) (k_0 : ¬ (a_0 < 0)) (k_1 : ¬ (a_1 ≤ a_0)) (k_2 : ¬ (30 < a_1)) => (show vp_in (a_0) 30 from by have z0 : (0 : Int32).toInt = 0 := (by decide +kernel); have z1 : (30 : Int32).toInt = 30 := (by decide +kernel); have r0 := fb_rng (a_0); have r1 := fb_rng (a_1); have e0 := k_0; rw [Int32.lt_iff_toInt_lt, z0] at e0; have e1 := k_1; rw [Int32.le_iff_toInt_le] at e1; have e2 := k_2; rw [Int32.lt_iff_toInt_lt, z1] at e2; rw [vp_in_iff]; omega)) v2_1 x_2 iv0_1 c_3 b_2.2) ((hE_3.ei (hE_2.m m_8) rfl).trans ((hE_2.ei m_8 rfl).trans e_9)) d_Md_pay_79 ?_
            refine lv_i2l hx hb d_Md_pay_80 rfl ?_
            refine lv_ladd hx hb d_Md_pay_81 ?_
            refine hb_eql (fun y_22 hy_22 => ?_)
            have hQ := hQ y_22 hy_22
            refine tw_putl (v := y_22) (D := (dC, dI)) (C := R_Md) (T := F_Md) (N := 64) (ci := 7) (kd := 27) (ct := ct) (ty := .long) hx hb htb i_Md t_Md t_Md_ok n_Md hown hK hP hD hS hO_3 (hA_3.m m0) rfl rfl 58 (by decide) (htb (.fieldLink R_Md 326 "WaterMenModel" "paidOut" "J") tw_207) (fun _ h9 => h9) rfl (by decide +kernel) rfl rfl rfl d_Md_pay_82 (fun f_4 H locs hP hD hS hO_4 hE_4 w_23 hF_4 => ?_)
            have hA_4 := hA_3.trans hE_4
            have hQ := hQ f_4 hF_4
            have hQ := hQ hO_4
            refine lv_iinc (v := (v2_1 + 1)) (lv' := [(2, .int (v2_1 + 1)), (0, .ref q0), (1, .int p_0)]) hx hb d_Md_pay_85 hl (k := 2) rfl rfl (by decide) rfl (fun ls hl => ?_)
            refine lv_goto (tgt := 2) hx hb d_Md_pay_88 (by decide) ?_
            exact ih_1 (n_1 - 1) (ms_1 ((fun (a_0 : Int32) (a_1 : Int32) (k_0 : ¬ (a_1 ≤ a_0)) (k_1 : ¬ (30 < a_1)) => (show 1 ≤ (30 : Int32).toInt - (a_0).toInt ∧ (30 : Int32).toInt - ((a_0) + (1 : Int32)).toInt + 1 ≤ (30 : Int32).toInt - (a_0).toInt from by have z0 : (1 : Int32).toInt = 1 := (by decide +kernel); have z1 : (30 : Int32).toInt = 30 := (by decide +kernel); have r0 := fb_rng (a_0); have r1 := fb_rng (a_1); have e0 := k_0; rw [Int32.le_iff_toInt_le] at e0; have e1 := k_1; rw [Int32.lt_iff_toInt_lt, z1] at e1; obtain ⟨n_0, hn_0, s0⟩ := nd_add (x := (a_0)) (y := (1 : Int32)) (by (try rw [z0]); omega) (by (try rw [z0]); omega); rw [z0] at s0; rw [hn_0]; (try rw [z1]); omega)) v2_1 x_2 c_3 b_2.2) hm_1) (v2_1 + 1) _ _ _ _ _ hP hD hS hO_4 ((((hE_1.trans hE_2).trans hE_3).trans hE_4).mono (by decide +kernel)) (show ¬ ((v2_1 + 1) < 0) from by have e0 := iv0_1; rw [Int32.lt_iff_toInt_lt] at e0; have e1 := iv1_1; rw [Int32.lt_iff_toInt_lt] at e1; have z0 : (0 : Int32).toInt = 0 := (by decide +kernel); have z1 : (1 : Int32).toInt = 1 := (by decide +kernel); have z2 : (30 : Int32).toInt = 30 := (by decide +kernel); have ss := fb_addI (x := v2_1) (y := 1) (by omega) (by omega); rw [Int32.lt_iff_toInt_lt]; omega) (show ¬ (30 < (v2_1 + 1)) from ((fun (a_0 : Int32) (a_1 : Int32) (k_0 : ¬ (a_1 ≤ a_0)) (k_1 : ¬ (30 < a_1)) => (show ¬ (30 < (a_0 + 1)) from by have z0 : (1 : Int32).toInt = 1 := (by decide +kernel); have z1 : (30 : Int32).toInt = 30 := (by decide +kernel); have r0 := fb_rng (a_0); have r1 := fb_rng (a_1); have e0 := k_0; rw [Int32.le_iff_toInt_le] at e0; have e1 := k_1; rw [Int32.lt_iff_toInt_lt, z1] at e1; obtain ⟨n_0, hn_0, s0⟩ := nd_add (x := (a_0)) (y := (1 : Int32)) (by (try rw [z0]); omega) (by (try rw [z0]); omega); rw [z0] at s0; rw [hn_0, Int32.lt_iff_toInt_lt, z1]; omega)) v2_1 x_2 c_3 b_2.2)) (by exact ms_2 ((fun (a_0 : Int32) (a_1 : Int32) (k_0 : ¬ (a_1 ≤ a_0)) (k_1 : ¬ (30 < a_1)) => (show 1 ≤ (30 : Int32).toInt - (a_0).toInt ∧ (30 : Int32).toInt - ((a_0) + (1 : Int32)).toInt + 1 ≤ (30 : Int32).toInt - (a_0).toInt from by have z0 : (1 : Int32).toInt = 1 := (by decide +kernel); have z1 : (30 : Int32).toInt = 30 := (by decide +kernel); have r0 := fb_rng (a_0); have r1 := fb_rng (a_1); have e0 := k_0; rw [Int32.le_iff_toInt_le] at e0; have e1 := k_1; rw [Int32.lt_iff_toInt_lt, z1] at e1; obtain ⟨n_0, hn_0, s0⟩ := nd_add (x := (a_0)) (y := (1 : Int32)) (by (try rw [z0]); omega) (by (try rw [z0]); omega); rw [z0] at s0; rw [hn_0]; (try rw [z1]); omega)) v2_1 x_2 c_3 b_2.2) hm_1) (by rw [← hrec_1, wpR_Md_pay_w_2_1_pos (ms_3 ((fun (a_0 : Int32) (a_1 : Int32) (k_0 : ¬ (a_1 ≤ a_0)) (k_1 : ¬ (30 < a_1)) => (show 1 ≤ (30 : Int32).toInt - (a_0).toInt ∧ (30 : Int32).toInt - ((a_0) + (1 : Int32)).toInt + 1 ≤ (30 : Int32).toInt - (a_0).toInt from by have z0 : (1 : Int32).toInt = 1 := (by decide +kernel); have z1 : (30 : Int32).toInt = 30 := (by decide +kernel); have r0 := fb_rng (a_0); have r1 := fb_rng (a_1); have e0 := k_0; rw [Int32.le_iff_toInt_le] at e0; have e1 := k_1; rw [Int32.lt_iff_toInt_lt, z1] at e1; obtain ⟨n_0, hn_0, s0⟩ := nd_add (x := (a_0)) (y := (1 : Int32)) (by (try rw [z0]); omega) (by (try rw [z0]); omega); rw [z0] at s0; rw [hn_0]; (try rw [z1]); omega)) v2_1 x_2 c_3 b_2.2) hm_1)] at hQ; exact hQ) (lv_sub hl [1, 2, 0] rfl)
          · have hQ := hQ.2 c_11
            refine lv_goto (tgt := 85) hx hb d_Md_pay_35 (by decide) ?_
            refine lv_iinc (v := (v2_1 + 1)) (lv' := [(2, .int (v2_1 + 1)), (0, .ref q0), (1, .int p_0)]) hx hb d_Md_pay_85 hl (k := 2) rfl rfl (by decide) rfl (fun ls hl => ?_)
            refine lv_goto (tgt := 2) hx hb d_Md_pay_88 (by decide) ?_
            exact ih_1 (n_1 - 1) (ms_1 ((fun (a_0 : Int32) (a_1 : Int32) (k_0 : ¬ (a_1 ≤ a_0)) (k_1 : ¬ (30 < a_1)) => (show 1 ≤ (30 : Int32).toInt - (a_0).toInt ∧ (30 : Int32).toInt - ((a_0) + (1 : Int32)).toInt + 1 ≤ (30 : Int32).toInt - (a_0).toInt from by have z0 : (1 : Int32).toInt = 1 := (by decide +kernel); have z1 : (30 : Int32).toInt = 30 := (by decide +kernel); have r0 := fb_rng (a_0); have r1 := fb_rng (a_1); have e0 := k_0; rw [Int32.le_iff_toInt_le] at e0; have e1 := k_1; rw [Int32.lt_iff_toInt_lt, z1] at e1; obtain ⟨n_0, hn_0, s0⟩ := nd_add (x := (a_0)) (y := (1 : Int32)) (by (try rw [z0]); omega) (by (try rw [z0]); omega); rw [z0] at s0; rw [hn_0]; (try rw [z1]); omega)) v2_1 x_2 c_3 b_2.2) hm_1) (v2_1 + 1) _ _ _ _ _ hP hD hS hO_1 (hE_1.mono (by decide +kernel)) (show ¬ ((v2_1 + 1) < 0) from by have e0 := iv0_1; rw [Int32.lt_iff_toInt_lt] at e0; have e1 := iv1_1; rw [Int32.lt_iff_toInt_lt] at e1; have z0 : (0 : Int32).toInt = 0 := (by decide +kernel); have z1 : (1 : Int32).toInt = 1 := (by decide +kernel); have z2 : (30 : Int32).toInt = 30 := (by decide +kernel); have ss := fb_addI (x := v2_1) (y := 1) (by omega) (by omega); rw [Int32.lt_iff_toInt_lt]; omega) (show ¬ (30 < (v2_1 + 1)) from ((fun (a_0 : Int32) (a_1 : Int32) (k_0 : ¬ (a_1 ≤ a_0)) (k_1 : ¬ (30 < a_1)) => (show ¬ (30 < (a_0 + 1)) from by have z0 : (1 : Int32).toInt = 1 := (by decide +kernel); have z1 : (30 : Int32).toInt = 30 := (by decide +kernel); have r0 := fb_rng (a_0); have r1 := fb_rng (a_1); have e0 := k_0; rw [Int32.le_iff_toInt_le] at e0; have e1 := k_1; rw [Int32.lt_iff_toInt_lt, z1] at e1; obtain ⟨n_0, hn_0, s0⟩ := nd_add (x := (a_0)) (y := (1 : Int32)) (by (try rw [z0]); omega) (by (try rw [z0]); omega); rw [z0] at s0; rw [hn_0, Int32.lt_iff_toInt_lt, z1]; omega)) v2_1 x_2 c_3 b_2.2)) (by exact ms_2 ((fun (a_0 : Int32) (a_1 : Int32) (k_0 : ¬ (a_1 ≤ a_0)) (k_1 : ¬ (30 < a_1)) => (show 1 ≤ (30 : Int32).toInt - (a_0).toInt ∧ (30 : Int32).toInt - ((a_0) + (1 : Int32)).toInt + 1 ≤ (30 : Int32).toInt - (a_0).toInt from by have z0 : (1 : Int32).toInt = 1 := (by decide +kernel); have z1 : (30 : Int32).toInt = 30 := (by decide +kernel); have r0 := fb_rng (a_0); have r1 := fb_rng (a_1); have e0 := k_0; rw [Int32.le_iff_toInt_le] at e0; have e1 := k_1; rw [Int32.lt_iff_toInt_lt, z1] at e1; obtain ⟨n_0, hn_0, s0⟩ := nd_add (x := (a_0)) (y := (1 : Int32)) (by (try rw [z0]); omega) (by (try rw [z0]); omega); rw [z0] at s0; rw [hn_0]; (try rw [z1]); omega)) v2_1 x_2 c_3 b_2.2) hm_1) (by rw [← hrec_1, wpR_Md_pay_w_2_1_pos (ms_3 ((fun (a_0 : Int32) (a_1 : Int32) (k_0 : ¬ (a_1 ≤ a_0)) (k_1 : ¬ (30 < a_1)) => (show 1 ≤ (30 : Int32).toInt - (a_0).toInt ∧ (30 : Int32).toInt - ((a_0) + (1 : Int32)).toInt + 1 ≤ (30 : Int32).toInt - (a_0).toInt from by have z0 : (1 : Int32).toInt = 1 := (by decide +kernel); have z1 : (30 : Int32).toInt = 30 := (by decide +kernel); have r0 := fb_rng (a_0); have r1 := fb_rng (a_1); have e0 := k_0; rw [Int32.le_iff_toInt_le] at e0; have e1 := k_1; rw [Int32.lt_iff_toInt_lt, z1] at e1; obtain ⟨n_0, hn_0, s0⟩ := nd_add (x := (a_0)) (y := (1 : Int32)) (by (try rw [z0]); omega) (by (try rw [z0]); omega); rw [z0] at s0; rw [hn_0]; (try rw [z1]); omega)) v2_1 x_2 c_3 b_2.2) hm_1)] at hQ; exact hQ) (lv_sub hl [1, 2, 0] rfl)
  exact cut_1 ((30 : Int32).toInt - (0 : Int32).toInt).toNat (0 : Int32) _ _ _ _ _ hP hD hS hO_0 Ext.rf (by decide +kernel) (by decide +kernel) (by exact ms_e _ _) hQ (lv_sub hl [1, 2, 0] rfl)
