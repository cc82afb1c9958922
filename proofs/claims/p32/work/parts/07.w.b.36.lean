def wpB_Bx_owedOn_w_4_1 (L : List Nat) (f : TF) (q0 : Nat) (p_0 : Int32) (Q : Int32 → Prop) (rec_1 : Int32 → Int32 → Prop) (v2_1 : Int32) (v3_1 : Int32) : Prop := ∀ x_2 : Int32, ti f q0 6 = x_2 → ((x_2 ≤ v3_1 → Q v2_1) ∧ (¬ (x_2 ≤ v3_1) → wp_Bx_pensionerAt_w L f q0 v3_1 (fun (r_4 : Option Nat) => ((r_4 = none → rec_1 v2_1 (v3_1 + 1)) ∧ (∀ q_4 : Nat, r_4 = some q_4 → ∀ x_5 : Int32, ti f q_4 1 = x_5 → ((x_5 ≤ p_0 → rec_1 v2_1 (v3_1 + 1)) ∧ (¬ (x_5 ≤ p_0) → ∀ x_7 : Int32, ti f q_4 0 = x_7 → rec_1 (v2_1 + x_7) (v3_1 + 1))))))))
def wpL_Bx_owedOn_w_4_1 (L : List Nat) (f : TF) (q0 : Nat) (p_0 : Int32) (Q : Int32 → Prop) : Nat → Int32 → Int32 → Prop
  | 0 => fun v2_1 v3_1 => wpB_Bx_owedOn_w_4_1 L f q0 p_0 Q (fun _ _ => True) v2_1 v3_1
  | n + 1 => fun v2_1 v3_1 => wpB_Bx_owedOn_w_4_1 L f q0 p_0 Q (wpL_Bx_owedOn_w_4_1 L f q0 p_0 Q n) v2_1 v3_1
def wpR_Bx_owedOn_w_4_1 (L : List Nat) (f : TF) (q0 : Nat) (p_0 : Int32) (Q : Int32 → Prop) : Nat → Int32 → Int32 → Prop
  | 0 => fun _ _ => True
  | n + 1 => wpL_Bx_owedOn_w_4_1 L f q0 p_0 Q n
theorem wpL_Bx_owedOn_w_4_1_eq {L : List Nat} {f : TF} {q0 : Nat} {p_0 : Int32} {Q : Int32 → Prop} {n : Nat} : wpL_Bx_owedOn_w_4_1 L f q0 p_0 Q n = wpB_Bx_owedOn_w_4_1 L f q0 p_0 Q (wpR_Bx_owedOn_w_4_1 L f q0 p_0 Q n) := by cases n <;> rfl
theorem wpR_Bx_owedOn_w_4_1_pos {L : List Nat} {f : TF} {q0 : Nat} {p_0 : Int32} {Q : Int32 → Prop} {n : Nat} (h : 0 < n) : wpR_Bx_owedOn_w_4_1 L f q0 p_0 Q n = wpL_Bx_owedOn_w_4_1 L f q0 p_0 Q (n - 1) := by
  cases n with
  | zero => omega
  | succ n => rfl
def wp_Bx_owedOn_w (L : List Nat) (f : TF) (q0 : Nat) (p_0 : Int32) (Q : Int32 → Prop) : Prop := wpL_Bx_owedOn_w_4_1 L f q0 p_0 Q (((30 : Int32).toInt - (0 : Int32).toInt).toNat) (0 : Int32) (0 : Int32)
set_option maxHeartbeats 4000000 in
set_option maxRecDepth 100000 in
theorem c_Bx_owedOn_w (l : Launch) (dC : Nat → ClassId) (dI : Nat → Nat → Nat) (ct : Nat → ClassId) (L : List Nat) (f : TF) (hO_0 : Ok L f) (q0 : Nat) (m0 : q0 ∈ L ∧ tk f q0 = 12) (p_0 : Int32)   (Q : Int32 → Prop) (hQ : wp_Bx_owedOn_w L f q0 p_0 Q) : Met l y_Bx_owedOn (.code y_Bx_owedOn b_Bx_owedOn 5 (some .int) :: TB) ({ frames := 1, cells := 0, slots := 0, locals := 21 }) (va_Pc [.ref q0, .int p_0] (PR dC dI (TW ct L f) (TT ct))) (vp_Si (fun r => (True) ∧ Q r)) 0 0 (fun _ => False) := by
  refine Met.ofW (cc := b_Bx_owedOn) (maxL := 5) (ret := (some .int)) (by decide) rfl ?_
  intro p e s m args below meth c s₁ B hml hv
  obtain ⟨rfl, hP, hK, hN⟩ := hv
  have hx := B.exec
  have hb := B.bytes
  have hr := B.returns
  have hts := atoms_spec (ws := (.code y_Bx_owedOn b_Bx_owedOn 5 (some .int) :: TB)) B.pre
  have htb := fun w (h : w ∈ TB) => hts w (List.mem_cons_of_mem _ h)
  have hown : s.vm.findClass R_Bx = some m.cls := findClass_of_methodNamed B.named
  have hlocks := B.notSynchronized
  have hl := lv_entry ([.ref q0, .int p_0]) (n := 5) (Nat.le_of_ble_eq_true rfl)
  rw [lg_entry_eq]
  generalize (lg_sl ([.ref q0, .int p_0]) ++ List.replicate (5 - (lg_sl ([.ref q0, .int p_0])).length) Slot.unset).toArray = ls at hl ⊢
  have hl : lv_has ls 5 [(0, .ref q0), (1, .int p_0)] := hl
  unfold wp_Bx_owedOn_w at hQ
  refine lv_iconst (v := 0) hx hb d_Bx_owedOn_0 (by decide +kernel) ?_
  refine lv_istore_n (lv' := [(2, .int 0), (0, .ref q0), (1, .int p_0)]) hx hb d_Bx_owedOn_1 rfl hl (by decide) rfl (fun ls hl => ?_)
  refine lv_iconst (v := 0) hx hb d_Bx_owedOn_2 (by decide +kernel) ?_
  refine lv_istore_n (lv' := [(3, .int 0), (2, .int 0), (0, .ref q0), (1, .int p_0)]) hx hb d_Bx_owedOn_3 rfl hl (by decide) rfl (fun ls hl => ?_)
  have cut_1 : ∀ (n_1 : Nat) (v2_1 v3_1 : Int32) (ls : Array Slot), ¬ (v3_1 < 0) → ¬ (30 < v3_1) → (30 : Int32).toInt - (v3_1 : Int32).toInt ≤ (n_1 : Int) → wpL_Bx_owedOn_w_4_1 L f q0 p_0 Q n_1 v2_1 v3_1 → lv_has ls 5 [(0, .ref q0), (1, .int p_0), (2, .int v2_1), (3, .int v3_1)] → W p l e (headSpec (.code y_Bx_owedOn b_Bx_owedOn 5 (some .int) :: TB) ({ frames := 1, cells := 0, slots := 0, locals := 21 })).room s m [.ref q0, .int p_0].toArray below meth c s.heap [] 0 0 (MQ below (vp_Si (fun r => (True) ∧ Q r)) [.ref q0, .int p_0].toArray s 0 0 (fun _ => False)) (F0 m 4 ls []) := by
    intro n_1
    induction n_1 using Nat.strongRecOn with
    | _ n_1 ih_1 =>
      intro v2_1 v3_1 ls iv0_1 iv1_1 hm_1 hQ hl
      rw [wpL_Bx_owedOn_w_4_1_eq] at hQ
      obtain ⟨rec_1, hrec_1⟩ : ∃ g, wpR_Bx_owedOn_w_4_1 L f q0 p_0 Q n_1 = g := ⟨_, rfl⟩
      rw [hrec_1] at hQ
      unfold wpB_Bx_owedOn_w_4_1 at hQ
      refine lv_iload_n hx hb d_Bx_owedOn_4 rfl (lv_at hl 3 rfl) ?_
      refine lv_aload_n hx hb d_Bx_owedOn_5 rfl (lv_at hl 0 rfl) ?_
      refine tw_geti (D := (dC, dI)) (C := R_Bx) (T := F_Bx) (N := 7) (ci := 5) (kd := 12) (ct := ct) hx hb htb i_Bx hown hK hP hO_0 m0 rfl rfl 6 (by decide) (htb (.fieldLink R_Bx 29 "WaterMen$Box" "pensionerCount" "I") tw_179) (fun _ h9 => h9) rfl d_Bx_owedOn_6 (fun x_2 e_2 b_2 => ?_)
      have hQ := hQ x_2 e_2
      refine lv_icmp_ge (tgt := 47) hx hb d_Bx_owedOn_9 (by decide) (fun c_3 => ?_) (fun c_3 => ?_)
      · have hQ := hQ.1 c_3
        refine lv_iload_n hx hb d_Bx_owedOn_47 rfl (lv_at hl 2 rfl) ?_
        exact W.iret (v := v2_1) hx hb hr (fun t ht hW => ⟨v2_1, rfl, ⟨trivial, hQ⟩, ht⟩) t_nil d_Bx_owedOn_48
      · have hQ := hQ.2 c_3
        refine lv_aload_n hx hb d_Bx_owedOn_12 rfl (lv_at hl 0 rfl) ?_
        refine lv_iload_n hx hb d_Bx_owedOn_13 rfl (lv_at hl 3 rfl) ?_
        refine va_csq (va_Run.run (va_runV (As := [.int v3_1]) (rest := []) ⟨hx, hb, hml, hown, htb⟩ (c_Bx_pensionerAt_w l dC dI ct L f hO_0 q0 m0 v3_1 _ hQ) (cwV 1 htb (gd_V tw_182 tw_183 tw_184 tw_170 tw_181) rfl rfl rfl (by decide +kernel) ⟨Nat.le_of_ble_eq_true rfl, Nat.le_of_ble_eq_true rfl⟩) ⟨pr_blind, tw_recv hK hP m0 rfl rfl, pr_pre hP hK hN⟩ rfl rfl hl.1 rfl (lv_room (Nat.le_of_ble_eq_true rfl)) d_Bx_owedOn_14 ⟨Nat.le_of_ble_eq_true rfl, Nat.le_of_ble_eq_true rfl⟩)) (fun r_4 er_4 => ?_)
        obtain ⟨er_4, hQ⟩ := er_4
        rcases er_4 with rfl | ⟨q_4, rfl, m_4⟩
        · have hQ := hQ.1 rfl
          refine hb_tv .null rfl ?_
          refine lv_astoreN (lv' := [(4, .null), (0, .ref q0), (1, .int p_0), (2, .int v2_1), (3, .int v3_1)]) hx hb d_Bx_owedOn_17 hl (by decide) rfl (fun ls hl => ?_)
          refine lv_aloadN hx hb d_Bx_owedOn_19 (lv_at hl 0 rfl) ?_
          refine lv_ifnullN (tgt := 41) hx hb d_Bx_owedOn_21 (by decide) ?_
          refine lv_iinc (v := (v3_1 + 1)) (lv' := [(3, .int (v3_1 + 1)), (4, .null), (0, .ref q0), (1, .int p_0), (2, .int v2_1)]) hx hb d_Bx_owedOn_41 hl (k := 4) rfl rfl (by decide) rfl (fun ls hl => ?_)
          refine lv_goto (tgt := 4) hx hb d_Bx_owedOn_44 (by decide) ?_
          exact ih_1 (n_1 - 1) (ms_1 ((fun (a_0 : Int32) (a_1 : Int32) (k_0 : ¬ (a_1 ≤ a_0)) (k_1 : ¬ (30 < a_1)) => (show 1 ≤ (30 : Int32).toInt - (a_0).toInt ∧ (30 : Int32).toInt - ((a_0) + (1 : Int32)).toInt + 1 ≤ (30 : Int32).toInt - (a_0).toInt from by have z0 : (1 : Int32).toInt = 1 := (by decide +kernel); have z1 : (30 : Int32).toInt = 30 := (by decide +kernel); have r0 := fb_rng (a_0); have r1 := fb_rng (a_1); have e0 := k_0; rw [Int32.le_iff_toInt_le] at e0; have e1 := k_1; rw [Int32.lt_iff_toInt_lt, z1] at e1; obtain ⟨n_0, hn_0, s0⟩ := nd_add (x := (a_0)) (y := (1 : Int32)) (by (try rw [z0]); omega) (by (try rw [z0]); omega); rw [z0] at s0; rw [hn_0]; (try rw [z1]); omega)) v3_1 x_2 c_3 b_2.2) hm_1) v2_1 (v3_1 + 1) _ (show ¬ ((v3_1 + 1) < 0) from by have e0 := iv0_1; rw [Int32.lt_iff_toInt_lt] at e0; have e1 := iv1_1; rw [Int32.lt_iff_toInt_lt] at e1; have z0 : (0 : Int32).toInt = 0 := (by decide +kernel); have z1 : (1 : Int32).toInt = 1 := (by decide +kernel); have z2 : (30 : Int32).toInt = 30 := (by decide +kernel); have ss := fb_addI (x := v3_1) (y := 1) (by omega) (by omega); rw [Int32.lt_iff_toInt_lt]; omega) (show ¬ (30 < (v3_1 + 1)) from ((fun (a_0 : Int32) (a_1 : Int32) (k_0 : ¬ (a_1 ≤ a_0)) (k_1 : ¬ (30 < a_1)) => (show ¬ (30 < (a_0 + 1)) from by have z0 : (1 : Int32).toInt = 1 := (by decide +kernel); have z1 : (30 : Int32).toInt = 30 := (by decide +kernel); have r0 := fb_rng (a_0); have r1 := fb_rng (a_1); have e0 := k_0; rw [Int32.le_iff_toInt_le] at e0; have e1 := k_1; rw [Int32.lt_iff_toInt_lt, z1] at e1; obtain ⟨n_0, hn_0, s0⟩ := nd_add (x := (a_0)) (y := (1 : Int32)) (by (try rw [z0]); omega) (by (try rw [z0]); omega); rw [z0] at s0; rw [hn_0, Int32.lt_iff_toInt_lt, z1]; omega)) v3_1 x_2 c_3 b_2.2)) (by exact ms_2 ((fun (a_0 : Int32) (a_1 : Int32) (k_0 : ¬ (a_1 ≤ a_0)) (k_1 : ¬ (30 < a_1)) => (show 1 ≤ (30 : Int32).toInt - (a_0).toInt ∧ (30 : Int32).toInt - ((a_0) + (1 : Int32)).toInt + 1 ≤ (30 : Int32).toInt - (a_0).toInt from by have z0 : (1 : Int32).toInt = 1 := (by decide +kernel); have z1 : (30 : Int32).toInt = 30 := (by decide +kernel); have r0 := fb_rng (a_0); have r1 := fb_rng (a_1); have e0 := k_0; rw [Int32.le_iff_toInt_le] at e0; have e1 := k_1; rw [Int32.lt_iff_toInt_lt, z1] at e1; obtain ⟨n_0, hn_0, s0⟩ := nd_add (x := (a_0)) (y := (1 : Int32)) (by (try rw [z0]); omega) (by (try rw [z0]); omega); rw [z0] at s0; rw [hn_0]; (try rw [z1]); omega)) v3_1 x_2 c_3 b_2.2) hm_1) (by rw [← hrec_1, wpR_Bx_owedOn_w_4_1_pos (ms_3 ((fun (a_0 : Int32) (a_1 : Int32) (k_0 : ¬ (a_1 ≤ a_0)) (k_1 : ¬ (30 < a_1)) => (show 1 ≤ (30 : Int32).toInt - (a_0).toInt ∧ (30 : Int32).toInt - ((a_0) + (1 : Int32)).toInt + 1 ≤ (30 : Int32).toInt - (a_0).toInt from by have z0 : (1 : Int32).toInt = 1 := (by decide +kernel); have z1 : (30 : Int32).toInt = 30 := (by decide +kernel); have r0 := fb_rng (a_0); have r1 := fb_rng (a_1); have e0 := k_0; rw [Int32.le_iff_toInt_le] at e0; have e1 := k_1; rw [Int32.lt_iff_toInt_lt, z1] at e1; obtain ⟨n_0, hn_0, s0⟩ := nd_add (x := (a_0)) (y := (1 : Int32)) (by (try rw [z0]); omega) (by (try rw [z0]); omega); rw [z0] at s0; rw [hn_0]; (try rw [z1]); omega)) v3_1 x_2 c_3 b_2.2) hm_1)] at hQ; exact hQ) (lv_sub hl [2, 3, 4, 0] rfl)
        · have hQ := hQ.2 q_4 rfl
          refine hb_tv (.ref q_4) rfl ?_
          refine lv_astore (lv' := [(4, .ref q_4), (0, .ref q0), (1, .int p_0), (2, .int v2_1), (3, .int v3_1)]) hx hb d_Bx_owedOn_17 hl (by decide) rfl (fun ls hl => ?_)
          refine lv_aload hx hb d_Bx_owedOn_19 (lv_at hl 0 rfl) ?_
          refine lv_ifnull hx hb d_Bx_owedOn_21 ?_
          refine lv_iload_n hx hb d_Bx_owedOn_24 rfl (lv_at hl 2 rfl) ?_
          refine lv_aload hx hb d_Bx_owedOn_25 (lv_at hl 0 rfl) ?_
          refine tw_geti (D := (dC, dI)) (C := R_Pn) (T := F_Pn) (N := 3) (ci := 6) (kd := 26) (ct := ct) hx hb htb i_Pn hown hK hP hO_0 m_4 rfl rfl 1 (by decide) (htb (.fieldLink R_Bx 39 "WaterMen$Pensioner" "end" "I") tw_185) (fun _ h9 => h9) rfl d_Bx_owedOn_27 (fun x_5 e_5 b_5 => ?_)
          have hQ := hQ x_5 e_5
          refine lv_icmp_ge (tgt := 41) hx hb d_Bx_owedOn_30 (by decide) (fun c_6 => ?_) (fun c_6 => ?_)
          · have hQ := hQ.1 c_6
            refine lv_iinc (v := (v3_1 + 1)) (lv' := [(3, .int (v3_1 + 1)), (4, .ref q_4), (0, .ref q0), (1, .int p_0), (2, .int v2_1)]) hx hb d_Bx_owedOn_41 hl (k := 4) rfl rfl (by decide) rfl (fun ls hl => ?_)
            refine lv_goto (tgt := 4) hx hb d_Bx_owedOn_44 (by decide) ?_
            exact ih_1 (n_1 - 1) (ms_1 ((fun (a_0 : Int32) (a_1 : Int32) (k_0 : ¬ (a_1 ≤ a_0)) (k_1 : ¬ (30 < a_1)) => (show 1 ≤ (30 : Int32).toInt - (a_0).toInt ∧ (30 : Int32).toInt - ((a_0) + (1 : Int32)).toInt + 1 ≤ (30 : Int32).toInt - (a_0).toInt from by have z0 : (1 : Int32).toInt = 1 := (by decide +kernel); have z1 : (30 : Int32).toInt = 30 := (by decide +kernel); have r0 := fb_rng (a_0); have r1 := fb_rng (a_1); have e0 := k_0; rw [Int32.le_iff_toInt_le] at e0; have e1 := k_1; rw [Int32.lt_iff_toInt_lt, z1] at e1; obtain ⟨n_0, hn_0, s0⟩ := nd_add (x := (a_0)) (y := (1 : Int32)) (by (try rw [z0]); omega) (by (try rw [z0]); omega); rw [z0] at s0; rw [hn_0]; (try rw [z1]); omega)) v3_1 x_2 c_3 b_2.2) hm_1) v2_1 (v3_1 + 1) _ (show ¬ ((v3_1 + 1) < 0) from by have e0 := iv0_1; rw [Int32.lt_iff_toInt_lt] at e0; have e1 := iv1_1; rw [Int32.lt_iff_toInt_lt] at e1; have z0 : (0 : Int32).toInt = 0 := (by decide +kernel); have z1 : (1 : Int32).toInt = 1 := (by decide +kernel); have z2 : (30 : Int32).toInt = 30 := (by decide +kernel); have ss := fb_addI (x := v3_1) (y := 1) (by omega) (by omega); rw [Int32.lt_iff_toInt_lt]; omega) (show ¬ (30 < (v3_1 + 1)) from ((fun (a_0 : Int32) (a_1 : Int32) (k_0 : ¬ (a_1 ≤ a_0)) (k_1 : ¬ (30 < a_1)) => (show ¬ (30 < (a_0 + 1)) from by have z0 : (1 : Int32).toInt = 1 := (by decide +kernel); have z1 : (30 : Int32).toInt = 30 := (by decide +kernel); have r0 := fb_rng (a_0); have r1 := fb_rng (a_1); have e0 := k_0; rw [Int32.le_iff_toInt_le] at e0; have e1 := k_1; rw [Int32.lt_iff_toInt_lt, z1] at e1; obtain ⟨n_0, hn_0, s0⟩ := nd_add (x := (a_0)) (y := (1 : Int32)) (by (try rw [z0]); omega) (by (try rw [z0]); omega); rw [z0] at s0; rw [hn_0, Int32.lt_iff_toInt_lt, z1]; omega)) v3_1 x_2 c_3 b_2.2)) (by exact ms_2 ((fun (a_0 : Int32) (a_1 : Int32) (k_0 : ¬ (a_1 ≤ a_0)) (k_1 : ¬ (30 < a_1)) => (show 1 ≤ (30 : Int32).toInt - (a_0).toInt ∧ (30 : Int32).toInt - ((a_0) + (1 : Int32)).toInt + 1 ≤ (30 : Int32).toInt - (a_0).toInt from by have z0 : (1 : Int32).toInt = 1 := (by decide +kernel); have z1 : (30 : Int32).toInt = 30 := (by decide +kernel); have r0 := fb_rng (a_0); have r1 := fb_rng (a_1); have e0 := k_0; rw [Int32.le_iff_toInt_le] at e0; have e1 := k_1; rw [Int32.lt_iff_toInt_lt, z1] at e1; obtain ⟨n_0, hn_0, s0⟩ := nd_add (x := (a_0)) (y := (1 : Int32)) (by (try rw [z0]); omega) (by (try rw [z0]); omega); rw [z0] at s0; rw [hn_0]; (try rw [z1]); omega)) v3_1 x_2 c_3 b_2.2) hm_1) (by rw [← hrec_1, wpR_Bx_owedOn_w_4_1_pos (ms_3 ((fun (a_0 : Int32) (a_1 : Int32) (k_0 : ¬ (a_1 ≤ a_0)) (k_1 : ¬ (30 < a_1)) => (show 1 ≤ (30 : Int32).toInt - (a_0).toInt ∧ (30 : Int32).toInt - ((a_0) + (1 : Int32)).toInt + 1 ≤ (30 : Int32).toInt - (a_0).toInt from by have z0 : (1 : Int32).toInt = 1 := (by decide +kernel); have z1 : (30 : Int32).toInt = 30 := (by decide +kernel); have r0 := fb_rng (a_0); have r1 := fb_rng (a_1); have e0 := k_0; rw [Int32.le_iff_toInt_le] at e0; have e1 := k_1; rw [Int32.lt_iff_toInt_lt, z1] at e1; obtain ⟨n_0, hn_0, s0⟩ := nd_add (x := (a_0)) (y := (1 : Int32)) (by (try rw [z0]); omega) (by (try rw [z0]); omega); rw [z0] at s0; rw [hn_0]; (try rw [z1]); omega)) v3_1 x_2 c_3 b_2.2) hm_1)] at hQ; exact hQ) (lv_sub hl [2, 3, 4, 0] rfl)
          · have hQ := hQ.2 c_6
            refine lv_iload_n hx hb d_Bx_owedOn_33 rfl (lv_at hl 3 rfl) ?_
            refine lv_aload hx hb d_Bx_owedOn_34 (lv_at hl 0 rfl) ?_
            refine tw_geti (D := (dC, dI)) (C := R_Pn) (T := F_Pn) (N := 3) (ci := 6) (kd := 26) (ct := ct) hx hb htb i_Pn hown hK hP hO_0 m_4 rfl rfl 0 (by decide) (htb (.fieldLink R_Bx 42 "WaterMen$Pensioner" "pension" "I") tw_186) (fun _ h9 => h9) rfl d_Bx_owedOn_36 (fun x_7 e_7 b_7 => ?_)
            have hQ := hQ x_7 e_7
            refine lv_iadd hx hb d_Bx_owedOn_39 ?_
            refine lv_istore_n (lv' := [(2, .int (v2_1 + x_7)), (4, .ref q_4), (0, .ref q0), (1, .int p_0), (3, .int v3_1)]) hx hb d_Bx_owedOn_40 rfl hl (by decide) rfl (fun ls hl => ?_)
            refine lv_iinc (v := (v3_1 + 1)) (lv' := [(3, .int (v3_1 + 1)), (2, .int (v2_1 + x_7)), (4, .ref q_4), (0, .ref q0), (1, .int p_0)]) hx hb d_Bx_owedOn_41 hl (k := 4) rfl rfl (by decide) rfl (fun ls hl => ?_)
            refine lv_goto (tgt := 4) hx hb d_Bx_owedOn_44 (by decide) ?_
            exact ih_1 (n_1 - 1) (ms_1 ((fun (a_0 : Int32) (a_1 : Int32) (k_0 : ¬ (a_1 ≤ a_0)) (k_1 : ¬ (30 < a_1)) => (show 1 ≤ (30 : Int32).toInt - (a_0).toInt ∧ (30 : Int32).toInt - ((a_0) + (1 : Int32)).toInt + 1 ≤ (30 : Int32).toInt - (a_0).toInt from by have z0 : (1 : Int32).toInt = 1 := (by decide +kernel); have z1 : (30 : Int32).toInt = 30 := (by decide +kernel); have r0 := fb_rng (a_0); have r1 := fb_rng (a_1); have e0 := k_0; rw [Int32.le_iff_toInt_le] at e0; have e1 := k_1; rw [Int32.lt_iff_toInt_lt, z1] at e1; obtain ⟨n_0, hn_0, s0⟩ := nd_add (x := (a_0)) (y := (1 : Int32)) (by (try rw [z0]); omega) (by (try rw [z0]); omega); rw [z0] at s0; rw [hn_0]; (try rw [z1]); omega)) v3_1 x_2 c_3 b_2.2) hm_1) (v2_1 + x_7) (v3_1 + 1) _ (show ¬ ((v3_1 + 1) < 0) from by have e0 := iv0_1; rw [Int32.lt_iff_toInt_lt] at e0; have e1 := iv1_1; rw [Int32.lt_iff_toInt_lt] at e1; have z0 : (0 : Int32).toInt = 0 := (by decide +kernel); have z1 : (1 : Int32).toInt = 1 := (by decide +kernel); have z2 : (30 : Int32).toInt = 30 := (by decide +kernel); have ss := fb_addI (x := v3_1) (y := 1) (by omega) (by omega); rw [Int32.lt_iff_toInt_lt]; omega) (show ¬ (30 < (v3_1 + 1)) from ((fun (a_0 : Int32) (a_1 : Int32) (k_0 : ¬ (a_1 ≤ a_0)) (k_1 : ¬ (30 < a_1)) => (show ¬ (30 < (a_0 + 1)) from by have z0 : (1 : Int32).toInt = 1 := (by decide +kernel); have z1 : (30 : Int32).toInt = 30 := (by decide +kernel); have r0 := fb_rng (a_0); have r1 := fb_rng (a_1); have e0 := k_0; rw [Int32.le_iff_toInt_le] at e0; have e1 := k_1; rw [Int32.lt_iff_toInt_lt, z1] at e1; obtain ⟨n_0, hn_0, s0⟩ := nd_add (x := (a_0)) (y := (1 : Int32)) (by (try rw [z0]); omega) (by (try rw [z0]); omega); rw [z0] at s0; rw [hn_0, Int32.lt_iff_toInt_lt, z1]; omega)) v3_1 x_2 c_3 b_2.2)) (by exact ms_2 ((fun (a_0 : Int32) (a_1 : Int32) (k_0 : ¬ (a_1 ≤ a_0)) (k_1 : ¬ (30 < a_1)) => (show 1 ≤ (30 : Int32).toInt - (a_0).toInt ∧ (30 : Int32).toInt - ((a_0) + (1 : Int32)).toInt + 1 ≤ (30 : Int32).toInt - (a_0).toInt from by have z0 : (1 : Int32).toInt = 1 := (by decide +kernel); have z1 : (30 : Int32).toInt = 30 := (by decide +kernel); have r0 := fb_rng (a_0); have r1 := fb_rng (a_1); have e0 := k_0; rw [Int32.le_iff_toInt_le] at e0; have e1 := k_1; rw [Int32.lt_iff_toInt_lt, z1] at e1; obtain ⟨n_0, hn_0, s0⟩ := nd_add (x := (a_0)) (y := (1 : Int32)) (by (try rw [z0]); omega) (by (try rw [z0]); omega); rw [z0] at s0; rw [hn_0]; (try rw [z1]); omega)) v3_1 x_2 c_3 b_2.2) hm_1) (by rw [← hrec_1, wpR_Bx_owedOn_w_4_1_pos (ms_3 ((fun (a_0 : Int32) (a_1 : Int32) (k_0 : ¬ (a_1 ≤ a_0)) (k_1 : ¬ (30 < a_1)) => (show 1 ≤ (30 : Int32).toInt - (a_0).toInt ∧ (30 : Int32).toInt - ((a_0) + (1 : Int32)).toInt + 1 ≤ (30 : Int32).toInt - (a_0).toInt from by have z0 : (1 : Int32).toInt = 1 := (by decide +kernel); have z1 : (30 : Int32).toInt = 30 := (by decide +kernel); have r0 := fb_rng (a_0); have r1 := fb_rng (a_1); have e0 := k_0; rw [Int32.le_iff_toInt_le] at e0; have e1 := k_1; rw [Int32.lt_iff_toInt_lt, z1] at e1; obtain ⟨n_0, hn_0, s0⟩ := nd_add (x := (a_0)) (y := (1 : Int32)) (by (try rw [z0]); omega) (by (try rw [z0]); omega); rw [z0] at s0; rw [hn_0]; (try rw [z1]); omega)) v3_1 x_2 c_3 b_2.2) hm_1)] at hQ; exact hQ) (lv_sub hl [3, 4, 1, 0] rfl)
  exact cut_1 ((30 : Int32).toInt - (0 : Int32).toInt).toNat (0 : Int32) (0 : Int32) _ (by decide +kernel) (by decide +kernel) (by exact ms_e _ _) hQ (lv_sub hl [2, 3, 1, 0] rfl)
def wpB_Bx_firstShortDay_w_53_6 (L : List Nat) (f : TF) (q0 : Nat) (p_0 : Int32) (v4_2 : Int32) (v2_2 : Int64) (rec_2 : Int32 → Int64 → Prop) (x_4 : Int32) (y_5 : Int32) (Q : Int32 → Prop) (rec_6 : Int32 → Int32 → Int64 → Prop) (v6_6 : Int32) (v7_6 : Int32) (v4_6 : Int64) : Prop := ((40 ≤ v7_6 → Q (-1)) ∧ (¬ (40 ≤ v7_6) → wp_Bx_owedOn_w L f q0 (v6_6 + 100) (fun (r_8 : Int32) => ∀ y_9 : Int64, y_9 = (v2_2 : Int64) - ((r_8 : Int32).toInt64 : Int64) → ∀ y_10 : Int64, y_10 = (v4_6 : Int64) + (y_9 : Int64) → ∀ y_11 : Int32, y_11 = lg_cmp (y_10 : Int64) (0 : Int64) → ((0 ≤ y_11 → rec_6 (v6_6 + 100) (v7_6 + 1) y_10) ∧ (¬ (0 ≤ y_11) → Q (v6_6 + 100))))))
def wpL_Bx_firstShortDay_w_53_6 (L : List Nat) (f : TF) (q0 : Nat) (p_0 : Int32) (v4_2 : Int32) (v2_2 : Int64) (rec_2 : Int32 → Int64 → Prop) (x_4 : Int32) (y_5 : Int32) (Q : Int32 → Prop) : Nat → Int32 → Int32 → Int64 → Prop
  | 0 => fun v6_6 v7_6 v4_6 => wpB_Bx_firstShortDay_w_53_6 L f q0 p_0 v4_2 v2_2 rec_2 x_4 y_5 Q (fun _ _ _ => True) v6_6 v7_6 v4_6
  | n + 1 => fun v6_6 v7_6 v4_6 => wpB_Bx_firstShortDay_w_53_6 L f q0 p_0 v4_2 v2_2 rec_2 x_4 y_5 Q (wpL_Bx_firstShortDay_w_53_6 L f q0 p_0 v4_2 v2_2 rec_2 x_4 y_5 Q n) v6_6 v7_6 v4_6
def wpR_Bx_firstShortDay_w_53_6 (L : List Nat) (f : TF) (q0 : Nat) (p_0 : Int32) (v4_2 : Int32) (v2_2 : Int64) (rec_2 : Int32 → Int64 → Prop) (x_4 : Int32) (y_5 : Int32) (Q : Int32 → Prop) : Nat → Int32 → Int32 → Int64 → Prop
  | 0 => fun _ _ _ => True
  | n + 1 => wpL_Bx_firstShortDay_w_53_6 L f q0 p_0 v4_2 v2_2 rec_2 x_4 y_5 Q n
theorem wpL_Bx_firstShortDay_w_53_6_eq {L : List Nat} {f : TF} {q0 : Nat} {p_0 : Int32} {v4_2 : Int32} {v2_2 : Int64} {rec_2 : Int32 → Int64 → Prop} {x_4 : Int32} {y_5 : Int32} {Q : Int32 → Prop} {n : Nat} : wpL_Bx_firstShortDay_w_53_6 L f q0 p_0 v4_2 v2_2 rec_2 x_4 y_5 Q n = wpB_Bx_firstShortDay_w_53_6 L f q0 p_0 v4_2 v2_2 rec_2 x_4 y_5 Q (wpR_Bx_firstShortDay_w_53_6 L f q0 p_0 v4_2 v2_2 rec_2 x_4 y_5 Q n) := by cases n <;> rfl
theorem wpR_Bx_firstShortDay_w_53_6_pos {L : List Nat} {f : TF} {q0 : Nat} {p_0 : Int32} {v4_2 : Int32} {v2_2 : Int64} {rec_2 : Int32 → Int64 → Prop} {x_4 : Int32} {y_5 : Int32} {Q : Int32 → Prop} {n : Nat} (h : 0 < n) : wpR_Bx_firstShortDay_w_53_6 L f q0 p_0 v4_2 v2_2 rec_2 x_4 y_5 Q n = wpL_Bx_firstShortDay_w_53_6 L f q0 p_0 v4_2 v2_2 rec_2 x_4 y_5 Q (n - 1) := by
  cases n with
  | zero => omega
  | succ n => rfl
def wpB_Bx_firstShortDay_w_12_2 (L : List Nat) (f : TF) (q0 : Nat) (p_0 : Int32) (Q : Int32 → Prop) (rec_2 : Int32 → Int64 → Prop) (v4_2 : Int32) (v2_2 : Int64) : Prop := ((p_0 < v4_2 → ∀ x_4 : Int32, ti f q0 0 = x_4 → ∀ y_5 : Int32, y_5 = p_0 - p_0 / 100 * 100 → wpL_Bx_firstShortDay_w_53_6 L f q0 p_0 v4_2 v2_2 rec_2 x_4 y_5 Q (((40 : Int32).toInt - (0 : Int32).toInt).toNat) (p_0 - y_5) (0 : Int32) ((x_4 : Int32).toInt64)) ∧ (¬ (p_0 < v4_2) → ∀ q_13 : Nat, tr f q0 4 = some q_13 → ∀ x_14 : Int32, ti f q_13 (v4_2 : Int32).toNatClampNeg = x_14 → ∀ y_15 : Int64, y_15 = (v2_2 : Int64) + ((x_14 : Int32).toInt64 : Int64) → rec_2 (v4_2 + 1) y_15))
def wpL_Bx_firstShortDay_w_12_2 (L : List Nat) (f : TF) (q0 : Nat) (p_0 : Int32) (Q : Int32 → Prop) : Nat → Int32 → Int64 → Prop
  | 0 => fun v4_2 v2_2 => wpB_Bx_firstShortDay_w_12_2 L f q0 p_0 Q (fun _ _ => True) v4_2 v2_2
  | n + 1 => fun v4_2 v2_2 => wpB_Bx_firstShortDay_w_12_2 L f q0 p_0 Q (wpL_Bx_firstShortDay_w_12_2 L f q0 p_0 Q n) v4_2 v2_2
def wpR_Bx_firstShortDay_w_12_2 (L : List Nat) (f : TF) (q0 : Nat) (p_0 : Int32) (Q : Int32 → Prop) : Nat → Int32 → Int64 → Prop
  | 0 => fun _ _ => True
  | n + 1 => wpL_Bx_firstShortDay_w_12_2 L f q0 p_0 Q n
theorem wpL_Bx_firstShortDay_w_12_2_eq {L : List Nat} {f : TF} {q0 : Nat} {p_0 : Int32} {Q : Int32 → Prop} {n : Nat} : wpL_Bx_firstShortDay_w_12_2 L f q0 p_0 Q n = wpB_Bx_firstShortDay_w_12_2 L f q0 p_0 Q (wpR_Bx_firstShortDay_w_12_2 L f q0 p_0 Q n) := by cases n <;> rfl
theorem wpR_Bx_firstShortDay_w_12_2_pos {L : List Nat} {f : TF} {q0 : Nat} {p_0 : Int32} {Q : Int32 → Prop} {n : Nat} (h : 0 < n) : wpR_Bx_firstShortDay_w_12_2 L f q0 p_0 Q n = wpL_Bx_firstShortDay_w_12_2 L f q0 p_0 Q (n - 1) := by
  cases n with
  | zero => omega
  | succ n => rfl
def wpB_Bx_firstShortDay_w_53_20 (L : List Nat) (f : TF) (q0 : Nat) (p_0 : Int32) (v4_16 : Int32) (v2_16 : Int64) (rec_16 : Int32 → Int64 → Prop) (x_18 : Int32) (y_19 : Int32) (Q : Int32 → Prop) (rec_20 : Int32 → Int32 → Int64 → Prop) (v6_20 : Int32) (v7_20 : Int32) (v4_20 : Int64) : Prop := ((40 ≤ v7_20 → Q (-1)) ∧ (¬ (40 ≤ v7_20) → wp_Bx_owedOn_w L f q0 (v6_20 + 100) (fun (r_22 : Int32) => ∀ y_23 : Int64, y_23 = (v2_16 : Int64) - ((r_22 : Int32).toInt64 : Int64) → ∀ y_24 : Int64, y_24 = (v4_20 : Int64) + (y_23 : Int64) → ∀ y_25 : Int32, y_25 = lg_cmp (y_24 : Int64) (0 : Int64) → ((0 ≤ y_25 → rec_20 (v6_20 + 100) (v7_20 + 1) y_24) ∧ (¬ (0 ≤ y_25) → Q (v6_20 + 100))))))
def wpL_Bx_firstShortDay_w_53_20 (L : List Nat) (f : TF) (q0 : Nat) (p_0 : Int32) (v4_16 : Int32) (v2_16 : Int64) (rec_16 : Int32 → Int64 → Prop) (x_18 : Int32) (y_19 : Int32) (Q : Int32 → Prop) : Nat → Int32 → Int32 → Int64 → Prop
  | 0 => fun v6_20 v7_20 v4_20 => wpB_Bx_firstShortDay_w_53_20 L f q0 p_0 v4_16 v2_16 rec_16 x_18 y_19 Q (fun _ _ _ => True) v6_20 v7_20 v4_20
  | n + 1 => fun v6_20 v7_20 v4_20 => wpB_Bx_firstShortDay_w_53_20 L f q0 p_0 v4_16 v2_16 rec_16 x_18 y_19 Q (wpL_Bx_firstShortDay_w_53_20 L f q0 p_0 v4_16 v2_16 rec_16 x_18 y_19 Q n) v6_20 v7_20 v4_20
def wpR_Bx_firstShortDay_w_53_20 (L : List Nat) (f : TF) (q0 : Nat) (p_0 : Int32) (v4_16 : Int32) (v2_16 : Int64) (rec_16 : Int32 → Int64 → Prop) (x_18 : Int32) (y_19 : Int32) (Q : Int32 → Prop) : Nat → Int32 → Int32 → Int64 → Prop
  | 0 => fun _ _ _ => True
  | n + 1 => wpL_Bx_firstShortDay_w_53_20 L f q0 p_0 v4_16 v2_16 rec_16 x_18 y_19 Q n
theorem wpL_Bx_firstShortDay_w_53_20_eq {L : List Nat} {f : TF} {q0 : Nat} {p_0 : Int32} {v4_16 : Int32} {v2_16 : Int64} {rec_16 : Int32 → Int64 → Prop} {x_18 : Int32} {y_19 : Int32} {Q : Int32 → Prop} {n : Nat} : wpL_Bx_firstShortDay_w_53_20 L f q0 p_0 v4_16 v2_16 rec_16 x_18 y_19 Q n = wpB_Bx_firstShortDay_w_53_20 L f q0 p_0 v4_16 v2_16 rec_16 x_18 y_19 Q (wpR_Bx_firstShortDay_w_53_20 L f q0 p_0 v4_16 v2_16 rec_16 x_18 y_19 Q n) := by cases n <;> rfl
theorem wpR_Bx_firstShortDay_w_53_20_pos {L : List Nat} {f : TF} {q0 : Nat} {p_0 : Int32} {v4_16 : Int32} {v2_16 : Int64} {rec_16 : Int32 → Int64 → Prop} {x_18 : Int32} {y_19 : Int32} {Q : Int32 → Prop} {n : Nat} (h : 0 < n) : wpR_Bx_firstShortDay_w_53_20 L f q0 p_0 v4_16 v2_16 rec_16 x_18 y_19 Q n = wpL_Bx_firstShortDay_w_53_20 L f q0 p_0 v4_16 v2_16 rec_16 x_18 y_19 Q (n - 1) := by
  cases n with
  | zero => omega
  | succ n => rfl
def wpB_Bx_firstShortDay_w_12_16 (L : List Nat) (f : TF) (q0 : Nat) (p_0 : Int32) (Q : Int32 → Prop) (rec_16 : Int32 → Int64 → Prop) (v4_16 : Int32) (v2_16 : Int64) : Prop := ((p_0 < v4_16 → ∀ x_18 : Int32, ti f q0 0 = x_18 → ∀ y_19 : Int32, y_19 = p_0 - p_0 / 100 * 100 → wpL_Bx_firstShortDay_w_53_20 L f q0 p_0 v4_16 v2_16 rec_16 x_18 y_19 Q (((40 : Int32).toInt - (0 : Int32).toInt).toNat) (p_0 - y_19) (0 : Int32) ((x_18 : Int32).toInt64)) ∧ (¬ (p_0 < v4_16) → ∀ q_27 : Nat, tr f q0 4 = some q_27 → ∀ x_28 : Int32, ti f q_27 (v4_16 : Int32).toNatClampNeg = x_28 → ∀ y_29 : Int64, y_29 = (v2_16 : Int64) + ((x_28 : Int32).toInt64 : Int64) → rec_16 (v4_16 + 1) y_29))
def wpL_Bx_firstShortDay_w_12_16 (L : List Nat) (f : TF) (q0 : Nat) (p_0 : Int32) (Q : Int32 → Prop) : Nat → Int32 → Int64 → Prop
  | 0 => fun v4_16 v2_16 => wpB_Bx_firstShortDay_w_12_16 L f q0 p_0 Q (fun _ _ => True) v4_16 v2_16
  | n + 1 => fun v4_16 v2_16 => wpB_Bx_firstShortDay_w_12_16 L f q0 p_0 Q (wpL_Bx_firstShortDay_w_12_16 L f q0 p_0 Q n) v4_16 v2_16
def wpR_Bx_firstShortDay_w_12_16 (L : List Nat) (f : TF) (q0 : Nat) (p_0 : Int32) (Q : Int32 → Prop) : Nat → Int32 → Int64 → Prop
  | 0 => fun _ _ => True
  | n + 1 => wpL_Bx_firstShortDay_w_12_16 L f q0 p_0 Q n
theorem wpL_Bx_firstShortDay_w_12_16_eq {L : List Nat} {f : TF} {q0 : Nat} {p_0 : Int32} {Q : Int32 → Prop} {n : Nat} : wpL_Bx_firstShortDay_w_12_16 L f q0 p_0 Q n = wpB_Bx_firstShortDay_w_12_16 L f q0 p_0 Q (wpR_Bx_firstShortDay_w_12_16 L f q0 p_0 Q n) := by cases n <;> rfl
theorem wpR_Bx_firstShortDay_w_12_16_pos {L : List Nat} {f : TF} {q0 : Nat} {p_0 : Int32} {Q : Int32 → Prop} {n : Nat} (h : 0 < n) : wpR_Bx_firstShortDay_w_12_16 L f q0 p_0 Q n = wpL_Bx_firstShortDay_w_12_16 L f q0 p_0 Q (n - 1) := by
  cases n with
  | zero => omega
  | succ n => rfl
def wp_Bx_firstShortDay_w (L : List Nat) (f : TF) (q0 : Nat) (p_0 : Int32) (Q : Int32 → Prop) : Prop := ((0 < (p_0 - 100) → wpL_Bx_firstShortDay_w_12_2 L f q0 p_0 Q (((500 : Int32).toInt - ((p_0 - 100) : Int32).toInt).toNat) (p_0 - 100) 0) ∧ (¬ (0 < (p_0 - 100)) → wpL_Bx_firstShortDay_w_12_16 L f q0 p_0 Q (((500 : Int32).toInt - (0 : Int32).toInt).toNat) (0 : Int32) 0))
set_option maxHeartbeats 4000000 in
set_option maxRecDepth 100000 in
theorem c_Bx_firstShortDay_w (l : Launch) (dC : Nat → ClassId) (dI : Nat → Nat → Nat) (ct : Nat → ClassId) (L : List Nat) (f : TF) (hO_0 : Ok L f) (q0 : Nat) (m0 : q0 ∈ L ∧ tk f q0 = 12) (p_0 : Int32)  (as_0 : ¬ (p_0 < 0)) (as_1 : ¬ (499 < p_0)) (Q : Int32 → Prop) (hQ : wp_Bx_firstShortDay_w L f q0 p_0 Q) : Met l y_Bx_firstShortDay (.code y_Bx_firstShortDay b_Bx_firstShortDay 8 (some .int) :: TB) ({ frames := 2, cells := 0, slots := 0, locals := 45 }) (va_Pc [.ref q0, .int p_0] (PR dC dI (TW ct L f) (TT ct))) (vp_Si (fun r => (True) ∧ Q r)) 0 0 (fun _ => False) := by
  refine Met.ofW (cc := b_Bx_firstShortDay) (maxL := 8) (ret := (some .int)) (by decide) rfl ?_
  intro p e s m args below meth c s₁ B hml hv
  obtain ⟨rfl, hP, hK, hN⟩ := hv
  have hx := B.exec
  have hb := B.bytes
  have hr := B.returns
  have hts := atoms_spec (ws := (.code y_Bx_firstShortDay b_Bx_firstShortDay 8 (some .int) :: TB)) B.pre
  have htb := fun w (h : w ∈ TB) => hts w (List.mem_cons_of_mem _ h)
  have hown : s.vm.findClass R_Bx = some m.cls := findClass_of_methodNamed B.named
  have hlocks := B.notSynchronized
  have hl := lv_entry ([.ref q0, .int p_0]) (n := 8) (Nat.le_of_ble_eq_true rfl)
  rw [lg_entry_eq]
  generalize (lg_sl ([.ref q0, .int p_0]) ++ List.replicate (8 - (lg_sl ([.ref q0, .int p_0])).length) Slot.unset).toArray = ls at hl ⊢
  have hl : lv_has ls 8 [(0, .ref q0), (1, .int p_0)] := hl
  unfold wp_Bx_firstShortDay_w at hQ
  refine lv_lconst (v := 0) hx hb d_Bx_firstShortDay_0 (by decide +kernel) ?_
  refine lv_lstore_n (lv' := [(2, .long 0), (0, .ref q0), (1, .int p_0)]) hx hb d_Bx_firstShortDay_1 rfl hl (by decide) rfl (fun ls hl => ?_)
  refine lv_iconst (v := 0) hx hb d_Bx_firstShortDay_2 (by decide +kernel) ?_
  refine lv_iload_n hx hb d_Bx_firstShortDay_3 rfl (lv_at hl 2 rfl) ?_
  refine lv_bipush (v := 100) hx hb d_Bx_firstShortDay_4 (by decide +kernel) ?_
  refine lv_isub hx hb d_Bx_firstShortDay_6 ?_
  refine va_mmax hx hb (hml.trans hl.1.symm) hown (htb (.methodLink R_Bx 51 Lib.Math.max.name) tw_676) (htb (.static Lib.Math.max.name) tw_406) (htb (.initialized "java/lang/Math") tw_386) (htb (.code Lib.Math.max.name Lib.Math.max.code 2 (some .int)) tw_407) (Nat.le_of_ble_eq_true rfl) (Nat.le_of_ble_eq_true rfl) (Nat.le_of_ble_eq_true rfl) (Nat.le_of_ble_eq_true rfl) d_Bx_firstShortDay_7 ?_
  by_cases c_1 : 0 < (p_0 - 100)
  · refine hb_ti (p_0 - 100) (if_pos c_1) ?_
    have hQ := hQ.1 c_1
    refine lv_istore (lv' := [(4, .int (p_0 - 100)), (2, .long 0), (0, .ref q0), (1, .int p_0)]) hx hb d_Bx_firstShortDay_10 hl (by decide) rfl (fun ls hl => ?_)
    have cut_2 : ∀ (n_2 : Nat) (v4_2 : Int32) (v2_2 : Int64) (ls : Array Slot), ¬ (v4_2 < 0) → ¬ (500 < v4_2) → (500 : Int32).toInt - (v4_2 : Int32).toInt ≤ (n_2 : Int) → wpL_Bx_firstShortDay_w_12_2 L f q0 p_0 Q n_2 v4_2 v2_2 → lv_has ls 8 [(0, .ref q0), (1, .int p_0), (2, .long v2_2), (4, .int v4_2)] → W p l e (headSpec (.code y_Bx_firstShortDay b_Bx_firstShortDay 8 (some .int) :: TB) ({ frames := 2, cells := 0, slots := 0, locals := 45 })).room s m [.ref q0, .int p_0].toArray below meth c s.heap [] 0 0 (MQ below (vp_Si (fun r => (True) ∧ Q r)) [.ref q0, .int p_0].toArray s 0 0 (fun _ => False)) (F0 m 12 ls []) := by
      intro n_2
      induction n_2 using Nat.strongRecOn with
      | _ n_2 ih_2 =>
        intro v4_2 v2_2 ls iv0_2 iv1_2 hm_2 hQ hl
        rw [wpL_Bx_firstShortDay_w_12_2_eq] at hQ
        obtain ⟨rec_2, hrec_2⟩ : ∃ g, wpR_Bx_firstShortDay_w_12_2 L f q0 p_0 Q n_2 = g := ⟨_, rfl⟩
        rw [hrec_2] at hQ
        unfold wpB_Bx_firstShortDay_w_12_2 at hQ
        refine lv_iload hx hb d_Bx_firstShortDay_12 (lv_at hl 3 rfl) ?_
        refine lv_iload_n hx hb d_Bx_firstShortDay_14 rfl (lv_at hl 1 rfl) ?_
        refine lv_icmp_gt (tgt := 35) hx hb d_Bx_firstShortDay_15 (by decide) (fun c_3 => ?_) (fun c_3 => ?_)
        · have hQ := hQ.1 c_3
          refine lv_aload_n hx hb d_Bx_firstShortDay_35 rfl (lv_at hl 0 rfl) ?_
          refine tw_geti (D := (dC, dI)) (C := R_Bx) (T := F_Bx) (N := 7) (ci := 5) (kd := 12) (ct := ct) hx hb htb i_Bx hown hK hP hO_0 m0 rfl rfl 0 (by decide) (htb (.fieldLink R_Bx 21 "WaterMen$Box" "coins" "I") tw_167) (fun _ h9 => h9) rfl d_Bx_firstShortDay_36 (fun x_4 e_4 b_4 => ?_)
          have hQ := hQ x_4 e_4
          refine lv_i2l hx hb d_Bx_firstShortDay_39 rfl ?_
          refine lv_lstore (lv' := [(4, .long ((x_4 : Int32).toInt64)), (0, .ref q0), (1, .int p_0), (2, .long v2_2)]) hx hb d_Bx_firstShortDay_40 hl (by decide) rfl (fun ls hl => ?_)
          refine lv_iload_n hx hb d_Bx_firstShortDay_42 rfl (lv_at hl 2 rfl) ?_
          refine lv_iload_n hx hb d_Bx_firstShortDay_43 rfl (lv_at hl 2 rfl) ?_
          refine lv_bipush (v := 100) hx hb d_Bx_firstShortDay_44 (by decide +kernel) ?_
          refine lv_irem hx hb d_Bx_firstShortDay_46 (by decide) ?_
          refine hb_remn (c := 100) (C1 := 99) (K := 2147483547) (by decide +kernel) (by decide +kernel) (by decide +kernel) as_0 (show ¬ (2147483547 < p_0) from by have e0 := as_0; rw [Int32.lt_iff_toInt_lt] at e0; have e1 := as_1; rw [Int32.lt_iff_toInt_lt] at e1; have z0 : (0 : Int32).toInt = 0 := (by decide +kernel); have z1 : (499 : Int32).toInt = 499 := (by decide +kernel); have z2 : (2147483547 : Int32).toInt = 2147483547 := (by decide +kernel); rw [Int32.lt_iff_toInt_lt]; omega) (fun y_5 qu_5 g1_5 g2_5 g3_5 g4_5 g5_5 g9_5 => ?_)
          have hQ := hQ y_5 g9_5
          refine lv_isub hx hb d_Bx_firstShortDay_47 ?_
          refine lv_istore (lv' := [(6, .int (p_0 - y_5)), (4, .long ((x_4 : Int32).toInt64)), (0, .ref q0), (1, .int p_0), (2, .long v2_2)]) hx hb d_Bx_firstShortDay_48 hl (by decide) rfl (fun ls hl => ?_)
          refine lv_iconst (v := 0) hx hb d_Bx_firstShortDay_50 (by decide +kernel) ?_
          refine lv_istore (lv' := [(7, .int 0), (6, .int (p_0 - y_5)), (4, .long ((x_4 : Int32).toInt64)), (0, .ref q0), (1, .int p_0), (2, .long v2_2)]) hx hb d_Bx_firstShortDay_51 hl (by decide) rfl (fun ls hl => ?_)
          have cut_6 : ∀ (n_6 : Nat) (v6_6 v7_6 : Int32) (v4_6 : Int64) (ls : Array Slot), ¬ (v7_6 < 0) → ¬ (40 < v7_6) → (40 : Int32).toInt - (v7_6 : Int32).toInt ≤ (n_6 : Int) → wpL_Bx_firstShortDay_w_53_6 L f q0 p_0 v4_2 v2_2 rec_2 x_4 y_5 Q n_6 v6_6 v7_6 v4_6 → lv_has ls 8 [(0, .ref q0), (2, .long v2_2), (4, .long v4_6), (6, .int v6_6), (7, .int v7_6)] → W p l e (headSpec (.code y_Bx_firstShortDay b_Bx_firstShortDay 8 (some .int) :: TB) ({ frames := 2, cells := 0, slots := 0, locals := 45 })).room s m [.ref q0, .int p_0].toArray below meth c s.heap [] 0 0 (MQ below (vp_Si (fun r => (True) ∧ Q r)) [.ref q0, .int p_0].toArray s 0 0 (fun _ => False)) (F0 m 53 ls []) := by
            intro n_6
            induction n_6 using Nat.strongRecOn with
            | _ n_6 ih_6 =>
              intro v6_6 v7_6 v4_6 ls iv0_6 iv1_6 hm_6 hQ hl
              rw [wpL_Bx_firstShortDay_w_53_6_eq] at hQ
              obtain ⟨rec_6, hrec_6⟩ : ∃ g, wpR_Bx_firstShortDay_w_53_6 L f q0 p_0 v4_2 v2_2 rec_2 x_4 y_5 Q n_6 = g := ⟨_, rfl⟩
              rw [hrec_6] at hQ
              unfold wpB_Bx_firstShortDay_w_53_6 at hQ
              refine lv_iload hx hb d_Bx_firstShortDay_53 (lv_at hl 4 rfl) ?_
              refine lv_bipush (v := 40) hx hb d_Bx_firstShortDay_55 (by decide +kernel) ?_
              refine lv_icmp_ge (tgt := 93) hx hb d_Bx_firstShortDay_57 (by decide) (fun c_7 => ?_) (fun c_7 => ?_)
              · have hQ := hQ.1 c_7
                refine lv_iconst (v := (-1)) hx hb d_Bx_firstShortDay_93 (by decide +kernel) ?_
                exact W.iret (v := (-1)) hx hb hr (fun t ht hW => ⟨(-1), rfl, ⟨trivial, hQ⟩, ht⟩) t_nil d_Bx_firstShortDay_94
              · have hQ := hQ.2 c_7
                refine lv_iinc (v := (v6_6 + 100)) (lv' := [(6, .int (v6_6 + 100)), (0, .ref q0), (2, .long v2_2), (4, .long v4_6), (7, .int v7_6)]) hx hb d_Bx_firstShortDay_60 hl (k := 3) rfl rfl (by decide) rfl (fun ls hl => ?_)
                refine lv_lload hx hb d_Bx_firstShortDay_63 (lv_at hl 3 rfl) ?_
                refine lv_lload_n hx hb d_Bx_firstShortDay_65 rfl (lv_at hl 2 rfl) ?_
                refine lv_aload_n hx hb d_Bx_firstShortDay_66 rfl (lv_at hl 1 rfl) ?_
                refine lv_iload hx hb d_Bx_firstShortDay_67 (lv_at hl 0 rfl) ?_
                refine vp_callSi (va_Run.run (va_runV (As := [.int (v6_6 + 100)]) (rest := [.long v2_2, .long v4_6]) ⟨hx, hb, hml, hown, htb⟩ (c_Bx_owedOn_w l dC dI ct L f hO_0 q0 m0 (v6_6 + 100) _ hQ) (cwV 1 htb (gd_V tw_678 tw_679 tw_680 tw_170 tw_677) rfl rfl rfl (by decide +kernel) ⟨Nat.le_of_ble_eq_true rfl, Nat.le_of_ble_eq_true rfl⟩) ⟨pr_blind, tw_recv hK hP m0 rfl rfl, pr_pre hP hK hN⟩ rfl rfl hl.1 rfl (lv_room (Nat.le_of_ble_eq_true rfl)) d_Bx_firstShortDay_69 ⟨Nat.le_of_ble_eq_true rfl, Nat.le_of_ble_eq_true rfl⟩)) (fun r_8 er_8 => ?_)
                obtain ⟨er_8, hQ⟩ := er_8
                clear er_8
                refine lv_i2l hx hb d_Bx_firstShortDay_72 rfl ?_
                refine lv_lsub hx hb d_Bx_firstShortDay_73 ?_
                refine hb_eql (fun y_9 hy_9 => ?_)
                have hQ := hQ y_9 hy_9
                refine lv_ladd hx hb d_Bx_firstShortDay_74 ?_
                refine hb_eql (fun y_10 hy_10 => ?_)
                have hQ := hQ y_10 hy_10
                refine lv_lstore (lv' := [(4, .long y_10), (6, .int (v6_6 + 100)), (0, .ref q0), (2, .long v2_2), (7, .int v7_6)]) hx hb d_Bx_firstShortDay_75 hl (by decide) rfl (fun ls hl => ?_)
                refine lv_lload hx hb d_Bx_firstShortDay_77 (lv_at hl 0 rfl) ?_
                refine lv_lconst (v := 0) hx hb d_Bx_firstShortDay_79 (by decide +kernel) ?_
                refine W.lcmp hx hb d_Bx_firstShortDay_80 ?_
                refine hb_eqi (fun y_11 hy_11 => ?_)
                have hQ := hQ y_11 hy_11
                refine lv_if_ge (tgt := 87) hx hb d_Bx_firstShortDay_81 (by decide) (fun c_12 => ?_) (fun c_12 => ?_)
                · have hQ := hQ.1 c_12
                  refine lv_iinc (v := (v7_6 + 1)) (lv' := [(7, .int (v7_6 + 1)), (4, .long y_10), (6, .int (v6_6 + 100)), (0, .ref q0), (2, .long v2_2)]) hx hb d_Bx_firstShortDay_87 hl (k := 4) rfl rfl (by decide) rfl (fun ls hl => ?_)
                  refine lv_goto (tgt := 53) hx hb d_Bx_firstShortDay_90 (by decide) ?_
                  exact ih_6 (n_6 - 1) (ms_1 ((fun (a_0 : Int32) (k_0 : ¬ (40 ≤ a_0)) => (show 1 ≤ (40 : Int32).toInt - (a_0).toInt ∧ (40 : Int32).toInt - ((a_0) + (1 : Int32)).toInt + 1 ≤ (40 : Int32).toInt - (a_0).toInt from by have z0 : (1 : Int32).toInt = 1 := (by decide +kernel); have z1 : (40 : Int32).toInt = 40 := (by decide +kernel); have r0 := fb_rng (a_0); have e0 := k_0; rw [Int32.le_iff_toInt_le, z1] at e0; obtain ⟨n_0, hn_0, s0⟩ := nd_add (x := (a_0)) (y := (1 : Int32)) (by (try rw [z0]); omega) (by (try rw [z0]); omega); rw [z0] at s0; rw [hn_0]; (try rw [z1]); omega)) v7_6 c_7) hm_6) (v6_6 + 100) (v7_6 + 1) y_10 _ (show ¬ ((v7_6 + 1) < 0) from by have e0 := iv0_6; rw [Int32.lt_iff_toInt_lt] at e0; have e1 := c_7; rw [Int32.le_iff_toInt_le] at e1; have z0 : (0 : Int32).toInt = 0 := (by decide +kernel); have z1 : (1 : Int32).toInt = 1 := (by decide +kernel); have z2 : (40 : Int32).toInt = 40 := (by decide +kernel); have ss := fb_addI (x := v7_6) (y := 1) (by omega) (by omega); rw [Int32.lt_iff_toInt_lt]; omega) (show ¬ (40 < (v7_6 + 1)) from by have e0 := iv0_6; rw [Int32.lt_iff_toInt_lt] at e0; have e1 := c_7; rw [Int32.le_iff_toInt_le] at e1; have z0 : (0 : Int32).toInt = 0 := (by decide +kernel); have z1 : (1 : Int32).toInt = 1 := (by decide +kernel); have z2 : (40 : Int32).toInt = 40 := (by decide +kernel); have ss := fb_addI (x := v7_6) (y := 1) (by omega) (by omega); rw [Int32.lt_iff_toInt_lt]; omega) (by exact ms_2 ((fun (a_0 : Int32) (k_0 : ¬ (40 ≤ a_0)) => (show 1 ≤ (40 : Int32).toInt - (a_0).toInt ∧ (40 : Int32).toInt - ((a_0) + (1 : Int32)).toInt + 1 ≤ (40 : Int32).toInt - (a_0).toInt from by have z0 : (1 : Int32).toInt = 1 := (by decide +kernel); have z1 : (40 : Int32).toInt = 40 := (by decide +kernel); have r0 := fb_rng (a_0); have e0 := k_0; rw [Int32.le_iff_toInt_le, z1] at e0; obtain ⟨n_0, hn_0, s0⟩ := nd_add (x := (a_0)) (y := (1 : Int32)) (by (try rw [z0]); omega) (by (try rw [z0]); omega); rw [z0] at s0; rw [hn_0]; (try rw [z1]); omega)) v7_6 c_7) hm_6) (by rw [← hrec_6, wpR_Bx_firstShortDay_w_53_6_pos (ms_3 ((fun (a_0 : Int32) (k_0 : ¬ (40 ≤ a_0)) => (show 1 ≤ (40 : Int32).toInt - (a_0).toInt ∧ (40 : Int32).toInt - ((a_0) + (1 : Int32)).toInt + 1 ≤ (40 : Int32).toInt - (a_0).toInt from by have z0 : (1 : Int32).toInt = 1 := (by decide +kernel); have z1 : (40 : Int32).toInt = 40 := (by decide +kernel); have r0 := fb_rng (a_0); have e0 := k_0; rw [Int32.le_iff_toInt_le, z1] at e0; obtain ⟨n_0, hn_0, s0⟩ := nd_add (x := (a_0)) (y := (1 : Int32)) (by (try rw [z0]); omega) (by (try rw [z0]); omega); rw [z0] at s0; rw [hn_0]; (try rw [z1]); omega)) v7_6 c_7) hm_6)] at hQ; exact hQ) (lv_sub hl [3, 4, 1, 2, 0] rfl)
                · have hQ := hQ.2 c_12
                  refine lv_iload hx hb d_Bx_firstShortDay_84 (lv_at hl 1 rfl) ?_
                  exact W.iret (v := (v6_6 + 100)) hx hb hr (fun t ht hW => ⟨(v6_6 + 100), rfl, ⟨trivial, hQ⟩, ht⟩) t_nil d_Bx_firstShortDay_86
          exact cut_6 ((40 : Int32).toInt - (0 : Int32).toInt).toNat (p_0 - y_5) (0 : Int32) ((x_4 : Int32).toInt64) _ (by decide +kernel) (by decide +kernel) (by exact ms_e _ _) hQ (lv_sub hl [3, 5, 2, 1, 0] rfl)
        · have hQ := hQ.2 c_3
          refine lv_lload_n hx hb d_Bx_firstShortDay_18 rfl (lv_at hl 2 rfl) ?_
          refine lv_aload_n hx hb d_Bx_firstShortDay_19 rfl (lv_at hl 0 rfl) ?_
          refine tw_getr (D := (dC, dI)) (C := R_Bx) (T := F_Bx) (N := 7) (ci := 5) (kd := 12) (ct := ct) hx hb htb i_Bx hown hK hP hO_0 m0 rfl rfl 4 (by decide) (htb (.fieldLink R_Bx 9 "WaterMen$Box" "income" "[I") tw_168) (fun _ h9 => h9) rfl d_Bx_firstShortDay_20 (fun q_13 e_13 m_13 => ?_)
          have hQ := hQ q_13 e_13
          refine lv_iload hx hb d_Bx_firstShortDay_23 (lv_at hl 3 rfl) ?_
          refine tw_aldI (ct := ct) hx hb hK hP hO_0 m_13 rfl ((fun (a_0 : Int32) (a_1 : Int32) (k_0 : ¬ (a_1 < 0)) (k_1 : ¬ (a_0 < a_1)) (k_2 : ¬ (499 < a_0)) => (show vp_in (a_1) 500 from by have z0 : (0 : Int32).toInt = 0 := (by decide +kernel); have z1 : (499 : Int32).toInt = 499 := (by decide +kernel); have r0 := fb_rng (a_0); have r1 := fb_rng (a_1); have e0 := k_0; rw [Int32.lt_iff_toInt_lt, z0] at e0; have e1 := k_1; rw [Int32.lt_iff_toInt_lt] at e1; have e2 := k_2; rw [Int32.lt_iff_toInt_lt, z1] at e2; rw [vp_in_iff]; omega)) p_0 v4_2 iv0_2 c_3 as_1) d_Bx_firstShortDay_25 (fun x_14 e_14 b_14 => ?_)
          have hQ := hQ x_14 e_14
          refine lv_i2l hx hb d_Bx_firstShortDay_26 rfl ?_
          refine lv_ladd hx hb d_Bx_firstShortDay_27 ?_
          refine hb_eql (fun y_15 hy_15 => ?_)
          have hQ := hQ y_15 hy_15
          refine lv_lstore_n (lv' := [(2, .long y_15), (0, .ref q0), (1, .int p_0), (4, .int v4_2)]) hx hb d_Bx_firstShortDay_28 rfl hl (by decide) rfl (fun ls hl => ?_)
          refine lv_iinc (v := (v4_2 + 1)) (lv' := [(4, .int (v4_2 + 1)), (2, .long y_15), (0, .ref q0), (1, .int p_0)]) hx hb d_Bx_firstShortDay_29 hl (k := 3) rfl rfl (by decide) rfl (fun ls hl => ?_)
          refine lv_goto (tgt := 12) hx hb d_Bx_firstShortDay_32 (by decide) ?_
          exact ih_2 (n_2 - 1) (ms_1 ((fun (a_0 : Int32) (a_1 : Int32) (k_0 : ¬ (a_0 < a_1)) (k_1 : ¬ (499 < a_0)) => (show 1 ≤ (500 : Int32).toInt - (a_1).toInt ∧ (500 : Int32).toInt - ((a_1) + (1 : Int32)).toInt + 1 ≤ (500 : Int32).toInt - (a_1).toInt from by have z0 : (1 : Int32).toInt = 1 := (by decide +kernel); have z1 : (499 : Int32).toInt = 499 := (by decide +kernel); have z2 : (500 : Int32).toInt = 500 := (by decide +kernel); have r0 := fb_rng (a_0); have r1 := fb_rng (a_1); have e0 := k_0; rw [Int32.lt_iff_toInt_lt] at e0; have e1 := k_1; rw [Int32.lt_iff_toInt_lt, z1] at e1; obtain ⟨n_0, hn_0, s0⟩ := nd_add (x := (a_1)) (y := (1 : Int32)) (by (try rw [z0]); omega) (by (try rw [z0]); omega); rw [z0] at s0; rw [hn_0]; (try rw [z2]); omega)) p_0 v4_2 c_3 as_1) hm_2) (v4_2 + 1) y_15 _ (show ¬ ((v4_2 + 1) < 0) from by have e0 := iv0_2; rw [Int32.lt_iff_toInt_lt] at e0; have e1 := iv1_2; rw [Int32.lt_iff_toInt_lt] at e1; have z0 : (0 : Int32).toInt = 0 := (by decide +kernel); have z1 : (1 : Int32).toInt = 1 := (by decide +kernel); have z2 : (500 : Int32).toInt = 500 := (by decide +kernel); have ss := fb_addI (x := v4_2) (y := 1) (by omega) (by omega); rw [Int32.lt_iff_toInt_lt]; omega) (show ¬ (500 < (v4_2 + 1)) from ((fun (a_0 : Int32) (a_1 : Int32) (k_0 : ¬ (a_0 < a_1)) (k_1 : ¬ (499 < a_0)) => (show ¬ (500 < (a_1 + 1)) from by have z0 : (1 : Int32).toInt = 1 := (by decide +kernel); have z1 : (499 : Int32).toInt = 499 := (by decide +kernel); have z2 : (500 : Int32).toInt = 500 := (by decide +kernel); have r0 := fb_rng (a_0); have r1 := fb_rng (a_1); have e0 := k_0; rw [Int32.lt_iff_toInt_lt] at e0; have e1 := k_1; rw [Int32.lt_iff_toInt_lt, z1] at e1; obtain ⟨n_0, hn_0, s0⟩ := nd_add (x := (a_1)) (y := (1 : Int32)) (by (try rw [z0]); omega) (by (try rw [z0]); omega); rw [z0] at s0; rw [hn_0, Int32.lt_iff_toInt_lt, z2]; omega)) p_0 v4_2 c_3 as_1)) (by exact ms_2 ((fun (a_0 : Int32) (a_1 : Int32) (k_0 : ¬ (a_0 < a_1)) (k_1 : ¬ (499 < a_0)) => (show 1 ≤ (500 : Int32).toInt - (a_1).toInt ∧ (500 : Int32).toInt - ((a_1) + (1 : Int32)).toInt + 1 ≤ (500 : Int32).toInt - (a_1).toInt from by have z0 : (1 : Int32).toInt = 1 := (by decide +kernel); have z1 : (499 : Int32).toInt = 499 := (by decide +kernel); have z2 : (500 : Int32).toInt = 500 := (by decide +kernel); have r0 := fb_rng (a_0); have r1 := fb_rng (a_1); have e0 := k_0; rw [Int32.lt_iff_toInt_lt] at e0; have e1 := k_1; rw [Int32.lt_iff_toInt_lt, z1] at e1; obtain ⟨n_0, hn_0, s0⟩ := nd_add (x := (a_1)) (y := (1 : Int32)) (by (try rw [z0]); omega) (by (try rw [z0]); omega); rw [z0] at s0; rw [hn_0]; (try rw [z2]); omega)) p_0 v4_2 c_3 as_1) hm_2) (by rw [← hrec_2, wpR_Bx_firstShortDay_w_12_2_pos (ms_3 ((fun (a_0 : Int32) (a_1 : Int32) (k_0 : ¬ (a_0 < a_1)) (k_1 : ¬ (499 < a_0)) => (show 1 ≤ (500 : Int32).toInt - (a_1).toInt ∧ (500 : Int32).toInt - ((a_1) + (1 : Int32)).toInt + 1 ≤ (500 : Int32).toInt - (a_1).toInt from by have z0 : (1 : Int32).toInt = 1 := (by decide +kernel); have z1 : (499 : Int32).toInt = 499 := (by decide +kernel); have z2 : (500 : Int32).toInt = 500 := (by decide +kernel); have r0 := fb_rng (a_0); have r1 := fb_rng (a_1); have e0 := k_0; rw [Int32.lt_iff_toInt_lt] at e0; have e1 := k_1; rw [Int32.lt_iff_toInt_lt, z1] at e1; obtain ⟨n_0, hn_0, s0⟩ := nd_add (x := (a_1)) (y := (1 : Int32)) (by (try rw [z0]); omega) (by (try rw [z0]); omega); rw [z0] at s0; rw [hn_0]; (try rw [z2]); omega)) p_0 v4_2 c_3 as_1) hm_2)] at hQ; exact hQ) (lv_sub hl [2, 3, 1, 0] rfl)
    exact cut_2 ((500 : Int32).toInt - ((p_0 - 100) : Int32).toInt).toNat (p_0 - 100) 0 _ (show ¬ ((p_0 - 100) < 0) from by have e0 := c_1; rw [Int32.lt_iff_toInt_lt] at e0; have z0 : (0 : Int32).toInt = 0 := (by decide +kernel); have z1 : (100 : Int32).toInt = 100 := (by decide +kernel); rw [Int32.lt_iff_toInt_lt]; omega) (show ¬ (500 < (p_0 - 100)) from by have e0 := as_0; rw [Int32.lt_iff_toInt_lt] at e0; have e1 := as_1; rw [Int32.lt_iff_toInt_lt] at e1; have z0 : (0 : Int32).toInt = 0 := (by decide +kernel); have z1 : (100 : Int32).toInt = 100 := (by decide +kernel); have z2 : (499 : Int32).toInt = 499 := (by decide +kernel); have z3 : (500 : Int32).toInt = 500 := (by decide +kernel); have ss := fb_subI (x := p_0) (y := 100) (by omega) (by omega); rw [Int32.lt_iff_toInt_lt]; omega) (by exact ms_e _ _) hQ (lv_sub hl [2, 3, 1, 0] rfl)
  · refine hb_ti 0 (if_neg c_1) ?_
    have hQ := hQ.2 c_1
    refine lv_istore (lv' := [(4, .int 0), (2, .long 0), (0, .ref q0), (1, .int p_0)]) hx hb d_Bx_firstShortDay_10 hl (by decide) rfl (fun ls hl => ?_)
    have cut_16 : ∀ (n_16 : Nat) (v4_16 : Int32) (v2_16 : Int64) (ls : Array Slot), ¬ (v4_16 < 0) → ¬ (500 < v4_16) → (500 : Int32).toInt - (v4_16 : Int32).toInt ≤ (n_16 : Int) → wpL_Bx_firstShortDay_w_12_16 L f q0 p_0 Q n_16 v4_16 v2_16 → lv_has ls 8 [(0, .ref q0), (1, .int p_0), (2, .long v2_16), (4, .int v4_16)] → W p l e (headSpec (.code y_Bx_firstShortDay b_Bx_firstShortDay 8 (some .int) :: TB) ({ frames := 2, cells := 0, slots := 0, locals := 45 })).room s m [.ref q0, .int p_0].toArray below meth c s.heap [] 0 0 (MQ below (vp_Si (fun r => (True) ∧ Q r)) [.ref q0, .int p_0].toArray s 0 0 (fun _ => False)) (F0 m 12 ls []) := by
      intro n_16
      induction n_16 using Nat.strongRecOn with
      | _ n_16 ih_16 =>
        intro v4_16 v2_16 ls iv0_16 iv1_16 hm_16 hQ hl
        rw [wpL_Bx_firstShortDay_w_12_16_eq] at hQ
        obtain ⟨rec_16, hrec_16⟩ : ∃ g, wpR_Bx_firstShortDay_w_12_16 L f q0 p_0 Q n_16 = g := ⟨_, rfl⟩
        rw [hrec_16] at hQ
        unfold wpB_Bx_firstShortDay_w_12_16 at hQ
        refine lv_iload hx hb d_Bx_firstShortDay_12 (lv_at hl 3 rfl) ?_
        refine lv_iload_n hx hb d_Bx_firstShortDay_14 rfl (lv_at hl 1 rfl) ?_
        refine lv_icmp_gt (tgt := 35) hx hb d_Bx_firstShortDay_15 (by decide) (fun c_17 => ?_) (fun c_17 => ?_)
        · have hQ := hQ.1 c_17
          refine lv_aload_n hx hb d_Bx_firstShortDay_35 rfl (lv_at hl 0 rfl) ?_
          refine tw_geti (D := (dC, dI)) (C := R_Bx) (T := F_Bx) (N := 7) (ci := 5) (kd := 12) (ct := ct) hx hb htb i_Bx hown hK hP hO_0 m0 rfl rfl 0 (by decide) (htb (.fieldLink R_Bx 21 "WaterMen$Box" "coins" "I") tw_167) (fun _ h9 => h9) rfl d_Bx_firstShortDay_36 (fun x_18 e_18 b_18 => ?_)
          have hQ := hQ x_18 e_18
          refine lv_i2l hx hb d_Bx_firstShortDay_39 rfl ?_
          refine lv_lstore (lv' := [(4, .long ((x_18 : Int32).toInt64)), (0, .ref q0), (1, .int p_0), (2, .long v2_16)]) hx hb d_Bx_firstShortDay_40 hl (by decide) rfl (fun ls hl => ?_)
          refine lv_iload_n hx hb d_Bx_firstShortDay_42 rfl (lv_at hl 2 rfl) ?_
          refine lv_iload_n hx hb d_Bx_firstShortDay_43 rfl (lv_at hl 2 rfl) ?_
          refine lv_bipush (v := 100) hx hb d_Bx_firstShortDay_44 (by decide +kernel) ?_
          refine lv_irem hx hb d_Bx_firstShortDay_46 (by decide) ?_
          refine hb_remn (c := 100) (C1 := 99) (K := 2147483547) (by decide +kernel) (by decide +kernel) (by decide +kernel) as_0 (show ¬ (2147483547 < p_0) from by have e0 := as_0; rw [Int32.lt_iff_toInt_lt] at e0; have e1 := as_1; rw [Int32.lt_iff_toInt_lt] at e1; have z0 : (0 : Int32).toInt = 0 := (by decide +kernel); have z1 : (499 : Int32).toInt = 499 := (by decide +kernel); have z2 : (2147483547 : Int32).toInt = 2147483547 := (by decide +kernel); rw [Int32.lt_iff_toInt_lt]; omega) (fun y_19 qu_19 g1_19 g2_19 g3_19 g4_19 g5_19 g9_19 => ?_)
          have hQ := hQ y_19 g9_19
          refine lv_isub hx hb d_Bx_firstShortDay_47 ?_
          refine lv_istore (lv' := [(6, .int (p_0 - y_19)), (4, .long ((x_18 : Int32).toInt64)), (0, .ref q0), (1, .int p_0), (2, .long v2_16)]) hx hb d_Bx_firstShortDay_48 hl (by decide) rfl (fun ls hl => ?_)
          refine lv_iconst (v := 0) hx hb d_Bx_firstShortDay_50 (by decide +kernel) ?_
          refine lv_istore (lv' := [(7, .int 0), (6, .int (p_0 - y_19)), (4, .long ((x_18 : Int32).toInt64)), (0, .ref q0), (1, .int p_0), (2, .long v2_16)]) hx hb d_Bx_firstShortDay_51 hl (by decide) rfl (fun ls hl => ?_)
          have cut_20 : ∀ (n_20 : Nat) (v6_20 v7_20 : Int32) (v4_20 : Int64) (ls : Array Slot), ¬ (v7_20 < 0) → ¬ (40 < v7_20) → (40 : Int32).toInt - (v7_20 : Int32).toInt ≤ (n_20 : Int) → wpL_Bx_firstShortDay_w_53_20 L f q0 p_0 v4_16 v2_16 rec_16 x_18 y_19 Q n_20 v6_20 v7_20 v4_20 → lv_has ls 8 [(0, .ref q0), (2, .long v2_16), (4, .long v4_20), (6, .int v6_20), (7, .int v7_20)] → W p l e (headSpec (.code y_Bx_firstShortDay b_Bx_firstShortDay 8 (some .int) :: TB) ({ frames := 2, cells := 0, slots := 0, locals := 45 })).room s m [.ref q0, .int p_0].toArray below meth c s.heap [] 0 0 (MQ below (vp_Si (fun r => (True) ∧ Q r)) [.ref q0, .int p_0].toArray s 0 0 (fun _ => False)) (F0 m 53 ls []) := by
            intro n_20
            induction n_20 using Nat.strongRecOn with
            | _ n_20 ih_20 =>
              intro v6_20 v7_20 v4_20 ls iv0_20 iv1_20 hm_20 hQ hl
              rw [wpL_Bx_firstShortDay_w_53_20_eq] at hQ
              obtain ⟨rec_20, hrec_20⟩ : ∃ g, wpR_Bx_firstShortDay_w_53_20 L f q0 p_0 v4_16 v2_16 rec_16 x_18 y_19 Q n_20 = g := ⟨_, rfl⟩
              rw [hrec_20] at hQ
              unfold wpB_Bx_firstShortDay_w_53_20 at hQ
              refine lv_iload hx hb d_Bx_firstShortDay_53 (lv_at hl 4 rfl) ?_
              refine lv_bipush (v := 40) hx hb d_Bx_firstShortDay_55 (by decide +kernel) ?_
              refine lv_icmp_ge (tgt := 93) hx hb d_Bx_firstShortDay_57 (by decide) (fun c_21 => ?_) (fun c_21 => ?_)
              · have hQ := hQ.1 c_21
                refine lv_iconst (v := (-1)) hx hb d_Bx_firstShortDay_93 (by decide +kernel) ?_
                exact W.iret (v := (-1)) hx hb hr (fun t ht hW => ⟨(-1), rfl, ⟨trivial, hQ⟩, ht⟩) t_nil d_Bx_firstShortDay_94
              · have hQ := hQ.2 c_21
                refine lv_iinc (v := (v6_20 + 100)) (lv' := [(6, .int (v6_20 + 100)), (0, .ref q0), (2, .long v2_16), (4, .long v4_20), (7, .int v7_20)]) hx hb d_Bx_firstShortDay_60 hl (k := 3) rfl rfl (by decide) rfl (fun ls hl => ?_)
                refine lv_lload hx hb d_Bx_firstShortDay_63 (lv_at hl 3 rfl) ?_
                refine lv_lload_n hx hb d_Bx_firstShortDay_65 rfl (lv_at hl 2 rfl) ?_
                refine lv_aload_n hx hb d_Bx_firstShortDay_66 rfl (lv_at hl 1 rfl) ?_
                refine lv_iload hx hb d_Bx_firstShortDay_67 (lv_at hl 0 rfl) ?_
                refine vp_callSi (va_Run.run (va_runV (As := [.int (v6_20 + 100)]) (rest := [.long v2_16, .long v4_20]) ⟨hx, hb, hml, hown, htb⟩ (c_Bx_owedOn_w l dC dI ct L f hO_0 q0 m0 (v6_20 + 100) _ hQ) (cwV 1 htb (gd_V tw_678 tw_679 tw_680 tw_170 tw_677) rfl rfl rfl (by decide +kernel) ⟨Nat.le_of_ble_eq_true rfl, Nat.le_of_ble_eq_true rfl⟩) ⟨pr_blind, tw_recv hK hP m0 rfl rfl, pr_pre hP hK hN⟩ rfl rfl hl.1 rfl (lv_room (Nat.le_of_ble_eq_true rfl)) d_Bx_firstShortDay_69 ⟨Nat.le_of_ble_eq_true rfl, Nat.le_of_ble_eq_true rfl⟩)) (fun r_22 er_22 => ?_)
                obtain ⟨er_22, hQ⟩ := er_22
                clear er_22
                refine lv_i2l hx hb d_Bx_firstShortDay_72 rfl ?_
                refine lv_lsub hx hb d_Bx_firstShortDay_73 ?_
                refine hb_eql (fun y_23 hy_23 => ?_)
                have hQ := hQ y_23 hy_23
                refine lv_ladd hx hb d_Bx_firstShortDay_74 ?_
                refine hb_eql (fun y_24 hy_24 => ?_)
                have hQ := hQ y_24 hy_24
                refine lv_lstore (lv' := [(4, .long y_24), (6, .int (v6_20 + 100)), (0, .ref q0), (2, .long v2_16), (7, .int v7_20)]) hx hb d_Bx_firstShortDay_75 hl (by decide) rfl (fun ls hl => ?_)
                refine lv_lload hx hb d_Bx_firstShortDay_77 (lv_at hl 0 rfl) ?_
                refine lv_lconst (v := 0) hx hb d_Bx_firstShortDay_79 (by decide +kernel) ?_
                refine W.lcmp hx hb d_Bx_firstShortDay_80 ?_
                refine hb_eqi (fun y_25 hy_25 => ?_)
                have hQ := hQ y_25 hy_25
                refine lv_if_ge (tgt := 87) hx hb d_Bx_firstShortDay_81 (by decide) (fun c_26 => ?_) (fun c_26 => ?_)
                · have hQ := hQ.1 c_26
                  refine lv_iinc (v := (v7_20 + 1)) (lv' := [(7, .int (v7_20 + 1)), (4, .long y_24), (6, .int (v6_20 + 100)), (0, .ref q0), (2, .long v2_16)]) hx hb d_Bx_firstShortDay_87 hl (k := 4) rfl rfl (by decide) rfl (fun ls hl => ?_)
                  refine lv_goto (tgt := 53) hx hb d_Bx_firstShortDay_90 (by decide) ?_
                  exact ih_20 (n_20 - 1) (ms_1 ((fun (a_0 : Int32) (k_0 : ¬ (40 ≤ a_0)) => (show 1 ≤ (40 : Int32).toInt - (a_0).toInt ∧ (40 : Int32).toInt - ((a_0) + (1 : Int32)).toInt + 1 ≤ (40 : Int32).toInt - (a_0).toInt from by have z0 : (1 : Int32).toInt = 1 := (by decide +kernel); have z1 : (40 : Int32).toInt = 40 := (by decide +kernel); have r0 := fb_rng (a_0); have e0 := k_0; rw [Int32.le_iff_toInt_le, z1] at e0; obtain ⟨n_0, hn_0, s0⟩ := nd_add (x := (a_0)) (y := (1 : Int32)) (by (try rw [z0]); omega) (by (try rw [z0]); omega); rw [z0] at s0; rw [hn_0]; (try rw [z1]); omega)) v7_20 c_21) hm_20) (v6_20 + 100) (v7_20 + 1) y_24 _ (show ¬ ((v7_20 + 1) < 0) from by have e0 := iv0_20; rw [Int32.lt_iff_toInt_lt] at e0; have e1 := c_21; rw [Int32.le_iff_toInt_le] at e1; have z0 : (0 : Int32).toInt = 0 := (by decide +kernel); have z1 : (1 : Int32).toInt = 1 := (by decide +kernel); have z2 : (40 : Int32).toInt = 40 := (by decide +kernel); have ss := fb_addI (x := v7_20) (y := 1) (by omega) (by omega); rw [Int32.lt_iff_toInt_lt]; omega) (show ¬ (40 < (v7_20 + 1)) from by have e0 := iv0_20; rw [Int32.lt_iff_toInt_lt] at e0; have e1 := c_21; rw [Int32.le_iff_toInt_le] at e1; have z0 : (0 : Int32).toInt = 0 := (by decide +kernel); have z1 : (1 : Int32).toInt = 1 := (by decide +kernel); have z2 : (40 : Int32).toInt = 40 := (by decide +kernel); have ss := fb_addI (x := v7_20) (y := 1) (by omega) (by omega); rw [Int32.lt_iff_toInt_lt]; omega) (by exact ms_2 ((fun (a_0 : Int32) (k_0 : ¬ (40 ≤ a_0)) => (show 1 ≤ (40 : Int32).toInt - (a_0).toInt ∧ (40 : Int32).toInt - ((a_0) + (1 : Int32)).toInt + 1 ≤ (40 : Int32).toInt - (a_0).toInt from by have z0 : (1 : Int32).toInt = 1 := (by decide +kernel); have z1 : (40 : Int32).toInt = 40 := (by decide +kernel); have r0 := fb_rng (a_0); have e0 := k_0; rw [Int32.le_iff_toInt_le, z1] at e0; obtain ⟨n_0, hn_0, s0⟩ := nd_add (x := (a_0)) (y := (1 : Int32)) (by (try rw [z0]); omega) (by (try rw [z0]); omega); rw [z0] at s0; rw [hn_0]; (try rw [z1]); omega)) v7_20 c_21) hm_20) (by rw [← hrec_20, wpR_Bx_firstShortDay_w_53_20_pos (ms_3 ((fun (a_0 : Int32) (k_0 : ¬ (40 ≤ a_0)) => (show 1 ≤ (40 : Int32).toInt - (a_0).toInt ∧ (40 : Int32).toInt - ((a_0) + (1 : Int32)).toInt + 1 ≤ (40 : Int32).toInt - (a_0).toInt from by have z0 : (1 : Int32).toInt = 1 := (by decide +kernel); have z1 : (40 : Int32).toInt = 40 := (by decide +kernel); have r0 := fb_rng (a_0); have e0 := k_0; rw [Int32.le_iff_toInt_le, z1] at e0; obtain ⟨n_0, hn_0, s0⟩ := nd_add (x := (a_0)) (y := (1 : Int32)) (by (try rw [z0]); omega) (by (try rw [z0]); omega); rw [z0] at s0; rw [hn_0]; (try rw [z1]); omega)) v7_20 c_21) hm_20)] at hQ; exact hQ) (lv_sub hl [3, 4, 1, 2, 0] rfl)
                · have hQ := hQ.2 c_26
                  refine lv_iload hx hb d_Bx_firstShortDay_84 (lv_at hl 1 rfl) ?_
                  exact W.iret (v := (v6_20 + 100)) hx hb hr (fun t ht hW => ⟨(v6_20 + 100), rfl, ⟨trivial, hQ⟩, ht⟩) t_nil d_Bx_firstShortDay_86
          exact cut_20 ((40 : Int32).toInt - (0 : Int32).toInt).toNat (p_0 - y_19) (0 : Int32) ((x_18 : Int32).toInt64) _ (by decide +kernel) (by decide +kernel) (by exact ms_e _ _) hQ (lv_sub hl [3, 5, 2, 1, 0] rfl)
        · have hQ := hQ.2 c_17
          refine lv_lload_n hx hb d_Bx_firstShortDay_18 rfl (lv_at hl 2 rfl) ?_
          refine lv_aload_n hx hb d_Bx_firstShortDay_19 rfl (lv_at hl 0 rfl) ?_
          refine tw_getr (D := (dC, dI)) (C := R_Bx) (T := F_Bx) (N := 7) (ci := 5) (kd := 12) (ct := ct) hx hb htb i_Bx hown hK hP hO_0 m0 rfl rfl 4 (by decide) (htb (.fieldLink R_Bx 9 "WaterMen$Box" "income" "[I") tw_168) (fun _ h9 => h9) rfl d_Bx_firstShortDay_20 (fun q_27 e_27 m_27 => ?_)
          have hQ := hQ q_27 e_27
          refine lv_iload hx hb d_Bx_firstShortDay_23 (lv_at hl 3 rfl) ?_
          refine tw_aldI (ct := ct) hx hb hK hP hO_0 m_27 rfl ((fun (a_0 : Int32) (a_1 : Int32) (k_0 : ¬ (a_1 < 0)) (k_1 : ¬ (a_0 < a_1)) (k_2 : ¬ (0 < (a_0 - 100))) => (show vp_in (a_1) 500 from by have z0 : (0 : Int32).toInt = 0 := (by decide +kernel); have z1 : (100 : Int32).toInt = 100 := (by decide +kernel); have r0 := fb_rng (a_0); have r1 := fb_rng (a_1); have e0 := k_0; rw [Int32.lt_iff_toInt_lt, z0] at e0; have e1 := k_1; rw [Int32.lt_iff_toInt_lt] at e1; obtain ⟨n_0, hn_0, s0⟩ := nd_sub (x := (a_0)) (y := (100 : Int32)) (by (try rw [z1]); omega) (by (try rw [z1]); omega); rw [z1] at s0; have e2 := k_2; rw [hn_0, Int32.lt_iff_toInt_lt, z0] at e2; rw [vp_in_iff]; omega)) p_0 v4_16 iv0_16 c_17 c_1) d_Bx_firstShortDay_25 (fun x_28 e_28 b_28 => ?_)
          have hQ := hQ x_28 e_28
          refine lv_i2l hx hb d_Bx_firstShortDay_26 rfl ?_
          refine lv_ladd hx hb d_Bx_firstShortDay_27 ?_
          refine hb_eql (fun y_29 hy_29 => ?_)
          have hQ := hQ y_29 hy_29
          refine lv_lstore_n (lv' := [(2, .long y_29), (0, .ref q0), (1, .int p_0), (4, .int v4_16)]) hx hb d_Bx_firstShortDay_28 rfl hl (by decide) rfl (fun ls hl => ?_)
          refine lv_iinc (v := (v4_16 + 1)) (lv' := [(4, .int (v4_16 + 1)), (2, .long y_29), (0, .ref q0), (1, .int p_0)]) hx hb d_Bx_firstShortDay_29 hl (k := 3) rfl rfl (by decide) rfl (fun ls hl => ?_)
          refine lv_goto (tgt := 12) hx hb d_Bx_firstShortDay_32 (by decide) ?_
          exact ih_16 (n_16 - 1) (ms_1 ((fun (a_0 : Int32) (a_1 : Int32) (k_0 : ¬ (a_0 < a_1)) (k_1 : ¬ (499 < a_0)) => (show 1 ≤ (500 : Int32).toInt - (a_1).toInt ∧ (500 : Int32).toInt - ((a_1) + (1 : Int32)).toInt + 1 ≤ (500 : Int32).toInt - (a_1).toInt from by have z0 : (1 : Int32).toInt = 1 := (by decide +kernel); have z1 : (499 : Int32).toInt = 499 := (by decide +kernel); have z2 : (500 : Int32).toInt = 500 := (by decide +kernel); have r0 := fb_rng (a_0); have r1 := fb_rng (a_1); have e0 := k_0; rw [Int32.lt_iff_toInt_lt] at e0; have e1 := k_1; rw [Int32.lt_iff_toInt_lt, z1] at e1; obtain ⟨n_0, hn_0, s0⟩ := nd_add (x := (a_1)) (y := (1 : Int32)) (by (try rw [z0]); omega) (by (try rw [z0]); omega); rw [z0] at s0; rw [hn_0]; (try rw [z2]); omega)) p_0 v4_16 c_17 as_1) hm_16) (v4_16 + 1) y_29 _ (show ¬ ((v4_16 + 1) < 0) from by have e0 := iv0_16; rw [Int32.lt_iff_toInt_lt] at e0; have e1 := iv1_16; rw [Int32.lt_iff_toInt_lt] at e1; have z0 : (0 : Int32).toInt = 0 := (by decide +kernel); have z1 : (1 : Int32).toInt = 1 := (by decide +kernel); have z2 : (500 : Int32).toInt = 500 := (by decide +kernel); have ss := fb_addI (x := v4_16) (y := 1) (by omega) (by omega); rw [Int32.lt_iff_toInt_lt]; omega) (show ¬ (500 < (v4_16 + 1)) from ((fun (a_0 : Int32) (a_1 : Int32) (k_0 : ¬ (a_0 < a_1)) (k_1 : ¬ (499 < a_0)) => (show ¬ (500 < (a_1 + 1)) from by have z0 : (1 : Int32).toInt = 1 := (by decide +kernel); have z1 : (499 : Int32).toInt = 499 := (by decide +kernel); have z2 : (500 : Int32).toInt = 500 := (by decide +kernel); have r0 := fb_rng (a_0); have r1 := fb_rng (a_1); have e0 := k_0; rw [Int32.lt_iff_toInt_lt] at e0; have e1 := k_1; rw [Int32.lt_iff_toInt_lt, z1] at e1; obtain ⟨n_0, hn_0, s0⟩ := nd_add (x := (a_1)) (y := (1 : Int32)) (by (try rw [z0]); omega) (by (try rw [z0]); omega); rw [z0] at s0; rw [hn_0, Int32.lt_iff_toInt_lt, z2]; omega)) p_0 v4_16 c_17 as_1)) (by exact ms_2 ((fun (a_0 : Int32) (a_1 : Int32) (k_0 : ¬ (a_0 < a_1)) (k_1 : ¬ (499 < a_0)) => (show 1 ≤ (500 : Int32).toInt - (a_1).toInt ∧ (500 : Int32).toInt - ((a_1) + (1 : Int32)).toInt + 1 ≤ (500 : Int32).toInt - (a_1).toInt from by have z0 : (1 : Int32).toInt = 1 := (by decide +kernel); have z1 : (499 : Int32).toInt = 499 := (by decide +kernel); have z2 : (500 : Int32).toInt = 500 := (by decide +kernel); have r0 := fb_rng (a_0); have r1 := fb_rng (a_1); have e0 := k_0; rw [Int32.lt_iff_toInt_lt] at e0; have e1 := k_1; rw [Int32.lt_iff_toInt_lt, z1] at e1; obtain ⟨n_0, hn_0, s0⟩ := nd_add (x := (a_1)) (y := (1 : Int32)) (by (try rw [z0]); omega) (by (try rw [z0]); omega); rw [z0] at s0; rw [hn_0]; (try rw [z2]); omega)) p_0 v4_16 c_17 as_1) hm_16) (by rw [← hrec_16, wpR_Bx_firstShortDay_w_12_16_pos (ms_3 ((fun (a_0 : Int32) (a_1 : Int32) (k_0 : ¬ (a_0 < a_1)) (k_1 : ¬ (499 < a_0)) => (show 1 ≤ (500 : Int32).toInt - (a_1).toInt ∧ (500 : Int32).toInt - ((a_1) + (1 : Int32)).toInt + 1 ≤ (500 : Int32).toInt - (a_1).toInt from by have z0 : (1 : Int32).toInt = 1 := (by decide +kernel); have z1 : (499 : Int32).toInt = 499 := (by decide +kernel); have z2 : (500 : Int32).toInt = 500 := (by decide +kernel); have r0 := fb_rng (a_0); have r1 := fb_rng (a_1); have e0 := k_0; rw [Int32.lt_iff_toInt_lt] at e0; have e1 := k_1; rw [Int32.lt_iff_toInt_lt, z1] at e1; obtain ⟨n_0, hn_0, s0⟩ := nd_add (x := (a_1)) (y := (1 : Int32)) (by (try rw [z0]); omega) (by (try rw [z0]); omega); rw [z0] at s0; rw [hn_0]; (try rw [z2]); omega)) p_0 v4_16 c_17 as_1) hm_16)] at hQ; exact hQ) (lv_sub hl [2, 3, 1, 0] rfl)
    exact cut_16 ((500 : Int32).toInt - (0 : Int32).toInt).toNat (0 : Int32) 0 _ (by decide +kernel) (by decide +kernel) (by exact ms_e _ _) hQ (lv_sub hl [2, 3, 1, 0] rfl)
def wp_WM_foretold_w (L : List Nat) (f : TF) (q0 : Nat) (Q : Int32 → Prop) : Prop := ∀ q_1 : Nat, tr f q0 6 = some q_1 → wp_WM_today_w L f q0 (fun (r_2 : Int32) => (wp_Bx_firstShortDay_w L f q_1 r_2 (fun (r_5 : Int32) => ((r_5 = (-1) → Q (-2)) ∧ (¬ (r_5 = (-1)) → Q r_5)))))
set_option maxHeartbeats 4000000 in
set_option maxRecDepth 100000 in
theorem c_WM_foretold_w (l : Launch) (dC : Nat → ClassId) (dI : Nat → Nat → Nat) (ct : Nat → ClassId) (L : List Nat) (f : TF) (hO_0 : Ok L f) (q0 : Nat) (m0 : q0 ∈ L ∧ tk f q0 = 0)    (Q : Int32 → Prop) (hQ : wp_WM_foretold_w L f q0 Q) : Met l y_WM_foretold (.code y_WM_foretold b_WM_foretold 2 (some .int) :: TB) ({ frames := 3, cells := 0, slots := 0, locals := 72 }) (va_Pc [.ref q0] (PR dC dI (TW ct L f) (TT ct))) (vp_Si (fun r => (True) ∧ Q r)) 0 0 (fun _ => False) := by
  refine Met.ofW (cc := b_WM_foretold) (maxL := 2) (ret := (some .int)) (by decide) rfl ?_
  intro p e s m args below meth c s₁ B hml hv
  obtain ⟨rfl, hP, hK, hN⟩ := hv
  have hx := B.exec
  have hb := B.bytes
  have hr := B.returns
  have hts := atoms_spec (ws := (.code y_WM_foretold b_WM_foretold 2 (some .int) :: TB)) B.pre
  have htb := fun w (h : w ∈ TB) => hts w (List.mem_cons_of_mem _ h)
  have hown : s.vm.findClass R_WM = some m.cls := findClass_of_methodNamed B.named
  have hlocks := B.notSynchronized
  have hl := lv_entry ([.ref q0]) (n := 2) (Nat.le_of_ble_eq_true rfl)
  rw [lg_entry_eq]
  generalize (lg_sl ([.ref q0]) ++ List.replicate (2 - (lg_sl ([.ref q0])).length) Slot.unset).toArray = ls at hl ⊢
  have hl : lv_has ls 2 [(0, .ref q0)] := hl
  unfold wp_WM_foretold_w at hQ
  refine lv_aload_n hx hb d_WM_foretold_0 rfl (lv_at hl 0 rfl) ?_
  refine tw_getr (D := (dC, dI)) (C := R_WM) (T := F_WM) (N := 13) (ci := 0) (kd := 0) (ct := ct) hx hb htb i_WM hown hK hP hO_0 m0 rfl rfl 6 (by decide) (htb (.fieldLink R_WM 50 "WaterMen" "box" "LWaterMen$Box;") tw_165) (fun _ h9 => h9) rfl d_WM_foretold_1 (fun q_1 e_1 m_1 => ?_)
  have hQ := hQ q_1 e_1
  refine lv_aload_n hx hb d_WM_foretold_4 rfl (lv_at hl 0 rfl) ?_
  refine vp_callSi (va_Run.run (va_runV (As := []) (rest := [.ref q_1]) ⟨hx, hb, hml, hown, htb⟩ (c_WM_today_w l dC dI ct L f hO_0 q0 m0 _ hQ) (cwV 0 htb (gd_V tw_113 tw_114 tw_115 tw_26 tw_112) rfl rfl rfl (by decide +kernel) ⟨Nat.le_of_ble_eq_true rfl, Nat.le_of_ble_eq_true rfl⟩) ⟨pr_blind, tw_recv hK hP m0 rfl rfl, pr_pre hP hK hN⟩ rfl rfl hl.1 rfl (lv_room (Nat.le_of_ble_eq_true rfl)) d_WM_foretold_5 ⟨Nat.le_of_ble_eq_true rfl, Nat.le_of_ble_eq_true rfl⟩)) (fun r_2 er_2 => ?_)
  obtain ⟨er_2, hQ⟩ := er_2
  obtain ⟨po_3, po_4, -⟩ := er_2
  refine vp_callSi (va_Run.run (va_runV (As := [.int r_2]) (rest := []) ⟨hx, hb, hml, hown, htb⟩ (c_Bx_firstShortDay_w l dC dI ct L f hO_0 q_1 m_1 r_2 po_3 po_4 _ hQ) (cwV 1 htb (gd_V tw_682 tw_683 tw_684 tw_170 tw_681) rfl rfl rfl (by decide +kernel) ⟨Nat.le_of_ble_eq_true rfl, Nat.le_of_ble_eq_true rfl⟩) ⟨pr_blind, tw_recv hK hP m_1 rfl rfl, pr_pre hP hK hN⟩ rfl rfl hl.1 rfl (lv_room (Nat.le_of_ble_eq_true rfl)) d_WM_foretold_8 ⟨Nat.le_of_ble_eq_true rfl, Nat.le_of_ble_eq_true rfl⟩)) (fun r_5 er_5 => ?_)
  obtain ⟨er_5, hQ⟩ := er_5
  clear er_5
  refine lv_istore_n (lv' := [(1, .int r_5), (0, .ref q0)]) hx hb d_WM_foretold_11 rfl hl (by decide) rfl (fun ls hl => ?_)
  refine lv_iload_n hx hb d_WM_foretold_12 rfl (lv_at hl 0 rfl) ?_
  refine lv_iconst (v := (-1)) hx hb d_WM_foretold_13 (by decide +kernel) ?_
  refine lv_icmp_ne (tgt := 22) hx hb d_WM_foretold_14 (by decide) (fun c_6 => ?_) (fun c_6 => ?_)
  · have hQ := hQ.2 c_6
    refine lv_iload_n hx hb d_WM_foretold_22 rfl (lv_at hl 0 rfl) ?_
    exact W.iret (v := r_5) hx hb hr (fun t ht hW => ⟨r_5, rfl, ⟨trivial, hQ⟩, ht⟩) t_nil d_WM_foretold_23
  · have hQ := hQ.1 c_6
    refine lv_bipush (v := (-2)) hx hb d_WM_foretold_17 (by decide +kernel) ?_
    refine lv_goto (tgt := 23) hx hb d_WM_foretold_19 (by decide) ?_
    exact W.iret (v := (-2)) hx hb hr (fun t ht hW => ⟨(-2), rfl, ⟨trivial, hQ⟩, ht⟩) t_nil d_WM_foretold_23
def wpB_Md_foretold_w_83_29 (L : List Nat) (f : TF) (q0 : Nat) (r_1 : Int32) (r_7 : Int32) (v3_12 : Int32) (v1_12 : Int64) (rec_12 : Int32 → Int64 → Prop) (r_13 : Int32) (x_19 : Int64) (v5_20 : Int32) (v3_20 : Int64) (rec_20 : Int32 → Int64 → Prop) (r_22 : Int32) (y_27 : Int32) (y_28 : Int64) (Q : Int32 → Prop) (rec_29 : Int32 → Int64 → Prop) (v7_29 : Int32) (v3_29 : Int64) : Prop := ∀ x_30 : Int32, ti f q0 60 = x_30 → ((x_30 ≤ v7_29 → rec_20 (v5_20 + 1) v3_29) ∧ (¬ (x_30 ≤ v7_29) → ∀ q_32 : Nat, tr f q0 62 = some q_32 → ∀ x_33 : Int32, ti f q_32 (v7_29 : Int32).toNatClampNeg = x_33 → ((((y_27 + v5_20) * 100) < x_33 → ∀ q_35 : Nat, tr f q0 61 = some q_35 → ∀ x_36 : Int32, ti f q_35 (v7_29 : Int32).toNatClampNeg = x_36 → ∀ y_37 : Int32, y_37 = lg_cmp (v3_29 : Int64) ((x_36 : Int32).toInt64 : Int64) → ((0 ≤ y_37 → ∀ y_40 : Int64, y_40 = (v3_29 : Int64) - ((x_36 : Int32).toInt64 : Int64) → rec_29 (v7_29 + 1) y_40) ∧ (¬ (0 ≤ y_37) → Q ((y_27 + v5_20) * 100)))) ∧ (¬ (((y_27 + v5_20) * 100) < x_33) → rec_29 (v7_29 + 1) v3_29))))
def wpL_Md_foretold_w_83_29 (L : List Nat) (f : TF) (q0 : Nat) (r_1 : Int32) (r_7 : Int32) (v3_12 : Int32) (v1_12 : Int64) (rec_12 : Int32 → Int64 → Prop) (r_13 : Int32) (x_19 : Int64) (v5_20 : Int32) (v3_20 : Int64) (rec_20 : Int32 → Int64 → Prop) (r_22 : Int32) (y_27 : Int32) (y_28 : Int64) (Q : Int32 → Prop) : Nat → Int32 → Int64 → Prop
  | 0 => fun v7_29 v3_29 => wpB_Md_foretold_w_83_29 L f q0 r_1 r_7 v3_12 v1_12 rec_12 r_13 x_19 v5_20 v3_20 rec_20 r_22 y_27 y_28 Q (fun _ _ => True) v7_29 v3_29
  | n + 1 => fun v7_29 v3_29 => wpB_Md_foretold_w_83_29 L f q0 r_1 r_7 v3_12 v1_12 rec_12 r_13 x_19 v5_20 v3_20 rec_20 r_22 y_27 y_28 Q (wpL_Md_foretold_w_83_29 L f q0 r_1 r_7 v3_12 v1_12 rec_12 r_13 x_19 v5_20 v3_20 rec_20 r_22 y_27 y_28 Q n) v7_29 v3_29
def wpR_Md_foretold_w_83_29 (L : List Nat) (f : TF) (q0 : Nat) (r_1 : Int32) (r_7 : Int32) (v3_12 : Int32) (v1_12 : Int64) (rec_12 : Int32 → Int64 → Prop) (r_13 : Int32) (x_19 : Int64) (v5_20 : Int32) (v3_20 : Int64) (rec_20 : Int32 → Int64 → Prop) (r_22 : Int32) (y_27 : Int32) (y_28 : Int64) (Q : Int32 → Prop) : Nat → Int32 → Int64 → Prop
  | 0 => fun _ _ => True
  | n + 1 => wpL_Md_foretold_w_83_29 L f q0 r_1 r_7 v3_12 v1_12 rec_12 r_13 x_19 v5_20 v3_20 rec_20 r_22 y_27 y_28 Q n
theorem wpL_Md_foretold_w_83_29_eq {L : List Nat} {f : TF} {q0 : Nat} {r_1 : Int32} {r_7 : Int32} {v3_12 : Int32} {v1_12 : Int64} {rec_12 : Int32 → Int64 → Prop} {r_13 : Int32} {x_19 : Int64} {v5_20 : Int32} {v3_20 : Int64} {rec_20 : Int32 → Int64 → Prop} {r_22 : Int32} {y_27 : Int32} {y_28 : Int64} {Q : Int32 → Prop} {n : Nat} : wpL_Md_foretold_w_83_29 L f q0 r_1 r_7 v3_12 v1_12 rec_12 r_13 x_19 v5_20 v3_20 rec_20 r_22 y_27 y_28 Q n = wpB_Md_foretold_w_83_29 L f q0 r_1 r_7 v3_12 v1_12 rec_12 r_13 x_19 v5_20 v3_20 rec_20 r_22 y_27 y_28 Q (wpR_Md_foretold_w_83_29 L f q0 r_1 r_7 v3_12 v1_12 rec_12 r_13 x_19 v5_20 v3_20 rec_20 r_22 y_27 y_28 Q n) := by cases n <;> rfl
theorem wpR_Md_foretold_w_83_29_pos {L : List Nat} {f : TF} {q0 : Nat} {r_1 : Int32} {r_7 : Int32} {v3_12 : Int32} {v1_12 : Int64} {rec_12 : Int32 → Int64 → Prop} {r_13 : Int32} {x_19 : Int64} {v5_20 : Int32} {v3_20 : Int64} {rec_20 : Int32 → Int64 → Prop} {r_22 : Int32} {y_27 : Int32} {y_28 : Int64} {Q : Int32 → Prop} {n : Nat} (h : 0 < n) : wpR_Md_foretold_w_83_29 L f q0 r_1 r_7 v3_12 v1_12 rec_12 r_13 x_19 v5_20 v3_20 rec_20 r_22 y_27 y_28 Q n = wpL_Md_foretold_w_83_29 L f q0 r_1 r_7 v3_12 v1_12 rec_12 r_13 x_19 v5_20 v3_20 rec_20 r_22 y_27 y_28 Q (n - 1) := by
  cases n with
  | zero => omega
  | succ n => rfl
def wpB_Md_foretold_w_54_20 (L : List Nat) (f : TF) (q0 : Nat) (r_1 : Int32) (r_7 : Int32) (v3_12 : Int32) (v1_12 : Int64) (rec_12 : Int32 → Int64 → Prop) (r_13 : Int32) (x_19 : Int64) (Q : Int32 → Prop) (rec_20 : Int32 → Int64 → Prop) (v5_20 : Int32) (v3_20 : Int64) : Prop := ((40 < v5_20 → Q (-2)) ∧ (¬ (40 < v5_20) → wp_Md_today_w L f q0 (fun (r_22 : Int32) => (∀ y_27 : Int32, y_27 = r_22 / 100 → ∀ y_28 : Int64, y_28 = (v3_20 : Int64) + (v1_12 : Int64) → wpL_Md_foretold_w_83_29 L f q0 r_1 r_7 v3_12 v1_12 rec_12 r_13 x_19 v5_20 v3_20 rec_20 r_22 y_27 y_28 Q (((30 : Int32).toInt - (0 : Int32).toInt).toNat) (0 : Int32) y_28))))
def wpL_Md_foretold_w_54_20 (L : List Nat) (f : TF) (q0 : Nat) (r_1 : Int32) (r_7 : Int32) (v3_12 : Int32) (v1_12 : Int64) (rec_12 : Int32 → Int64 → Prop) (r_13 : Int32) (x_19 : Int64) (Q : Int32 → Prop) : Nat → Int32 → Int64 → Prop
  | 0 => fun v5_20 v3_20 => wpB_Md_foretold_w_54_20 L f q0 r_1 r_7 v3_12 v1_12 rec_12 r_13 x_19 Q (fun _ _ => True) v5_20 v3_20
  | n + 1 => fun v5_20 v3_20 => wpB_Md_foretold_w_54_20 L f q0 r_1 r_7 v3_12 v1_12 rec_12 r_13 x_19 Q (wpL_Md_foretold_w_54_20 L f q0 r_1 r_7 v3_12 v1_12 rec_12 r_13 x_19 Q n) v5_20 v3_20
def wpR_Md_foretold_w_54_20 (L : List Nat) (f : TF) (q0 : Nat) (r_1 : Int32) (r_7 : Int32) (v3_12 : Int32) (v1_12 : Int64) (rec_12 : Int32 → Int64 → Prop) (r_13 : Int32) (x_19 : Int64) (Q : Int32 → Prop) : Nat → Int32 → Int64 → Prop
  | 0 => fun _ _ => True
  | n + 1 => wpL_Md_foretold_w_54_20 L f q0 r_1 r_7 v3_12 v1_12 rec_12 r_13 x_19 Q n
theorem wpL_Md_foretold_w_54_20_eq {L : List Nat} {f : TF} {q0 : Nat} {r_1 : Int32} {r_7 : Int32} {v3_12 : Int32} {v1_12 : Int64} {rec_12 : Int32 → Int64 → Prop} {r_13 : Int32} {x_19 : Int64} {Q : Int32 → Prop} {n : Nat} : wpL_Md_foretold_w_54_20 L f q0 r_1 r_7 v3_12 v1_12 rec_12 r_13 x_19 Q n = wpB_Md_foretold_w_54_20 L f q0 r_1 r_7 v3_12 v1_12 rec_12 r_13 x_19 Q (wpR_Md_foretold_w_54_20 L f q0 r_1 r_7 v3_12 v1_12 rec_12 r_13 x_19 Q n) := by cases n <;> rfl
theorem wpR_Md_foretold_w_54_20_pos {L : List Nat} {f : TF} {q0 : Nat} {r_1 : Int32} {r_7 : Int32} {v3_12 : Int32} {v1_12 : Int64} {rec_12 : Int32 → Int64 → Prop} {r_13 : Int32} {x_19 : Int64} {Q : Int32 → Prop} {n : Nat} (h : 0 < n) : wpR_Md_foretold_w_54_20 L f q0 r_1 r_7 v3_12 v1_12 rec_12 r_13 x_19 Q n = wpL_Md_foretold_w_54_20 L f q0 r_1 r_7 v3_12 v1_12 rec_12 r_13 x_19 Q (n - 1) := by
  cases n with
  | zero => omega
  | succ n => rfl
def wpB_Md_foretold_w_23_12 (L : List Nat) (f : TF) (q0 : Nat) (r_1 : Int32) (r_7 : Int32) (Q : Int32 → Prop) (rec_12 : Int32 → Int64 → Prop) (v3_12 : Int32) (v1_12 : Int64) : Prop := wp_Md_today_w L f q0 (fun (r_13 : Int32) => (((r_13 < v3_12 → ∀ x_19 : Int64, tl f q0 56 = x_19 → wpL_Md_foretold_w_54_20 L f q0 r_1 r_7 v3_12 v1_12 rec_12 r_13 x_19 Q (((41 : Int32).toInt - (1 : Int32).toInt).toNat) (1 : Int32) x_19) ∧ (¬ (r_13 < v3_12) → ∀ q_41 : Nat, tr f q0 59 = some q_41 → ∀ x_42 : Int64, tl f q_41 (v3_12 : Int32).toNatClampNeg = x_42 → ∀ y_43 : Int64, y_43 = (v1_12 : Int64) + (x_42 : Int64) → rec_12 (v3_12 + 1) y_43))))
def wpL_Md_foretold_w_23_12 (L : List Nat) (f : TF) (q0 : Nat) (r_1 : Int32) (r_7 : Int32) (Q : Int32 → Prop) : Nat → Int32 → Int64 → Prop
  | 0 => fun v3_12 v1_12 => wpB_Md_foretold_w_23_12 L f q0 r_1 r_7 Q (fun _ _ => True) v3_12 v1_12
  | n + 1 => fun v3_12 v1_12 => wpB_Md_foretold_w_23_12 L f q0 r_1 r_7 Q (wpL_Md_foretold_w_23_12 L f q0 r_1 r_7 Q n) v3_12 v1_12
def wpR_Md_foretold_w_23_12 (L : List Nat) (f : TF) (q0 : Nat) (r_1 : Int32) (r_7 : Int32) (Q : Int32 → Prop) : Nat → Int32 → Int64 → Prop
  | 0 => fun _ _ => True
  | n + 1 => wpL_Md_foretold_w_23_12 L f q0 r_1 r_7 Q n
theorem wpL_Md_foretold_w_23_12_eq {L : List Nat} {f : TF} {q0 : Nat} {r_1 : Int32} {r_7 : Int32} {Q : Int32 → Prop} {n : Nat} : wpL_Md_foretold_w_23_12 L f q0 r_1 r_7 Q n = wpB_Md_foretold_w_23_12 L f q0 r_1 r_7 Q (wpR_Md_foretold_w_23_12 L f q0 r_1 r_7 Q n) := by cases n <;> rfl
theorem wpR_Md_foretold_w_23_12_pos {L : List Nat} {f : TF} {q0 : Nat} {r_1 : Int32} {r_7 : Int32} {Q : Int32 → Prop} {n : Nat} (h : 0 < n) : wpR_Md_foretold_w_23_12 L f q0 r_1 r_7 Q n = wpL_Md_foretold_w_23_12 L f q0 r_1 r_7 Q (n - 1) := by
  cases n with
  | zero => omega
  | succ n => rfl
def wpB_Md_foretold_w_83_61 (L : List Nat) (f : TF) (q0 : Nat) (r_1 : Int32) (v3_44 : Int32) (v1_44 : Int64) (rec_44 : Int32 → Int64 → Prop) (r_45 : Int32) (x_51 : Int64) (v5_52 : Int32) (v3_52 : Int64) (rec_52 : Int32 → Int64 → Prop) (r_54 : Int32) (y_59 : Int32) (y_60 : Int64) (Q : Int32 → Prop) (rec_61 : Int32 → Int64 → Prop) (v7_61 : Int32) (v3_61 : Int64) : Prop := ∀ x_62 : Int32, ti f q0 60 = x_62 → ((x_62 ≤ v7_61 → rec_52 (v5_52 + 1) v3_61) ∧ (¬ (x_62 ≤ v7_61) → ∀ q_64 : Nat, tr f q0 62 = some q_64 → ∀ x_65 : Int32, ti f q_64 (v7_61 : Int32).toNatClampNeg = x_65 → ((((y_59 + v5_52) * 100) < x_65 → ∀ q_67 : Nat, tr f q0 61 = some q_67 → ∀ x_68 : Int32, ti f q_67 (v7_61 : Int32).toNatClampNeg = x_68 → ∀ y_69 : Int32, y_69 = lg_cmp (v3_61 : Int64) ((x_68 : Int32).toInt64 : Int64) → ((0 ≤ y_69 → ∀ y_72 : Int64, y_72 = (v3_61 : Int64) - ((x_68 : Int32).toInt64 : Int64) → rec_61 (v7_61 + 1) y_72) ∧ (¬ (0 ≤ y_69) → Q ((y_59 + v5_52) * 100)))) ∧ (¬ (((y_59 + v5_52) * 100) < x_65) → rec_61 (v7_61 + 1) v3_61))))
def wpL_Md_foretold_w_83_61 (L : List Nat) (f : TF) (q0 : Nat) (r_1 : Int32) (v3_44 : Int32) (v1_44 : Int64) (rec_44 : Int32 → Int64 → Prop) (r_45 : Int32) (x_51 : Int64) (v5_52 : Int32) (v3_52 : Int64) (rec_52 : Int32 → Int64 → Prop) (r_54 : Int32) (y_59 : Int32) (y_60 : Int64) (Q : Int32 → Prop) : Nat → Int32 → Int64 → Prop
  | 0 => fun v7_61 v3_61 => wpB_Md_foretold_w_83_61 L f q0 r_1 v3_44 v1_44 rec_44 r_45 x_51 v5_52 v3_52 rec_52 r_54 y_59 y_60 Q (fun _ _ => True) v7_61 v3_61
  | n + 1 => fun v7_61 v3_61 => wpB_Md_foretold_w_83_61 L f q0 r_1 v3_44 v1_44 rec_44 r_45 x_51 v5_52 v3_52 rec_52 r_54 y_59 y_60 Q (wpL_Md_foretold_w_83_61 L f q0 r_1 v3_44 v1_44 rec_44 r_45 x_51 v5_52 v3_52 rec_52 r_54 y_59 y_60 Q n) v7_61 v3_61
def wpR_Md_foretold_w_83_61 (L : List Nat) (f : TF) (q0 : Nat) (r_1 : Int32) (v3_44 : Int32) (v1_44 : Int64) (rec_44 : Int32 → Int64 → Prop) (r_45 : Int32) (x_51 : Int64) (v5_52 : Int32) (v3_52 : Int64) (rec_52 : Int32 → Int64 → Prop) (r_54 : Int32) (y_59 : Int32) (y_60 : Int64) (Q : Int32 → Prop) : Nat → Int32 → Int64 → Prop
  | 0 => fun _ _ => True
  | n + 1 => wpL_Md_foretold_w_83_61 L f q0 r_1 v3_44 v1_44 rec_44 r_45 x_51 v5_52 v3_52 rec_52 r_54 y_59 y_60 Q n
theorem wpL_Md_foretold_w_83_61_eq {L : List Nat} {f : TF} {q0 : Nat} {r_1 : Int32} {v3_44 : Int32} {v1_44 : Int64} {rec_44 : Int32 → Int64 → Prop} {r_45 : Int32} {x_51 : Int64} {v5_52 : Int32} {v3_52 : Int64} {rec_52 : Int32 → Int64 → Prop} {r_54 : Int32} {y_59 : Int32} {y_60 : Int64} {Q : Int32 → Prop} {n : Nat} : wpL_Md_foretold_w_83_61 L f q0 r_1 v3_44 v1_44 rec_44 r_45 x_51 v5_52 v3_52 rec_52 r_54 y_59 y_60 Q n = wpB_Md_foretold_w_83_61 L f q0 r_1 v3_44 v1_44 rec_44 r_45 x_51 v5_52 v3_52 rec_52 r_54 y_59 y_60 Q (wpR_Md_foretold_w_83_61 L f q0 r_1 v3_44 v1_44 rec_44 r_45 x_51 v5_52 v3_52 rec_52 r_54 y_59 y_60 Q n) := by cases n <;> rfl
theorem wpR_Md_foretold_w_83_61_pos {L : List Nat} {f : TF} {q0 : Nat} {r_1 : Int32} {v3_44 : Int32} {v1_44 : Int64} {rec_44 : Int32 → Int64 → Prop} {r_45 : Int32} {x_51 : Int64} {v5_52 : Int32} {v3_52 : Int64} {rec_52 : Int32 → Int64 → Prop} {r_54 : Int32} {y_59 : Int32} {y_60 : Int64} {Q : Int32 → Prop} {n : Nat} (h : 0 < n) : wpR_Md_foretold_w_83_61 L f q0 r_1 v3_44 v1_44 rec_44 r_45 x_51 v5_52 v3_52 rec_52 r_54 y_59 y_60 Q n = wpL_Md_foretold_w_83_61 L f q0 r_1 v3_44 v1_44 rec_44 r_45 x_51 v5_52 v3_52 rec_52 r_54 y_59 y_60 Q (n - 1) := by
  cases n with
  | zero => omega
  | succ n => rfl
def wpB_Md_foretold_w_54_52 (L : List Nat) (f : TF) (q0 : Nat) (r_1 : Int32) (v3_44 : Int32) (v1_44 : Int64) (rec_44 : Int32 → Int64 → Prop) (r_45 : Int32) (x_51 : Int64) (Q : Int32 → Prop) (rec_52 : Int32 → Int64 → Prop) (v5_52 : Int32) (v3_52 : Int64) : Prop := ((40 < v5_52 → Q (-2)) ∧ (¬ (40 < v5_52) → wp_Md_today_w L f q0 (fun (r_54 : Int32) => (∀ y_59 : Int32, y_59 = r_54 / 100 → ∀ y_60 : Int64, y_60 = (v3_52 : Int64) + (v1_44 : Int64) → wpL_Md_foretold_w_83_61 L f q0 r_1 v3_44 v1_44 rec_44 r_45 x_51 v5_52 v3_52 rec_52 r_54 y_59 y_60 Q (((30 : Int32).toInt - (0 : Int32).toInt).toNat) (0 : Int32) y_60))))
def wpL_Md_foretold_w_54_52 (L : List Nat) (f : TF) (q0 : Nat) (r_1 : Int32) (v3_44 : Int32) (v1_44 : Int64) (rec_44 : Int32 → Int64 → Prop) (r_45 : Int32) (x_51 : Int64) (Q : Int32 → Prop) : Nat → Int32 → Int64 → Prop
  | 0 => fun v5_52 v3_52 => wpB_Md_foretold_w_54_52 L f q0 r_1 v3_44 v1_44 rec_44 r_45 x_51 Q (fun _ _ => True) v5_52 v3_52
  | n + 1 => fun v5_52 v3_52 => wpB_Md_foretold_w_54_52 L f q0 r_1 v3_44 v1_44 rec_44 r_45 x_51 Q (wpL_Md_foretold_w_54_52 L f q0 r_1 v3_44 v1_44 rec_44 r_45 x_51 Q n) v5_52 v3_52
def wpR_Md_foretold_w_54_52 (L : List Nat) (f : TF) (q0 : Nat) (r_1 : Int32) (v3_44 : Int32) (v1_44 : Int64) (rec_44 : Int32 → Int64 → Prop) (r_45 : Int32) (x_51 : Int64) (Q : Int32 → Prop) : Nat → Int32 → Int64 → Prop
  | 0 => fun _ _ => True
  | n + 1 => wpL_Md_foretold_w_54_52 L f q0 r_1 v3_44 v1_44 rec_44 r_45 x_51 Q n
theorem wpL_Md_foretold_w_54_52_eq {L : List Nat} {f : TF} {q0 : Nat} {r_1 : Int32} {v3_44 : Int32} {v1_44 : Int64} {rec_44 : Int32 → Int64 → Prop} {r_45 : Int32} {x_51 : Int64} {Q : Int32 → Prop} {n : Nat} : wpL_Md_foretold_w_54_52 L f q0 r_1 v3_44 v1_44 rec_44 r_45 x_51 Q n = wpB_Md_foretold_w_54_52 L f q0 r_1 v3_44 v1_44 rec_44 r_45 x_51 Q (wpR_Md_foretold_w_54_52 L f q0 r_1 v3_44 v1_44 rec_44 r_45 x_51 Q n) := by cases n <;> rfl
theorem wpR_Md_foretold_w_54_52_pos {L : List Nat} {f : TF} {q0 : Nat} {r_1 : Int32} {v3_44 : Int32} {v1_44 : Int64} {rec_44 : Int32 → Int64 → Prop} {r_45 : Int32} {x_51 : Int64} {Q : Int32 → Prop} {n : Nat} (h : 0 < n) : wpR_Md_foretold_w_54_52 L f q0 r_1 v3_44 v1_44 rec_44 r_45 x_51 Q n = wpL_Md_foretold_w_54_52 L f q0 r_1 v3_44 v1_44 rec_44 r_45 x_51 Q (n - 1) := by
  cases n with
  | zero => omega
  | succ n => rfl
def wpB_Md_foretold_w_23_44 (L : List Nat) (f : TF) (q0 : Nat) (r_1 : Int32) (Q : Int32 → Prop) (rec_44 : Int32 → Int64 → Prop) (v3_44 : Int32) (v1_44 : Int64) : Prop := wp_Md_today_w L f q0 (fun (r_45 : Int32) => (((r_45 < v3_44 → ∀ x_51 : Int64, tl f q0 56 = x_51 → wpL_Md_foretold_w_54_52 L f q0 r_1 v3_44 v1_44 rec_44 r_45 x_51 Q (((41 : Int32).toInt - (1 : Int32).toInt).toNat) (1 : Int32) x_51) ∧ (¬ (r_45 < v3_44) → ∀ q_73 : Nat, tr f q0 59 = some q_73 → ∀ x_74 : Int64, tl f q_73 (v3_44 : Int32).toNatClampNeg = x_74 → ∀ y_75 : Int64, y_75 = (v1_44 : Int64) + (x_74 : Int64) → rec_44 (v3_44 + 1) y_75))))
def wpL_Md_foretold_w_23_44 (L : List Nat) (f : TF) (q0 : Nat) (r_1 : Int32) (Q : Int32 → Prop) : Nat → Int32 → Int64 → Prop
  | 0 => fun v3_44 v1_44 => wpB_Md_foretold_w_23_44 L f q0 r_1 Q (fun _ _ => True) v3_44 v1_44
  | n + 1 => fun v3_44 v1_44 => wpB_Md_foretold_w_23_44 L f q0 r_1 Q (wpL_Md_foretold_w_23_44 L f q0 r_1 Q n) v3_44 v1_44
def wpR_Md_foretold_w_23_44 (L : List Nat) (f : TF) (q0 : Nat) (r_1 : Int32) (Q : Int32 → Prop) : Nat → Int32 → Int64 → Prop
  | 0 => fun _ _ => True
  | n + 1 => wpL_Md_foretold_w_23_44 L f q0 r_1 Q n
theorem wpL_Md_foretold_w_23_44_eq {L : List Nat} {f : TF} {q0 : Nat} {r_1 : Int32} {Q : Int32 → Prop} {n : Nat} : wpL_Md_foretold_w_23_44 L f q0 r_1 Q n = wpB_Md_foretold_w_23_44 L f q0 r_1 Q (wpR_Md_foretold_w_23_44 L f q0 r_1 Q n) := by cases n <;> rfl
theorem wpR_Md_foretold_w_23_44_pos {L : List Nat} {f : TF} {q0 : Nat} {r_1 : Int32} {Q : Int32 → Prop} {n : Nat} (h : 0 < n) : wpR_Md_foretold_w_23_44 L f q0 r_1 Q n = wpL_Md_foretold_w_23_44 L f q0 r_1 Q (n - 1) := by
  cases n with
  | zero => omega
  | succ n => rfl
def wp_Md_foretold_w (L : List Nat) (f : TF) (q0 : Nat) (Q : Int32 → Prop) : Prop := wp_Md_today_w L f q0 (fun (r_1 : Int32) => (((100 ≤ r_1 → wp_Md_today_w L f q0 (fun (r_7 : Int32) => (wpL_Md_foretold_w_23_12 L f q0 r_1 r_7 Q (((500 : Int32).toInt - ((r_7 - 100) : Int32).toInt).toNat) (r_7 - 100) 0))) ∧ (¬ (100 ≤ r_1) → wpL_Md_foretold_w_23_44 L f q0 r_1 Q (((500 : Int32).toInt - (0 : Int32).toInt).toNat) (0 : Int32) 0))))
set_option maxHeartbeats 4000000 in
set_option maxRecDepth 100000 in
theorem c_Md_foretold_w (l : Launch) (dC : Nat → ClassId) (dI : Nat → Nat → Nat) (ct : Nat → ClassId) (L : List Nat) (f : TF) (hO_0 : Ok L f) (q0 : Nat) (m0 : q0 ∈ L ∧ tk f q0 = 27)    (Q : Int32 → Prop) (hQ : wp_Md_foretold_w L f q0 Q) : Met l y_Md_foretold (.code y_Md_foretold b_Md_foretold 8 (some .int) :: TB) ({ frames := 1, cells := 0, slots := 0, locals := 20 }) (va_Pc [.ref q0] (PR dC dI (TW ct L f) (TT ct))) (vp_Si (fun r => (True) ∧ Q r)) 0 0 (fun _ => False) := by
  refine Met.ofW (cc := b_Md_foretold) (maxL := 8) (ret := (some .int)) (by decide) rfl ?_
  intro p e s m args below meth c s₁ B hml hv
  obtain ⟨rfl, hP, hK, hN⟩ := hv
  have hx := B.exec
  have hb := B.bytes
  have hr := B.returns
  have hts := atoms_spec (ws := (.code y_Md_foretold b_Md_foretold 8 (some .int) :: TB)) B.pre
  have htb := fun w (h : w ∈ TB) => hts w (List.mem_cons_of_mem _ h)
  have hown : s.vm.findClass R_Md = some m.cls := findClass_of_methodNamed B.named
  have hlocks := B.notSynchronized
  have hl := lv_entry ([.ref q0]) (n := 8) (Nat.le_of_ble_eq_true rfl)
  rw [lg_entry_eq]
  generalize (lg_sl ([.ref q0]) ++ List.replicate (8 - (lg_sl ([.ref q0])).length) Slot.unset).toArray = ls at hl ⊢
  have hl : lv_has ls 8 [(0, .ref q0)] := hl
  unfold wp_Md_foretold_w at hQ
  refine lv_lconst (v := 0) hx hb d_Md_foretold_0 (by decide +kernel) ?_
  refine lv_lstore_n (lv' := [(1, .long 0), (0, .ref q0)]) hx hb d_Md_foretold_1 rfl hl (by decide) rfl (fun ls hl => ?_)
  refine lv_aload_n hx hb d_Md_foretold_2 rfl (lv_at hl 1 rfl) ?_
  refine vp_callSi (va_Run.run (va_runV (As := []) (rest := []) ⟨hx, hb, hml, hown, htb⟩ (c_Md_today_w l dC dI ct L f hO_0 q0 m0 _ hQ) (cwV 0 htb (gd_V tw_124 tw_125 tw_126 tw_49 tw_123) rfl rfl rfl (by decide +kernel) ⟨Nat.le_of_ble_eq_true rfl, Nat.le_of_ble_eq_true rfl⟩) ⟨pr_blind, tw_recv hK hP m0 rfl rfl, pr_pre hP hK hN⟩ rfl rfl hl.1 rfl (lv_room (Nat.le_of_ble_eq_true rfl)) d_Md_foretold_3 ⟨Nat.le_of_ble_eq_true rfl, Nat.le_of_ble_eq_true rfl⟩)) (fun r_1 er_1 => ?_)
  obtain ⟨er_1, hQ⟩ := er_1
  obtain ⟨po_2, po_3, po_4, po_5, -⟩ := er_1
  refine lv_bipush (v := 100) hx hb d_Md_foretold_6 (by decide +kernel) ?_
  refine lv_icmp_ge (tgt := 15) hx hb d_Md_foretold_8 (by decide) (fun c_6 => ?_) (fun c_6 => ?_)
  · have hQ := hQ.1 c_6
    refine lv_aload_n hx hb d_Md_foretold_15 rfl (lv_at hl 1 rfl) ?_
    refine vp_callSi (va_Run.run (va_runV (As := []) (rest := []) ⟨hx, hb, hml, hown, htb⟩ (c_Md_today_w l dC dI ct L f hO_0 q0 m0 _ hQ) (cwV 0 htb (gd_V tw_124 tw_125 tw_126 tw_49 tw_123) rfl rfl rfl (by decide +kernel) ⟨Nat.le_of_ble_eq_true rfl, Nat.le_of_ble_eq_true rfl⟩) ⟨pr_blind, tw_recv hK hP m0 rfl rfl, pr_pre hP hK hN⟩ rfl rfl hl.1 rfl (lv_room (Nat.le_of_ble_eq_true rfl)) d_Md_foretold_16 ⟨Nat.le_of_ble_eq_true rfl, Nat.le_of_ble_eq_true rfl⟩)) (fun r_7 er_7 => ?_)
    obtain ⟨er_7, hQ⟩ := er_7
    obtain ⟨po_8, po_9, po_10, po_11, -⟩ := er_7
    refine lv_bipush (v := 100) hx hb d_Md_foretold_19 (by decide +kernel) ?_
    refine lv_isub hx hb d_Md_foretold_21 ?_
    refine lv_istore_n (lv' := [(3, .int (r_7 - 100)), (1, .long 0), (0, .ref q0)]) hx hb d_Md_foretold_22 rfl hl (by decide) rfl (fun ls hl => ?_)
    have cut_12 : ∀ (n_12 : Nat) (v3_12 : Int32) (v1_12 : Int64) (ls : Array Slot), ¬ (v3_12 < 0) → ¬ (500 < v3_12) → (500 : Int32).toInt - (v3_12 : Int32).toInt ≤ (n_12 : Int) → wpL_Md_foretold_w_23_12 L f q0 r_1 r_7 Q n_12 v3_12 v1_12 → lv_has ls 8 [(0, .ref q0), (1, .long v1_12), (3, .int v3_12)] → W p l e (headSpec (.code y_Md_foretold b_Md_foretold 8 (some .int) :: TB) ({ frames := 1, cells := 0, slots := 0, locals := 20 })).room s m [.ref q0].toArray below meth c s.heap [] 0 0 (MQ below (vp_Si (fun r => (True) ∧ Q r)) [.ref q0].toArray s 0 0 (fun _ => False)) (F0 m 23 ls []) := by
      intro n_12
      induction n_12 using Nat.strongRecOn with
      | _ n_12 ih_12 =>
        intro v3_12 v1_12 ls iv0_12 iv1_12 hm_12 hQ hl
        rw [wpL_Md_foretold_w_23_12_eq] at hQ
        obtain ⟨rec_12, hrec_12⟩ : ∃ g, wpR_Md_foretold_w_23_12 L f q0 r_1 r_7 Q n_12 = g := ⟨_, rfl⟩
        rw [hrec_12] at hQ
        unfold wpB_Md_foretold_w_23_12 at hQ
        refine lv_iload_n hx hb d_Md_foretold_23 rfl (lv_at hl 2 rfl) ?_
        refine lv_aload_n hx hb d_Md_foretold_24 rfl (lv_at hl 0 rfl) ?_
        refine vp_callSi (va_Run.run (va_runV (As := []) (rest := [.int v3_12]) ⟨hx, hb, hml, hown, htb⟩ (c_Md_today_w l dC dI ct L f hO_0 q0 m0 _ hQ) (cwV 0 htb (gd_V tw_124 tw_125 tw_126 tw_49 tw_123) rfl rfl rfl (by decide +kernel) ⟨Nat.le_of_ble_eq_true rfl, Nat.le_of_ble_eq_true rfl⟩) ⟨pr_blind, tw_recv hK hP m0 rfl rfl, pr_pre hP hK hN⟩ rfl rfl hl.1 rfl (lv_room (Nat.le_of_ble_eq_true rfl)) d_Md_foretold_25 ⟨Nat.le_of_ble_eq_true rfl, Nat.le_of_ble_eq_true rfl⟩)) (fun r_13 er_13 => ?_)
        obtain ⟨er_13, hQ⟩ := er_13
        obtain ⟨po_14, po_15, po_16, po_17, -⟩ := er_13
        refine lv_icmp_gt (tgt := 46) hx hb d_Md_foretold_28 (by decide) (fun c_18 => ?_) (fun c_18 => ?_)
        · have hQ := hQ.1 c_18
          refine lv_aload_n hx hb d_Md_foretold_46 rfl (lv_at hl 0 rfl) ?_
          refine tw_getl (D := (dC, dI)) (C := R_Md) (T := F_Md) (N := 64) (ci := 7) (kd := 27) (ct := ct) hx hb htb i_Md hown hK hP m0 rfl rfl 56 (by decide) (htb (.fieldLink R_Md 316 "WaterMenModel" "box" "J") tw_204) (fun _ h9 => h9) rfl d_Md_foretold_47 (fun x_19 e_19 => ?_)
          have hQ := hQ x_19 e_19
          refine lv_lstore_n (lv' := [(3, .long x_19), (0, .ref q0), (1, .long v1_12)]) hx hb d_Md_foretold_50 rfl hl (by decide) rfl (fun ls hl => ?_)
          refine lv_iconst (v := 1) hx hb d_Md_foretold_51 (by decide +kernel) ?_
          refine lv_istore (lv' := [(5, .int 1), (3, .long x_19), (0, .ref q0), (1, .long v1_12)]) hx hb d_Md_foretold_52 hl (by decide) rfl (fun ls hl => ?_)
          have cut_20 : ∀ (n_20 : Nat) (v5_20 : Int32) (v3_20 : Int64) (ls : Array Slot), ¬ (v5_20 < 1) → ¬ (41 < v5_20) → (41 : Int32).toInt - (v5_20 : Int32).toInt ≤ (n_20 : Int) → wpL_Md_foretold_w_54_20 L f q0 r_1 r_7 v3_12 v1_12 rec_12 r_13 x_19 Q n_20 v5_20 v3_20 → lv_has ls 8 [(0, .ref q0), (1, .long v1_12), (3, .long v3_20), (5, .int v5_20)] → W p l e (headSpec (.code y_Md_foretold b_Md_foretold 8 (some .int) :: TB) ({ frames := 1, cells := 0, slots := 0, locals := 20 })).room s m [.ref q0].toArray below meth c s.heap [] 0 0 (MQ below (vp_Si (fun r => (True) ∧ Q r)) [.ref q0].toArray s 0 0 (fun _ => False)) (F0 m 54 ls []) := by
            intro n_20
            induction n_20 using Nat.strongRecOn with
            | _ n_20 ih_20 =>
              intro v5_20 v3_20 ls iv0_20 iv1_20 hm_20 hQ hl
              rw [wpL_Md_foretold_w_54_20_eq] at hQ
              obtain ⟨rec_20, hrec_20⟩ : ∃ g, wpR_Md_foretold_w_54_20 L f q0 r_1 r_7 v3_12 v1_12 rec_12 r_13 x_19 Q n_20 = g := ⟨_, rfl⟩
              rw [hrec_20] at hQ
              unfold wpB_Md_foretold_w_54_20 at hQ
              refine lv_iload hx hb d_Md_foretold_54 (lv_at hl 3 rfl) ?_
              refine lv_bipush (v := 40) hx hb d_Md_foretold_56 (by decide +kernel) ?_
              refine lv_icmp_gt (tgt := 146) hx hb d_Md_foretold_58 (by decide) (fun c_21 => ?_) (fun c_21 => ?_)
              · have hQ := hQ.1 c_21
                refine lv_bipush (v := (-2)) hx hb d_Md_foretold_146 (by decide +kernel) ?_
                exact W.iret (v := (-2)) hx hb hr (fun t ht hW => ⟨(-2), rfl, ⟨trivial, hQ⟩, ht⟩) t_nil d_Md_foretold_148
              · have hQ := hQ.2 c_21
                refine lv_aload_n hx hb d_Md_foretold_61 rfl (lv_at hl 0 rfl) ?_
                refine vp_callSi (va_Run.run (va_runV (As := []) (rest := []) ⟨hx, hb, hml, hown, htb⟩ (c_Md_today_w l dC dI ct L f hO_0 q0 m0 _ hQ) (cwV 0 htb (gd_V tw_124 tw_125 tw_126 tw_49 tw_123) rfl rfl rfl (by decide +kernel) ⟨Nat.le_of_ble_eq_true rfl, Nat.le_of_ble_eq_true rfl⟩) ⟨pr_blind, tw_recv hK hP m0 rfl rfl, pr_pre hP hK hN⟩ rfl rfl hl.1 rfl (lv_room (Nat.le_of_ble_eq_true rfl)) d_Md_foretold_62 ⟨Nat.le_of_ble_eq_true rfl, Nat.le_of_ble_eq_true rfl⟩)) (fun r_22 er_22 => ?_)
                obtain ⟨er_22, hQ⟩ := er_22
                obtain ⟨po_23, po_24, po_25, po_26, -⟩ := er_22
                refine lv_bipush (v := 100) hx hb d_Md_foretold_65 (by decide +kernel) ?_
                refine lv_idiv hx hb d_Md_foretold_67 (by decide) ?_
                refine hb_divn (U := 499) (Qm := 4) (c := 100) (C1 := 99) (K := 2147483547) (by decide +kernel) (by decide +kernel) (by decide +kernel) po_23 (show ¬ (2147483547 < r_22) from by have e0 := po_23; rw [Int32.lt_iff_toInt_lt] at e0; have e1 := po_24; rw [Int32.lt_iff_toInt_lt] at e1; have z0 : (0 : Int32).toInt = 0 := (by decide +kernel); have z1 : (499 : Int32).toInt = 499 := (by decide +kernel); have z2 : (2147483547 : Int32).toInt = 2147483547 := (by decide +kernel); rw [Int32.lt_iff_toInt_lt]; omega) po_24 (by decide +kernel) (fun y_27 g1_27 g2_27 g3_27 g4_27 g5_27 g9_27 => ?_)
                have hQ := hQ y_27 g9_27
                refine lv_iload hx hb d_Md_foretold_68 (lv_at hl 3 rfl) ?_
                refine lv_iadd hx hb d_Md_foretold_70 ?_
                refine lv_bipush (v := 100) hx hb d_Md_foretold_71 (by decide +kernel) ?_
                refine lv_imul hx hb d_Md_foretold_73 ?_
                refine lv_istore (lv' := [(6, .int ((y_27 + v5_20) * 100)), (0, .ref q0), (1, .long v1_12), (3, .long v3_20), (5, .int v5_20)]) hx hb d_Md_foretold_74 hl (by decide) rfl (fun ls hl => ?_)
                refine lv_lload_n hx hb d_Md_foretold_76 rfl (lv_at hl 3 rfl) ?_
                refine lv_lload_n hx hb d_Md_foretold_77 rfl (lv_at hl 2 rfl) ?_
                refine lv_ladd hx hb d_Md_foretold_78 ?_
                refine hb_eql (fun y_28 hy_28 => ?_)
                have hQ := hQ y_28 hy_28
                refine lv_lstore_n (lv' := [(3, .long y_28), (6, .int ((y_27 + v5_20) * 100)), (0, .ref q0), (1, .long v1_12), (5, .int v5_20)]) hx hb d_Md_foretold_79 rfl hl (by decide) rfl (fun ls hl => ?_)
                refine lv_iconst (v := 0) hx hb d_Md_foretold_80 (by decide +kernel) ?_
                refine lv_istore (lv' := [(7, .int 0), (3, .long y_28), (6, .int ((y_27 + v5_20) * 100)), (0, .ref q0), (1, .long v1_12), (5, .int v5_20)]) hx hb d_Md_foretold_81 hl (by decide) rfl (fun ls hl => ?_)
                have cut_29 : ∀ (n_29 : Nat) (v7_29 : Int32) (v3_29 : Int64) (ls : Array Slot), ¬ (v7_29 < 0) → ¬ (30 < v7_29) → (30 : Int32).toInt - (v7_29 : Int32).toInt ≤ (n_29 : Int) → wpL_Md_foretold_w_83_29 L f q0 r_1 r_7 v3_12 v1_12 rec_12 r_13 x_19 v5_20 v3_20 rec_20 r_22 y_27 y_28 Q n_29 v7_29 v3_29 → lv_has ls 8 [(0, .ref q0), (1, .long v1_12), (3, .long v3_29), (5, .int v5_20), (6, .int ((y_27 + v5_20) * 100)), (7, .int v7_29)] → W p l e (headSpec (.code y_Md_foretold b_Md_foretold 8 (some .int) :: TB) ({ frames := 1, cells := 0, slots := 0, locals := 20 })).room s m [.ref q0].toArray below meth c s.heap [] 0 0 (MQ below (vp_Si (fun r => (True) ∧ Q r)) [.ref q0].toArray s 0 0 (fun _ => False)) (F0 m 83 ls []) := by
                  intro n_29
                  induction n_29 using Nat.strongRecOn with
                  | _ n_29 ih_29 =>
                    intro v7_29 v3_29 ls iv0_29 iv1_29 hm_29 hQ hl
                    rw [wpL_Md_foretold_w_83_29_eq] at hQ
                    obtain ⟨rec_29, hrec_29⟩ : ∃ g, wpR_Md_foretold_w_83_29 L f q0 r_1 r_7 v3_12 v1_12 rec_12 r_13 x_19 v5_20 v3_20 rec_20 r_22 y_27 y_28 Q n_29 = g := ⟨_, rfl⟩
                    rw [hrec_29] at hQ
                    unfold wpB_Md_foretold_w_83_29 at hQ
                    refine lv_iload hx hb d_Md_foretold_83 (lv_at hl 5 rfl) ?_
                    refine lv_aload_n hx hb d_Md_foretold_85 rfl (lv_at hl 0 rfl) ?_
                    refine tw_geti (D := (dC, dI)) (C := R_Md) (T := F_Md) (N := 64) (ci := 7) (kd := 27) (ct := ct) hx hb htb i_Md hown hK hP hO_0 m0 rfl rfl 60 (by decide) (htb (.fieldLink R_Md 323 "WaterMenModel" "pensioners" "I") tw_202) (fun _ h9 => h9) rfl d_Md_foretold_86 (fun x_30 e_30 b_30 => ?_)
                    have hQ := hQ x_30 e_30
                    refine lv_icmp_ge (tgt := 140) hx hb d_Md_foretold_89 (by decide) (fun c_31 => ?_) (fun c_31 => ?_)
                    · have hQ := hQ.1 c_31
                      refine lv_iinc (v := (v5_20 + 1)) (lv' := [(5, .int (v5_20 + 1)), (0, .ref q0), (1, .long v1_12), (3, .long v3_29), (6, .int ((y_27 + v5_20) * 100)), (7, .int v7_29)]) hx hb d_Md_foretold_140 hl (k := 3) rfl rfl (by decide) rfl (fun ls hl => ?_)
                      refine lv_goto (tgt := 54) hx hb d_Md_foretold_143 (by decide) ?_
                      exact ih_20 (n_20 - 1) (ms_1 ((fun (a_0 : Int32) (k_0 : ¬ (40 < a_0)) => (show 1 ≤ (41 : Int32).toInt - (a_0).toInt ∧ (41 : Int32).toInt - ((a_0) + (1 : Int32)).toInt + 1 ≤ (41 : Int32).toInt - (a_0).toInt from by have z0 : (1 : Int32).toInt = 1 := (by decide +kernel); have z1 : (40 : Int32).toInt = 40 := (by decide +kernel); have z2 : (41 : Int32).toInt = 41 := (by decide +kernel); have r0 := fb_rng (a_0); have e0 := k_0; rw [Int32.lt_iff_toInt_lt, z1] at e0; obtain ⟨n_0, hn_0, s0⟩ := nd_add (x := (a_0)) (y := (1 : Int32)) (by (try rw [z0]); omega) (by (try rw [z0]); omega); rw [z0] at s0; rw [hn_0]; (try rw [z2]); omega)) v5_20 c_21) hm_20) (v5_20 + 1) v3_29 _ (show ¬ ((v5_20 + 1) < 1) from by have e0 := iv0_20; rw [Int32.lt_iff_toInt_lt] at e0; have e1 := c_21; rw [Int32.lt_iff_toInt_lt] at e1; have z0 : (1 : Int32).toInt = 1 := (by decide +kernel); have z1 : (40 : Int32).toInt = 40 := (by decide +kernel); have ss := fb_addI (x := v5_20) (y := 1) (by omega) (by omega); rw [Int32.lt_iff_toInt_lt]; omega) (show ¬ (41 < (v5_20 + 1)) from by have e0 := iv0_20; rw [Int32.lt_iff_toInt_lt] at e0; have e1 := c_21; rw [Int32.lt_iff_toInt_lt] at e1; have z0 : (1 : Int32).toInt = 1 := (by decide +kernel); have z1 : (40 : Int32).toInt = 40 := (by decide +kernel); have z2 : (41 : Int32).toInt = 41 := (by decide +kernel); have ss := fb_addI (x := v5_20) (y := 1) (by omega) (by omega); rw [Int32.lt_iff_toInt_lt]; omega) (by exact ms_2 ((fun (a_0 : Int32) (k_0 : ¬ (40 < a_0)) => (show 1 ≤ (41 : Int32).toInt - (a_0).toInt ∧ (41 : Int32).toInt - ((a_0) + (1 : Int32)).toInt + 1 ≤ (41 : Int32).toInt - (a_0).toInt from by have z0 : (1 : Int32).toInt = 1 := (by decide +kernel); have z1 : (40 : Int32).toInt = 40 := (by decide +kernel); have z2 : (41 : Int32).toInt = 41 := (by decide +kernel); have r0 := fb_rng (a_0); have e0 := k_0; rw [Int32.lt_iff_toInt_lt, z1] at e0; obtain ⟨n_0, hn_0, s0⟩ := nd_add (x := (a_0)) (y := (1 : Int32)) (by (try rw [z0]); omega) (by (try rw [z0]); omega); rw [z0] at s0; rw [hn_0]; (try rw [z2]); omega)) v5_20 c_21) hm_20) (by rw [← hrec_20, wpR_Md_foretold_w_54_20_pos (ms_3 ((fun (a_0 : Int32) (k_0 : ¬ (40 < a_0)) => (show 1 ≤ (41 : Int32).toInt - (a_0).toInt ∧ (41 : Int32).toInt - ((a_0) + (1 : Int32)).toInt + 1 ≤ (41 : Int32).toInt - (a_0).toInt from by have z0 : (1 : Int32).toInt = 1 := (by decide +kernel); have z1 : (40 : Int32).toInt = 40 := (by decide +kernel); have z2 : (41 : Int32).toInt = 41 := (by decide +kernel); have r0 := fb_rng (a_0); have e0 := k_0; rw [Int32.lt_iff_toInt_lt, z1] at e0; obtain ⟨n_0, hn_0, s0⟩ := nd_add (x := (a_0)) (y := (1 : Int32)) (by (try rw [z0]); omega) (by (try rw [z0]); omega); rw [z0] at s0; rw [hn_0]; (try rw [z2]); omega)) v5_20 c_21) hm_20)] at hQ; exact hQ) (lv_sub hl [1, 2, 3, 0] rfl)
                    · have hQ := hQ.2 c_31
                      refine lv_iload hx hb d_Md_foretold_92 (lv_at hl 4 rfl) ?_
                      refine lv_aload_n hx hb d_Md_foretold_94 rfl (lv_at hl 0 rfl) ?_
                      refine tw_getr (D := (dC, dI)) (C := R_Md) (T := F_Md) (N := 64) (ci := 7) (kd := 27) (ct := ct) hx hb htb i_Md hown hK hP hO_0 m0 rfl rfl 62 (by decide) (htb (.fieldLink R_Md 180 "WaterMenModel" "pensionEnd" "[I") tw_203) (fun _ h9 => h9) rfl d_Md_foretold_95 (fun q_32 e_32 m_32 => ?_)
                      have hQ := hQ q_32 e_32
                      refine lv_iload hx hb d_Md_foretold_98 (lv_at hl 5 rfl) ?_
                      refine tw_aldI (ct := ct) hx hb hK hP hO_0 m_32 rfl ((fun (a_0 : Int32) (a_1 : Int32) (k_0 : ¬ (a_0 < 0)) (k_1 : ¬ (a_1 ≤ a_0)) (k_2 : ¬ (30 < a_1)) => (show vp_in (a_0) 30 from by have z0 : (0 : Int32).toInt = 0 := (by decide +kernel); have z1 : (30 : Int32).toInt = 30 := (by decide +kernel); have r0 := fb_rng (a_0); have r1 := fb_rng (a_1); have e0 := k_0; rw [Int32.lt_iff_toInt_lt, z0] at e0; have e1 := k_1; rw [Int32.le_iff_toInt_le] at e1; have e2 := k_2; rw [Int32.lt_iff_toInt_lt, z1] at e2; rw [vp_in_iff]; omega)) v7_29 x_30 iv0_29 c_31 b_30.2) d_Md_foretold_100 (fun x_33 e_33 b_33 => ?_)
                      have hQ := hQ x_33 e_33
                      refine lv_icmp_lt (tgt := 107) hx hb d_Md_foretold_101 (by decide) (fun c_34 => ?_) (fun c_34 => ?_)
                      · have hQ := hQ.1 c_34
                        refine lv_lload_n hx hb d_Md_foretold_107 rfl (lv_at hl 2 rfl) ?_
                        refine lv_aload_n hx hb d_Md_foretold_108 rfl (lv_at hl 0 rfl) ?_
                        refine tw_getr (D := (dC, dI)) (C := R_Md) (T := F_Md) (N := 64) (ci := 7) (kd := 27) (ct := ct) hx hb htb i_Md hown hK hP hO_0 m0 rfl rfl 61 (by decide) (htb (.fieldLink R_Md 177 "WaterMenModel" "pensionOf" "[I") tw_205) (fun _ h9 => h9) rfl d_Md_foretold_109 (fun q_35 e_35 m_35 => ?_)
                        have hQ := hQ q_35 e_35
                        refine lv_iload hx hb d_Md_foretold_112 (lv_at hl 5 rfl) ?_
                        refine tw_aldI (ct := ct) hx hb hK hP hO_0 m_35 rfl ((fun (a_0 : Int32) (a_1 : Int32) (k_0 : ¬ (a_0 < 0)) (k_1 : ¬ (a_1 ≤ a_0)) (k_2 : ¬ (30 < a_1)) => (show vp_in (a_0) 30 from by have z0 : (0 : Int32).toInt = 0 := (by decide +kernel); have z1 : (30 : Int32).toInt = 30 := (by decide +kernel); have r0 := fb_rng (a_0); have r1 := fb_rng (a_1); have e0 := k_0; rw [Int32.lt_iff_toInt_lt, z0] at e0; have e1 := k_1; rw [Int32.le_iff_toInt_le] at e1; have e2 := k_2; rw [Int32.lt_iff_toInt_lt, z1] at e2; rw [vp_in_iff]; omega)) v7_29 x_30 iv0_29 c_31 b_30.2) d_Md_foretold_114 (fun x_36 e_36 b_36 => ?_)
                        have hQ := hQ x_36 e_36
                        refine lv_i2l hx hb d_Md_foretold_115 rfl ?_
                        refine W.lcmp hx hb d_Md_foretold_116 ?_
                        refine hb_eqi (fun y_37 hy_37 => ?_)
                        have hQ := hQ y_37 hy_37
                        refine lv_if_ge (tgt := 123) hx hb d_Md_foretold_117 (by decide) (fun c_38 => ?_) (fun c_38 => ?_)
                        · have hQ := hQ.1 c_38
                          refine lv_lload_n hx hb d_Md_foretold_123 rfl (lv_at hl 2 rfl) ?_
                          refine lv_aload_n hx hb d_Md_foretold_124 rfl (lv_at hl 0 rfl) ?_
                          refine tw_getR (D := (dC, dI)) (C := R_Md) (T := F_Md) (N := 64) (ci := 7) (kd := 27) (ct := ct) hx hb htb i_Md hown hK hP m0 rfl rfl 61 e_35 (by decide) (htb (.fieldLink R_Md 177 "WaterMenModel" "pensionOf" "[I") tw_205) (fun _ h9 => h9) rfl d_Md_foretold_125 ?_
                          refine hb_tv (.ref q_35) rfl ?_
                          refine lv_iload hx hb d_Md_foretold_128 (lv_at hl 5 rfl) ?_
                          refine tw_aldxI (ct := ct) (x := x_36) hx hb hK hP m_35 rfl ((fun (a_0 : Int32) (a_1 : Int32) (k_0 : ¬ (a_0 < 0)) (k_1 : ¬ (a_1 ≤ a_0)) (k_2 : ¬ (30 < a_1)) => (show vp_in (a_0) 30 from by have z0 : (0 : Int32).toInt = 0 := (by decide +kernel); have z1 : (30 : Int32).toInt = 30 := (by decide +kernel); have r0 := fb_rng (a_0); have r1 := fb_rng (a_1); have e0 := k_0; rw [Int32.lt_iff_toInt_lt, z0] at e0; have e1 := k_1; rw [Int32.le_iff_toInt_le] at e1; have e2 := k_2; rw [Int32.lt_iff_toInt_lt, z1] at e2; rw [vp_in_iff]; omega)) v7_29 x_30 iv0_29 c_31 b_30.2) e_36 d_Md_foretold_130 ?_
                          refine lv_i2l hx hb d_Md_foretold_131 rfl ?_
                          refine lv_lsub hx hb d_Md_foretold_132 ?_
                          refine hb_eql (fun y_40 hy_40 => ?_)
                          have hQ := hQ y_40 hy_40
                          refine lv_lstore_n (lv' := [(3, .long y_40), (0, .ref q0), (1, .long v1_12), (5, .int v5_20), (6, .int ((y_27 + v5_20) * 100)), (7, .int v7_29)]) hx hb d_Md_foretold_133 rfl hl (by decide) rfl (fun ls hl => ?_)
                          refine lv_iinc (v := (v7_29 + 1)) (lv' := [(7, .int (v7_29 + 1)), (3, .long y_40), (0, .ref q0), (1, .long v1_12), (5, .int v5_20), (6, .int ((y_27 + v5_20) * 100))]) hx hb d_Md_foretold_134 hl (k := 5) rfl rfl (by decide) rfl (fun ls hl => ?_)
                          refine lv_goto (tgt := 83) hx hb d_Md_foretold_137 (by decide) ?_
                          exact ih_29 (n_29 - 1) (ms_1 ((fun (a_0 : Int32) (a_1 : Int32) (k_0 : ¬ (a_1 ≤ a_0)) (k_1 : ¬ (30 < a_1)) => (show 1 ≤ (30 : Int32).toInt - (a_0).toInt ∧ (30 : Int32).toInt - ((a_0) + (1 : Int32)).toInt + 1 ≤ (30 : Int32).toInt - (a_0).toInt from by have z0 : (1 : Int32).toInt = 1 := (by decide +kernel); have z1 : (30 : Int32).toInt = 30 := (by decide +kernel); have r0 := fb_rng (a_0); have r1 := fb_rng (a_1); have e0 := k_0; rw [Int32.le_iff_toInt_le] at e0; have e1 := k_1; rw [Int32.lt_iff_toInt_lt, z1] at e1; obtain ⟨n_0, hn_0, s0⟩ := nd_add (x := (a_0)) (y := (1 : Int32)) (by (try rw [z0]); omega) (by (try rw [z0]); omega); rw [z0] at s0; rw [hn_0]; (try rw [z1]); omega)) v7_29 x_30 c_31 b_30.2) hm_29) (v7_29 + 1) y_40 _ (show ¬ ((v7_29 + 1) < 0) from by have e0 := iv0_29; rw [Int32.lt_iff_toInt_lt] at e0; have e1 := iv1_29; rw [Int32.lt_iff_toInt_lt] at e1; have z0 : (0 : Int32).toInt = 0 := (by decide +kernel); have z1 : (1 : Int32).toInt = 1 := (by decide +kernel); have z2 : (30 : Int32).toInt = 30 := (by decide +kernel); have ss := fb_addI (x := v7_29) (y := 1) (by omega) (by omega); rw [Int32.lt_iff_toInt_lt]; omega) (show ¬ (30 < (v7_29 + 1)) from ((fun (a_0 : Int32) (a_1 : Int32) (k_0 : ¬ (a_1 ≤ a_0)) (k_1 : ¬ (30 < a_1)) => (show ¬ (30 < (a_0 + 1)) from by have z0 : (1 : Int32).toInt = 1 := (by decide +kernel); have z1 : (30 : Int32).toInt = 30 := (by decide +kernel); have r0 := fb_rng (a_0); have r1 := fb_rng (a_1); have e0 := k_0; rw [Int32.le_iff_toInt_le] at e0; have e1 := k_1; rw [Int32.lt_iff_toInt_lt, z1] at e1; obtain ⟨n_0, hn_0, s0⟩ := nd_add (x := (a_0)) (y := (1 : Int32)) (by (try rw [z0]); omega) (by (try rw [z0]); omega); rw [z0] at s0; rw [hn_0, Int32.lt_iff_toInt_lt, z1]; omega)) v7_29 x_30 c_31 b_30.2)) (by exact ms_2 ((fun (a_0 : Int32) (a_1 : Int32) (k_0 : ¬ (a_1 ≤ a_0)) (k_1 : ¬ (30 < a_1)) => (show 1 ≤ (30 : Int32).toInt - (a_0).toInt ∧ (30 : Int32).toInt - ((a_0) + (1 : Int32)).toInt + 1 ≤ (30 : Int32).toInt - (a_0).toInt from by have z0 : (1 : Int32).toInt = 1 := (by decide +kernel); have z1 : (30 : Int32).toInt = 30 := (by decide +kernel); have r0 := fb_rng (a_0); have r1 := fb_rng (a_1); have e0 := k_0; rw [Int32.le_iff_toInt_le] at e0; have e1 := k_1; rw [Int32.lt_iff_toInt_lt, z1] at e1; obtain ⟨n_0, hn_0, s0⟩ := nd_add (x := (a_0)) (y := (1 : Int32)) (by (try rw [z0]); omega) (by (try rw [z0]); omega); rw [z0] at s0; rw [hn_0]; (try rw [z1]); omega)) v7_29 x_30 c_31 b_30.2) hm_29) (by rw [← hrec_29, wpR_Md_foretold_w_83_29_pos (ms_3 ((fun (a_0 : Int32) (a_1 : Int32) (k_0 : ¬ (a_1 ≤ a_0)) (k_1 : ¬ (30 < a_1)) => (show 1 ≤ (30 : Int32).toInt - (a_0).toInt ∧ (30 : Int32).toInt - ((a_0) + (1 : Int32)).toInt + 1 ≤ (30 : Int32).toInt - (a_0).toInt from by have z0 : (1 : Int32).toInt = 1 := (by decide +kernel); have z1 : (30 : Int32).toInt = 30 := (by decide +kernel); have r0 := fb_rng (a_0); have r1 := fb_rng (a_1); have e0 := k_0; rw [Int32.le_iff_toInt_le] at e0; have e1 := k_1; rw [Int32.lt_iff_toInt_lt, z1] at e1; obtain ⟨n_0, hn_0, s0⟩ := nd_add (x := (a_0)) (y := (1 : Int32)) (by (try rw [z0]); omega) (by (try rw [z0]); omega); rw [z0] at s0; rw [hn_0]; (try rw [z1]); omega)) v7_29 x_30 c_31 b_30.2) hm_29)] at hQ; exact hQ) (lv_sub hl [2, 3, 1, 4, 5, 0] rfl)
                        · have hQ := hQ.2 c_38
                          refine lv_iload hx hb d_Md_foretold_120 (lv_at hl 4 rfl) ?_
                          exact W.iret (v := ((y_27 + v5_20) * 100)) hx hb hr (fun t ht hW => ⟨((y_27 + v5_20) * 100), rfl, ⟨trivial, hQ⟩, ht⟩) t_nil d_Md_foretold_122
                      · have hQ := hQ.2 c_34
                        refine lv_goto (tgt := 134) hx hb d_Md_foretold_104 (by decide) ?_
                        refine lv_iinc (v := (v7_29 + 1)) (lv' := [(7, .int (v7_29 + 1)), (0, .ref q0), (1, .long v1_12), (3, .long v3_29), (5, .int v5_20), (6, .int ((y_27 + v5_20) * 100))]) hx hb d_Md_foretold_134 hl (k := 5) rfl rfl (by decide) rfl (fun ls hl => ?_)
                        refine lv_goto (tgt := 83) hx hb d_Md_foretold_137 (by decide) ?_
                        exact ih_29 (n_29 - 1) (ms_1 ((fun (a_0 : Int32) (a_1 : Int32) (k_0 : ¬ (a_1 ≤ a_0)) (k_1 : ¬ (30 < a_1)) => (show 1 ≤ (30 : Int32).toInt - (a_0).toInt ∧ (30 : Int32).toInt - ((a_0) + (1 : Int32)).toInt + 1 ≤ (30 : Int32).toInt - (a_0).toInt from by have z0 : (1 : Int32).toInt = 1 := (by decide +kernel); have z1 : (30 : Int32).toInt = 30 := (by decide +kernel); have r0 := fb_rng (a_0); have r1 := fb_rng (a_1); have e0 := k_0; rw [Int32.le_iff_toInt_le] at e0; have e1 := k_1; rw [Int32.lt_iff_toInt_lt, z1] at e1; obtain ⟨n_0, hn_0, s0⟩ := nd_add (x := (a_0)) (y := (1 : Int32)) (by (try rw [z0]); omega) (by (try rw [z0]); omega); rw [z0] at s0; rw [hn_0]; (try rw [z1]); omega)) v7_29 x_30 c_31 b_30.2) hm_29) (v7_29 + 1) v3_29 _ (show ¬ ((v7_29 + 1) < 0) from by have e0 := iv0_29; rw [Int32.lt_iff_toInt_lt] at e0; have e1 := iv1_29; rw [Int32.lt_iff_toInt_lt] at e1; have z0 : (0 : Int32).toInt = 0 := (by decide +kernel); have z1 : (1 : Int32).toInt = 1 := (by decide +kernel); have z2 : (30 : Int32).toInt = 30 := (by decide +kernel); have ss := fb_addI (x := v7_29) (y := 1) (by omega) (by omega); rw [Int32.lt_iff_toInt_lt]; omega) (show ¬ (30 < (v7_29 + 1)) from ((fun (a_0 : Int32) (a_1 : Int32) (k_0 : ¬ (a_1 ≤ a_0)) (k_1 : ¬ (30 < a_1)) => (show ¬ (30 < (a_0 + 1)) from by have z0 : (1 : Int32).toInt = 1 := (by decide +kernel); have z1 : (30 : Int32).toInt = 30 := (by decide +kernel); have r0 := fb_rng (a_0); have r1 := fb_rng (a_1); have e0 := k_0; rw [Int32.le_iff_toInt_le] at e0; have e1 := k_1; rw [Int32.lt_iff_toInt_lt, z1] at e1; obtain ⟨n_0, hn_0, s0⟩ := nd_add (x := (a_0)) (y := (1 : Int32)) (by (try rw [z0]); omega) (by (try rw [z0]); omega); rw [z0] at s0; rw [hn_0, Int32.lt_iff_toInt_lt, z1]; omega)) v7_29 x_30 c_31 b_30.2)) (by exact ms_2 ((fun (a_0 : Int32) (a_1 : Int32) (k_0 : ¬ (a_1 ≤ a_0)) (k_1 : ¬ (30 < a_1)) => (show 1 ≤ (30 : Int32).toInt - (a_0).toInt ∧ (30 : Int32).toInt - ((a_0) + (1 : Int32)).toInt + 1 ≤ (30 : Int32).toInt - (a_0).toInt from by have z0 : (1 : Int32).toInt = 1 := (by decide +kernel); have z1 : (30 : Int32).toInt = 30 := (by decide +kernel); have r0 := fb_rng (a_0); have r1 := fb_rng (a_1); have e0 := k_0; rw [Int32.le_iff_toInt_le] at e0; have e1 := k_1; rw [Int32.lt_iff_toInt_lt, z1] at e1; obtain ⟨n_0, hn_0, s0⟩ := nd_add (x := (a_0)) (y := (1 : Int32)) (by (try rw [z0]); omega) (by (try rw [z0]); omega); rw [z0] at s0; rw [hn_0]; (try rw [z1]); omega)) v7_29 x_30 c_31 b_30.2) hm_29) (by rw [← hrec_29, wpR_Md_foretold_w_83_29_pos (ms_3 ((fun (a_0 : Int32) (a_1 : Int32) (k_0 : ¬ (a_1 ≤ a_0)) (k_1 : ¬ (30 < a_1)) => (show 1 ≤ (30 : Int32).toInt - (a_0).toInt ∧ (30 : Int32).toInt - ((a_0) + (1 : Int32)).toInt + 1 ≤ (30 : Int32).toInt - (a_0).toInt from by have z0 : (1 : Int32).toInt = 1 := (by decide +kernel); have z1 : (30 : Int32).toInt = 30 := (by decide +kernel); have r0 := fb_rng (a_0); have r1 := fb_rng (a_1); have e0 := k_0; rw [Int32.le_iff_toInt_le] at e0; have e1 := k_1; rw [Int32.lt_iff_toInt_lt, z1] at e1; obtain ⟨n_0, hn_0, s0⟩ := nd_add (x := (a_0)) (y := (1 : Int32)) (by (try rw [z0]); omega) (by (try rw [z0]); omega); rw [z0] at s0; rw [hn_0]; (try rw [z1]); omega)) v7_29 x_30 c_31 b_30.2) hm_29)] at hQ; exact hQ) (lv_sub hl [1, 2, 3, 4, 5, 0] rfl)
                exact cut_29 ((30 : Int32).toInt - (0 : Int32).toInt).toNat (0 : Int32) y_28 _ (by decide +kernel) (by decide +kernel) (by exact ms_e _ _) hQ (lv_sub hl [3, 4, 1, 5, 2, 0] rfl)
          exact cut_20 ((41 : Int32).toInt - (1 : Int32).toInt).toNat (1 : Int32) x_19 _ (by decide +kernel) (by decide +kernel) (by exact ms_e _ _) hQ (lv_sub hl [2, 3, 1, 0] rfl)
        · have hQ := hQ.2 c_18
          refine lv_lload_n hx hb d_Md_foretold_31 rfl (lv_at hl 1 rfl) ?_
          refine lv_aload_n hx hb d_Md_foretold_32 rfl (lv_at hl 0 rfl) ?_
          refine tw_getr (D := (dC, dI)) (C := R_Md) (T := F_Md) (N := 64) (ci := 7) (kd := 27) (ct := ct) hx hb htb i_Md hown hK hP hO_0 m0 rfl rfl 59 (by decide) (htb (.fieldLink R_Md 173 "WaterMenModel" "boxIn" "[J") tw_213) (fun _ h9 => h9) rfl d_Md_foretold_33 (fun q_41 e_41 m_41 => ?_)
          have hQ := hQ q_41 e_41
          refine lv_iload_n hx hb d_Md_foretold_36 rfl (lv_at hl 2 rfl) ?_
          refine tw_aldJ (ct := ct) hx hb hK hP m_41 rfl ((fun (a_0 : Int32) (a_1 : Int32) (k_0 : ¬ (a_1 < 0)) (k_1 : ¬ (a_0 < a_1)) (k_2 : ¬ (499 < a_0)) => (show vp_in (a_1) 500 from by have z0 : (0 : Int32).toInt = 0 := (by decide +kernel); have z1 : (499 : Int32).toInt = 499 := (by decide +kernel); have r0 := fb_rng (a_0); have r1 := fb_rng (a_1); have e0 := k_0; rw [Int32.lt_iff_toInt_lt, z0] at e0; have e1 := k_1; rw [Int32.lt_iff_toInt_lt] at e1; have e2 := k_2; rw [Int32.lt_iff_toInt_lt, z1] at e2; rw [vp_in_iff]; omega)) r_13 v3_12 iv0_12 c_18 po_15) d_Md_foretold_37 (fun x_42 e_42 => ?_)
          have hQ := hQ x_42 e_42
          refine lv_ladd hx hb d_Md_foretold_38 ?_
          refine hb_eql (fun y_43 hy_43 => ?_)
          have hQ := hQ y_43 hy_43
          refine lv_lstore_n (lv' := [(1, .long y_43), (0, .ref q0), (3, .int v3_12)]) hx hb d_Md_foretold_39 rfl hl (by decide) rfl (fun ls hl => ?_)
          refine lv_iinc (v := (v3_12 + 1)) (lv' := [(3, .int (v3_12 + 1)), (1, .long y_43), (0, .ref q0)]) hx hb d_Md_foretold_40 hl (k := 2) rfl rfl (by decide) rfl (fun ls hl => ?_)
          refine lv_goto (tgt := 23) hx hb d_Md_foretold_43 (by decide) ?_
          exact ih_12 (n_12 - 1) (ms_1 ((fun (a_0 : Int32) (a_1 : Int32) (k_0 : ¬ (a_0 < a_1)) (k_1 : ¬ (499 < a_0)) => (show 1 ≤ (500 : Int32).toInt - (a_1).toInt ∧ (500 : Int32).toInt - ((a_1) + (1 : Int32)).toInt + 1 ≤ (500 : Int32).toInt - (a_1).toInt from by have z0 : (1 : Int32).toInt = 1 := (by decide +kernel); have z1 : (499 : Int32).toInt = 499 := (by decide +kernel); have z2 : (500 : Int32).toInt = 500 := (by decide +kernel); have r0 := fb_rng (a_0); have r1 := fb_rng (a_1); have e0 := k_0; rw [Int32.lt_iff_toInt_lt] at e0; have e1 := k_1; rw [Int32.lt_iff_toInt_lt, z1] at e1; obtain ⟨n_0, hn_0, s0⟩ := nd_add (x := (a_1)) (y := (1 : Int32)) (by (try rw [z0]); omega) (by (try rw [z0]); omega); rw [z0] at s0; rw [hn_0]; (try rw [z2]); omega)) r_13 v3_12 c_18 po_15) hm_12) (v3_12 + 1) y_43 _ (show ¬ ((v3_12 + 1) < 0) from by have e0 := iv0_12; rw [Int32.lt_iff_toInt_lt] at e0; have e1 := iv1_12; rw [Int32.lt_iff_toInt_lt] at e1; have z0 : (0 : Int32).toInt = 0 := (by decide +kernel); have z1 : (1 : Int32).toInt = 1 := (by decide +kernel); have z2 : (500 : Int32).toInt = 500 := (by decide +kernel); have ss := fb_addI (x := v3_12) (y := 1) (by omega) (by omega); rw [Int32.lt_iff_toInt_lt]; omega) (show ¬ (500 < (v3_12 + 1)) from ((fun (a_0 : Int32) (a_1 : Int32) (k_0 : ¬ (a_0 < a_1)) (k_1 : ¬ (499 < a_0)) => (show ¬ (500 < (a_1 + 1)) from by have z0 : (1 : Int32).toInt = 1 := (by decide +kernel); have z1 : (499 : Int32).toInt = 499 := (by decide +kernel); have z2 : (500 : Int32).toInt = 500 := (by decide +kernel); have r0 := fb_rng (a_0); have r1 := fb_rng (a_1); have e0 := k_0; rw [Int32.lt_iff_toInt_lt] at e0; have e1 := k_1; rw [Int32.lt_iff_toInt_lt, z1] at e1; obtain ⟨n_0, hn_0, s0⟩ := nd_add (x := (a_1)) (y := (1 : Int32)) (by (try rw [z0]); omega) (by (try rw [z0]); omega); rw [z0] at s0; rw [hn_0, Int32.lt_iff_toInt_lt, z2]; omega)) r_13 v3_12 c_18 po_15)) (by exact ms_2 ((fun (a_0 : Int32) (a_1 : Int32) (k_0 : ¬ (a_0 < a_1)) (k_1 : ¬ (499 < a_0)) => (show 1 ≤ (500 : Int32).toInt - (a_1).toInt ∧ (500 : Int32).toInt - ((a_1) + (1 : Int32)).toInt + 1 ≤ (500 : Int32).toInt - (a_1).toInt from by have z0 : (1 : Int32).toInt = 1 := (by decide +kernel); have z1 : (499 : Int32).toInt = 499 := (by decide +kernel); have z2 : (500 : Int32).toInt = 500 := (by decide +kernel); have r0 := fb_rng (a_0); have r1 := fb_rng (a_1); have e0 := k_0; rw [Int32.lt_iff_toInt_lt] at e0; have e1 := k_1; rw [Int32.lt_iff_toInt_lt, z1] at e1; obtain ⟨n_0, hn_0, s0⟩ := nd_add (x := (a_1)) (y := (1 : Int32)) (by (try rw [z0]); omega) (by (try rw [z0]); omega); rw [z0] at s0; rw [hn_0]; (try rw [z2]); omega)) r_13 v3_12 c_18 po_15) hm_12) (by rw [← hrec_12, wpR_Md_foretold_w_23_12_pos (ms_3 ((fun (a_0 : Int32) (a_1 : Int32) (k_0 : ¬ (a_0 < a_1)) (k_1 : ¬ (499 < a_0)) => (show 1 ≤ (500 : Int32).toInt - (a_1).toInt ∧ (500 : Int32).toInt - ((a_1) + (1 : Int32)).toInt + 1 ≤ (500 : Int32).toInt - (a_1).toInt from by have z0 : (1 : Int32).toInt = 1 := (by decide +kernel); have z1 : (499 : Int32).toInt = 499 := (by decide +kernel); have z2 : (500 : Int32).toInt = 500 := (by decide +kernel); have r0 := fb_rng (a_0); have r1 := fb_rng (a_1); have e0 := k_0; rw [Int32.lt_iff_toInt_lt] at e0; have e1 := k_1; rw [Int32.lt_iff_toInt_lt, z1] at e1; obtain ⟨n_0, hn_0, s0⟩ := nd_add (x := (a_1)) (y := (1 : Int32)) (by (try rw [z0]); omega) (by (try rw [z0]); omega); rw [z0] at s0; rw [hn_0]; (try rw [z2]); omega)) r_13 v3_12 c_18 po_15) hm_12)] at hQ; exact hQ) (lv_sub hl [2, 1, 0] rfl)
    exact cut_12 ((500 : Int32).toInt - ((r_7 - 100) : Int32).toInt).toNat (r_7 - 100) 0 _ (show ¬ ((r_7 - 100) < 0) from ((fun (a_0 : Int32) (a_1 : Int32) (a_2 : Int32) (k_0 : ¬ (a_1 < 0)) (k_1 : ¬ (499 < a_1)) (k_2 : ¬ (((a_1 * 720) + 719) < a_2)) (k_3 : 100 ≤ a_0) (k_4 : ¬ (499 < a_0)) (k_5 : ¬ (a_2 < (a_0 * 720))) => (show ¬ ((a_1 - 100) < 0) from by have z0 : (0 : Int32).toInt = 0 := (by decide +kernel); have z1 : (100 : Int32).toInt = 100 := (by decide +kernel); have z2 : (499 : Int32).toInt = 499 := (by decide +kernel); have z3 : (719 : Int32).toInt = 719 := (by decide +kernel); have z4 : (720 : Int32).toInt = 720 := (by decide +kernel); have r0 := fb_rng (a_0); have r1 := fb_rng (a_1); have r2 := fb_rng (a_2); have e0 := k_0; rw [Int32.lt_iff_toInt_lt, z0] at e0; have e1 := k_1; rw [Int32.lt_iff_toInt_lt, z2] at e1; obtain ⟨n_0, hn_0, s0⟩ := nd_mul (x := (a_1)) (y := (720 : Int32)) (by (try rw [z4]); omega) (by (try rw [z4]); omega); rw [z4] at s0; obtain ⟨n_1, hn_1, s1⟩ := nd_add (x := n_0) (y := (719 : Int32)) (by (try rw [z3]); omega) (by (try rw [z3]); omega); rw [z3] at s1; have e2 := k_2; rw [hn_0, hn_1, Int32.lt_iff_toInt_lt] at e2; have e3 := k_3; rw [Int32.le_iff_toInt_le, z1] at e3; have e4 := k_4; rw [Int32.lt_iff_toInt_lt, z2] at e4; obtain ⟨n_2, hn_2, s2⟩ := nd_mul (x := (a_0)) (y := (720 : Int32)) (by (try rw [z4]); omega) (by (try rw [z4]); omega); rw [z4] at s2; have e5 := k_5; rw [hn_2, Int32.lt_iff_toInt_lt] at e5; obtain ⟨n_3, hn_3, s3⟩ := nd_sub (x := (a_1)) (y := (100 : Int32)) (by (try rw [z1]); omega) (by (try rw [z1]); omega); rw [z1] at s3; rw [hn_3, Int32.lt_iff_toInt_lt, z0]; omega)) r_1 r_7 (ti f q0 1) po_8 po_9 po_11 c_6 po_3 po_4)) (show ¬ (500 < (r_7 - 100)) from by have e0 := po_8; rw [Int32.lt_iff_toInt_lt] at e0; have e1 := po_9; rw [Int32.lt_iff_toInt_lt] at e1; have z0 : (0 : Int32).toInt = 0 := (by decide +kernel); have z1 : (100 : Int32).toInt = 100 := (by decide +kernel); have z2 : (499 : Int32).toInt = 499 := (by decide +kernel); have z3 : (500 : Int32).toInt = 500 := (by decide +kernel); have ss := fb_subI (x := r_7) (y := 100) (by omega) (by omega); rw [Int32.lt_iff_toInt_lt]; omega) (by exact ms_e _ _) hQ (lv_sub hl [2, 1, 0] rfl)
  · have hQ := hQ.2 c_6
    refine lv_iconst (v := 0) hx hb d_Md_foretold_11 (by decide +kernel) ?_
    refine lv_goto (tgt := 22) hx hb d_Md_foretold_12 (by decide) ?_
    refine lv_istore_n (lv' := [(3, .int 0), (1, .long 0), (0, .ref q0)]) hx hb d_Md_foretold_22 rfl hl (by decide) rfl (fun ls hl => ?_)
    have cut_44 : ∀ (n_44 : Nat) (v3_44 : Int32) (v1_44 : Int64) (ls : Array Slot), ¬ (v3_44 < 0) → ¬ (500 < v3_44) → (500 : Int32).toInt - (v3_44 : Int32).toInt ≤ (n_44 : Int) → wpL_Md_foretold_w_23_44 L f q0 r_1 Q n_44 v3_44 v1_44 → lv_has ls 8 [(0, .ref q0), (1, .long v1_44), (3, .int v3_44)] → W p l e (headSpec (.code y_Md_foretold b_Md_foretold 8 (some .int) :: TB) ({ frames := 1, cells := 0, slots := 0, locals := 20 })).room s m [.ref q0].toArray below meth c s.heap [] 0 0 (MQ below (vp_Si (fun r => (True) ∧ Q r)) [.ref q0].toArray s 0 0 (fun _ => False)) (F0 m 23 ls []) := by
      intro n_44
      induction n_44 using Nat.strongRecOn with
      | _ n_44 ih_44 =>
        intro v3_44 v1_44 ls iv0_44 iv1_44 hm_44 hQ hl
        rw [wpL_Md_foretold_w_23_44_eq] at hQ
        obtain ⟨rec_44, hrec_44⟩ : ∃ g, wpR_Md_foretold_w_23_44 L f q0 r_1 Q n_44 = g := ⟨_, rfl⟩
        rw [hrec_44] at hQ
        unfold wpB_Md_foretold_w_23_44 at hQ
        refine lv_iload_n hx hb d_Md_foretold_23 rfl (lv_at hl 2 rfl) ?_
        refine lv_aload_n hx hb d_Md_foretold_24 rfl (lv_at hl 0 rfl) ?_
        refine vp_callSi (va_Run.run (va_runV (As := []) (rest := [.int v3_44]) ⟨hx, hb, hml, hown, htb⟩ (c_Md_today_w l dC dI ct L f hO_0 q0 m0 _ hQ) (cwV 0 htb (gd_V tw_124 tw_125 tw_126 tw_49 tw_123) rfl rfl rfl (by decide +kernel) ⟨Nat.le_of_ble_eq_true rfl, Nat.le_of_ble_eq_true rfl⟩) ⟨pr_blind, tw_recv hK hP m0 rfl rfl, pr_pre hP hK hN⟩ rfl rfl hl.1 rfl (lv_room (Nat.le_of_ble_eq_true rfl)) d_Md_foretold_25 ⟨Nat.le_of_ble_eq_true rfl, Nat.le_of_ble_eq_true rfl⟩)) (fun r_45 er_45 => ?_)
        obtain ⟨er_45, hQ⟩ := er_45
        obtain ⟨po_46, po_47, po_48, po_49, -⟩ := er_45
        refine lv_icmp_gt (tgt := 46) hx hb d_Md_foretold_28 (by decide) (fun c_50 => ?_) (fun c_50 => ?_)
        · have hQ := hQ.1 c_50
          refine lv_aload_n hx hb d_Md_foretold_46 rfl (lv_at hl 0 rfl) ?_
          refine tw_getl (D := (dC, dI)) (C := R_Md) (T := F_Md) (N := 64) (ci := 7) (kd := 27) (ct := ct) hx hb htb i_Md hown hK hP m0 rfl rfl 56 (by decide) (htb (.fieldLink R_Md 316 "WaterMenModel" "box" "J") tw_204) (fun _ h9 => h9) rfl d_Md_foretold_47 (fun x_51 e_51 => ?_)
          have hQ := hQ x_51 e_51
          refine lv_lstore_n (lv' := [(3, .long x_51), (0, .ref q0), (1, .long v1_44)]) hx hb d_Md_foretold_50 rfl hl (by decide) rfl (fun ls hl => ?_)
          refine lv_iconst (v := 1) hx hb d_Md_foretold_51 (by decide +kernel) ?_
          refine lv_istore (lv' := [(5, .int 1), (3, .long x_51), (0, .ref q0), (1, .long v1_44)]) hx hb d_Md_foretold_52 hl (by decide) rfl (fun ls hl => ?_)
          have cut_52 : ∀ (n_52 : Nat) (v5_52 : Int32) (v3_52 : Int64) (ls : Array Slot), ¬ (v5_52 < 1) → ¬ (41 < v5_52) → (41 : Int32).toInt - (v5_52 : Int32).toInt ≤ (n_52 : Int) → wpL_Md_foretold_w_54_52 L f q0 r_1 v3_44 v1_44 rec_44 r_45 x_51 Q n_52 v5_52 v3_52 → lv_has ls 8 [(0, .ref q0), (1, .long v1_44), (3, .long v3_52), (5, .int v5_52)] → W p l e (headSpec (.code y_Md_foretold b_Md_foretold 8 (some .int) :: TB) ({ frames := 1, cells := 0, slots := 0, locals := 20 })).room s m [.ref q0].toArray below meth c s.heap [] 0 0 (MQ below (vp_Si (fun r => (True) ∧ Q r)) [.ref q0].toArray s 0 0 (fun _ => False)) (F0 m 54 ls []) := by
            intro n_52
            induction n_52 using Nat.strongRecOn with
            | _ n_52 ih_52 =>
              intro v5_52 v3_52 ls iv0_52 iv1_52 hm_52 hQ hl
              rw [wpL_Md_foretold_w_54_52_eq] at hQ
              obtain ⟨rec_52, hrec_52⟩ : ∃ g, wpR_Md_foretold_w_54_52 L f q0 r_1 v3_44 v1_44 rec_44 r_45 x_51 Q n_52 = g := ⟨_, rfl⟩
              rw [hrec_52] at hQ
              unfold wpB_Md_foretold_w_54_52 at hQ
              refine lv_iload hx hb d_Md_foretold_54 (lv_at hl 3 rfl) ?_
              refine lv_bipush (v := 40) hx hb d_Md_foretold_56 (by decide +kernel) ?_
              refine lv_icmp_gt (tgt := 146) hx hb d_Md_foretold_58 (by decide) (fun c_53 => ?_) (fun c_53 => ?_)
              · have hQ := hQ.1 c_53
                refine lv_bipush (v := (-2)) hx hb d_Md_foretold_146 (by decide +kernel) ?_
                exact W.iret (v := (-2)) hx hb hr (fun t ht hW => ⟨(-2), rfl, ⟨trivial, hQ⟩, ht⟩) t_nil d_Md_foretold_148
              · have hQ := hQ.2 c_53
                refine lv_aload_n hx hb d_Md_foretold_61 rfl (lv_at hl 0 rfl) ?_
                refine vp_callSi (va_Run.run (va_runV (As := []) (rest := []) ⟨hx, hb, hml, hown, htb⟩ (c_Md_today_w l dC dI ct L f hO_0 q0 m0 _ hQ) (cwV 0 htb (gd_V tw_124 tw_125 tw_126 tw_49 tw_123) rfl rfl rfl (by decide +kernel) ⟨Nat.le_of_ble_eq_true rfl, Nat.le_of_ble_eq_true rfl⟩) ⟨pr_blind, tw_recv hK hP m0 rfl rfl, pr_pre hP hK hN⟩ rfl rfl hl.1 rfl (lv_room (Nat.le_of_ble_eq_true rfl)) d_Md_foretold_62 ⟨Nat.le_of_ble_eq_true rfl, Nat.le_of_ble_eq_true rfl⟩)) (fun r_54 er_54 => ?_)
                obtain ⟨er_54, hQ⟩ := er_54
                obtain ⟨po_55, po_56, po_57, po_58, -⟩ := er_54
                refine lv_bipush (v := 100) hx hb d_Md_foretold_65 (by decide +kernel) ?_
                refine lv_idiv hx hb d_Md_foretold_67 (by decide) ?_
                refine hb_divn (U := 99) (Qm := 0) (c := 100) (C1 := 99) (K := 2147483547) (by decide +kernel) (by decide +kernel) (by decide +kernel) po_55 (show ¬ (2147483547 < r_54) from by have e0 := po_55; rw [Int32.lt_iff_toInt_lt] at e0; have e1 := po_56; rw [Int32.lt_iff_toInt_lt] at e1; have z0 : (0 : Int32).toInt = 0 := (by decide +kernel); have z1 : (499 : Int32).toInt = 499 := (by decide +kernel); have z2 : (2147483547 : Int32).toInt = 2147483547 := (by decide +kernel); rw [Int32.lt_iff_toInt_lt]; omega) (show ¬ (99 < r_54) from ((fun (a_0 : Int32) (a_1 : Int32) (a_2 : Int32) (k_0 : ¬ (a_1 < 0)) (k_1 : ¬ (499 < a_1)) (k_2 : ¬ (a_2 < (a_1 * 720))) (k_3 : ¬ (100 ≤ a_0)) (k_4 : ¬ (a_0 < 0)) (k_5 : ¬ (((a_0 * 720) + 719) < a_2)) => (show ¬ (99 < a_1) from by have z0 : (0 : Int32).toInt = 0 := (by decide +kernel); have z1 : (99 : Int32).toInt = 99 := (by decide +kernel); have z2 : (100 : Int32).toInt = 100 := (by decide +kernel); have z3 : (499 : Int32).toInt = 499 := (by decide +kernel); have z4 : (719 : Int32).toInt = 719 := (by decide +kernel); have z5 : (720 : Int32).toInt = 720 := (by decide +kernel); have r0 := fb_rng (a_0); have r1 := fb_rng (a_1); have r2 := fb_rng (a_2); have e0 := k_0; rw [Int32.lt_iff_toInt_lt, z0] at e0; have e1 := k_1; rw [Int32.lt_iff_toInt_lt, z3] at e1; obtain ⟨n_0, hn_0, s0⟩ := nd_mul (x := (a_1)) (y := (720 : Int32)) (by (try rw [z5]); omega) (by (try rw [z5]); omega); rw [z5] at s0; have e2 := k_2; rw [hn_0, Int32.lt_iff_toInt_lt] at e2; have e3 := k_3; rw [Int32.le_iff_toInt_le, z2] at e3; have e4 := k_4; rw [Int32.lt_iff_toInt_lt, z0] at e4; obtain ⟨n_1, hn_1, s1⟩ := nd_mul (x := (a_0)) (y := (720 : Int32)) (by (try rw [z5]); omega) (by (try rw [z5]); omega); rw [z5] at s1; obtain ⟨n_2, hn_2, s2⟩ := nd_add (x := n_1) (y := (719 : Int32)) (by (try rw [z4]); omega) (by (try rw [z4]); omega); rw [z4] at s2; have e5 := k_5; rw [hn_1, hn_2, Int32.lt_iff_toInt_lt] at e5; rw [Int32.lt_iff_toInt_lt, z1]; omega)) r_1 r_54 (ti f q0 1) po_55 po_56 po_57 c_6 po_2 po_5)) (by decide +kernel) (fun y_59 g1_59 g2_59 g3_59 g4_59 g5_59 g9_59 => ?_)
                have hQ := hQ y_59 g9_59
                refine lv_iload hx hb d_Md_foretold_68 (lv_at hl 3 rfl) ?_
                refine lv_iadd hx hb d_Md_foretold_70 ?_
                refine lv_bipush (v := 100) hx hb d_Md_foretold_71 (by decide +kernel) ?_
                refine lv_imul hx hb d_Md_foretold_73 ?_
                refine lv_istore (lv' := [(6, .int ((y_59 + v5_52) * 100)), (0, .ref q0), (1, .long v1_44), (3, .long v3_52), (5, .int v5_52)]) hx hb d_Md_foretold_74 hl (by decide) rfl (fun ls hl => ?_)
                refine lv_lload_n hx hb d_Md_foretold_76 rfl (lv_at hl 3 rfl) ?_
                refine lv_lload_n hx hb d_Md_foretold_77 rfl (lv_at hl 2 rfl) ?_
                refine lv_ladd hx hb d_Md_foretold_78 ?_
                refine hb_eql (fun y_60 hy_60 => ?_)
                have hQ := hQ y_60 hy_60
                refine lv_lstore_n (lv' := [(3, .long y_60), (6, .int ((y_59 + v5_52) * 100)), (0, .ref q0), (1, .long v1_44), (5, .int v5_52)]) hx hb d_Md_foretold_79 rfl hl (by decide) rfl (fun ls hl => ?_)
                refine lv_iconst (v := 0) hx hb d_Md_foretold_80 (by decide +kernel) ?_
                refine lv_istore (lv' := [(7, .int 0), (3, .long y_60), (6, .int ((y_59 + v5_52) * 100)), (0, .ref q0), (1, .long v1_44), (5, .int v5_52)]) hx hb d_Md_foretold_81 hl (by decide) rfl (fun ls hl => ?_)
                have cut_61 : ∀ (n_61 : Nat) (v7_61 : Int32) (v3_61 : Int64) (ls : Array Slot), ¬ (v7_61 < 0) → ¬ (30 < v7_61) → (30 : Int32).toInt - (v7_61 : Int32).toInt ≤ (n_61 : Int) → wpL_Md_foretold_w_83_61 L f q0 r_1 v3_44 v1_44 rec_44 r_45 x_51 v5_52 v3_52 rec_52 r_54 y_59 y_60 Q n_61 v7_61 v3_61 → lv_has ls 8 [(0, .ref q0), (1, .long v1_44), (3, .long v3_61), (5, .int v5_52), (6, .int ((y_59 + v5_52) * 100)), (7, .int v7_61)] → W p l e (headSpec (.code y_Md_foretold b_Md_foretold 8 (some .int) :: TB) ({ frames := 1, cells := 0, slots := 0, locals := 20 })).room s m [.ref q0].toArray below meth c s.heap [] 0 0 (MQ below (vp_Si (fun r => (True) ∧ Q r)) [.ref q0].toArray s 0 0 (fun _ => False)) (F0 m 83 ls []) := by
                  intro n_61
                  induction n_61 using Nat.strongRecOn with
                  | _ n_61 ih_61 =>
                    intro v7_61 v3_61 ls iv0_61 iv1_61 hm_61 hQ hl
                    rw [wpL_Md_foretold_w_83_61_eq] at hQ
                    obtain ⟨rec_61, hrec_61⟩ : ∃ g, wpR_Md_foretold_w_83_61 L f q0 r_1 v3_44 v1_44 rec_44 r_45 x_51 v5_52 v3_52 rec_52 r_54 y_59 y_60 Q n_61 = g := ⟨_, rfl⟩
                    rw [hrec_61] at hQ
                    unfold wpB_Md_foretold_w_83_61 at hQ
                    refine lv_iload hx hb d_Md_foretold_83 (lv_at hl 5 rfl) ?_
                    refine lv_aload_n hx hb d_Md_foretold_85 rfl (lv_at hl 0 rfl) ?_
                    refine tw_geti (D := (dC, dI)) (C := R_Md) (T := F_Md) (N := 64) (ci := 7) (kd := 27) (ct := ct) hx hb htb i_Md hown hK hP hO_0 m0 rfl rfl 60 (by decide) (htb (.fieldLink R_Md 323 "WaterMenModel" "pensioners" "I") tw_202) (fun _ h9 => h9) rfl d_Md_foretold_86 (fun x_62 e_62 b_62 => ?_)
                    have hQ := hQ x_62 e_62
                    refine lv_icmp_ge (tgt := 140) hx hb d_Md_foretold_89 (by decide) (fun c_63 => ?_) (fun c_63 => ?_)
                    · have hQ := hQ.1 c_63
                      refine lv_iinc (v := (v5_52 + 1)) (lv' := [(5, .int (v5_52 + 1)), (0, .ref q0), (1, .long v1_44), (3, .long v3_61), (6, .int ((y_59 + v5_52) * 100)), (7, .int v7_61)]) hx hb d_Md_foretold_140 hl (k := 3) rfl rfl (by decide) rfl (fun ls hl => ?_)
                      refine lv_goto (tgt := 54) hx hb d_Md_foretold_143 (by decide) ?_
                      exact ih_52 (n_52 - 1) (ms_1 ((fun (a_0 : Int32) (k_0 : ¬ (40 < a_0)) => (show 1 ≤ (41 : Int32).toInt - (a_0).toInt ∧ (41 : Int32).toInt - ((a_0) + (1 : Int32)).toInt + 1 ≤ (41 : Int32).toInt - (a_0).toInt from by have z0 : (1 : Int32).toInt = 1 := (by decide +kernel); have z1 : (40 : Int32).toInt = 40 := (by decide +kernel); have z2 : (41 : Int32).toInt = 41 := (by decide +kernel); have r0 := fb_rng (a_0); have e0 := k_0; rw [Int32.lt_iff_toInt_lt, z1] at e0; obtain ⟨n_0, hn_0, s0⟩ := nd_add (x := (a_0)) (y := (1 : Int32)) (by (try rw [z0]); omega) (by (try rw [z0]); omega); rw [z0] at s0; rw [hn_0]; (try rw [z2]); omega)) v5_52 c_53) hm_52) (v5_52 + 1) v3_61 _ (show ¬ ((v5_52 + 1) < 1) from by have e0 := iv0_52; rw [Int32.lt_iff_toInt_lt] at e0; have e1 := c_53; rw [Int32.lt_iff_toInt_lt] at e1; have z0 : (1 : Int32).toInt = 1 := (by decide +kernel); have z1 : (40 : Int32).toInt = 40 := (by decide +kernel); have ss := fb_addI (x := v5_52) (y := 1) (by omega) (by omega); rw [Int32.lt_iff_toInt_lt]; omega) (show ¬ (41 < (v5_52 + 1)) from by have e0 := iv0_52; rw [Int32.lt_iff_toInt_lt] at e0; have e1 := c_53; rw [Int32.lt_iff_toInt_lt] at e1; have z0 : (1 : Int32).toInt = 1 := (by decide +kernel); have z1 : (40 : Int32).toInt = 40 := (by decide +kernel); have z2 : (41 : Int32).toInt = 41 := (by decide +kernel); have ss := fb_addI (x := v5_52) (y := 1) (by omega) (by omega); rw [Int32.lt_iff_toInt_lt]; omega) (by exact ms_2 ((fun (a_0 : Int32) (k_0 : ¬ (40 < a_0)) => (show 1 ≤ (41 : Int32).toInt - (a_0).toInt ∧ (41 : Int32).toInt - ((a_0) + (1 : Int32)).toInt + 1 ≤ (41 : Int32).toInt - (a_0).toInt from by have z0 : (1 : Int32).toInt = 1 := (by decide +kernel); have z1 : (40 : Int32).toInt = 40 := (by decide +kernel); have z2 : (41 : Int32).toInt = 41 := (by decide +kernel); have r0 := fb_rng (a_0); have e0 := k_0; rw [Int32.lt_iff_toInt_lt, z1] at e0; obtain ⟨n_0, hn_0, s0⟩ := nd_add (x := (a_0)) (y := (1 : Int32)) (by (try rw [z0]); omega) (by (try rw [z0]); omega); rw [z0] at s0; rw [hn_0]; (try rw [z2]); omega)) v5_52 c_53) hm_52) (by rw [← hrec_52, wpR_Md_foretold_w_54_52_pos (ms_3 ((fun (a_0 : Int32) (k_0 : ¬ (40 < a_0)) => (show 1 ≤ (41 : Int32).toInt - (a_0).toInt ∧ (41 : Int32).toInt - ((a_0) + (1 : Int32)).toInt + 1 ≤ (41 : Int32).toInt - (a_0).toInt from by have z0 : (1 : Int32).toInt = 1 := (by decide +kernel); have z1 : (40 : Int32).toInt = 40 := (by decide +kernel); have z2 : (41 : Int32).toInt = 41 := (by decide +kernel); have r0 := fb_rng (a_0); have e0 := k_0; rw [Int32.lt_iff_toInt_lt, z1] at e0; obtain ⟨n_0, hn_0, s0⟩ := nd_add (x := (a_0)) (y := (1 : Int32)) (by (try rw [z0]); omega) (by (try rw [z0]); omega); rw [z0] at s0; rw [hn_0]; (try rw [z2]); omega)) v5_52 c_53) hm_52)] at hQ; exact hQ) (lv_sub hl [1, 2, 3, 0] rfl)
                    · have hQ := hQ.2 c_63
                      refine lv_iload hx hb d_Md_foretold_92 (lv_at hl 4 rfl) ?_
                      refine lv_aload_n hx hb d_Md_foretold_94 rfl (lv_at hl 0 rfl) ?_
                      refine tw_getr (D := (dC, dI)) (C := R_Md) (T := F_Md) (N := 64) (ci := 7) (kd := 27) (ct := ct) hx hb htb i_Md hown hK hP hO_0 m0 rfl rfl 62 (by decide) (htb (.fieldLink R_Md 180 "WaterMenModel" "pensionEnd" "[I") tw_203) (fun _ h9 => h9) rfl d_Md_foretold_95 (fun q_64 e_64 m_64 => ?_)
                      have hQ := hQ q_64 e_64
                      refine lv_iload hx hb d_Md_foretold_98 (lv_at hl 5 rfl) ?_
                      refine tw_aldI (ct := ct) hx hb hK hP hO_0 m_64 rfl ((fun (a_0 : Int32) (a_1 : Int32) (k_0 : ¬ (a_0 < 0)) (k_1 : ¬ (a_1 ≤ a_0)) (k_2 : ¬ (30 < a_1)) => (show vp_in (a_0) 30 from by have z0 : (0 : Int32).toInt = 0 := (by decide +kernel); have z1 : (30 : Int32).toInt = 30 := (by decide +kernel); have r0 := fb_rng (a_0); have r1 := fb_rng (a_1); have e0 := k_0; rw [Int32.lt_iff_toInt_lt, z0] at e0; have e1 := k_1; rw [Int32.le_iff_toInt_le] at e1; have e2 := k_2; rw [Int32.lt_iff_toInt_lt, z1] at e2; rw [vp_in_iff]; omega)) v7_61 x_62 iv0_61 c_63 b_62.2) d_Md_foretold_100 (fun x_65 e_65 b_65 => ?_)
                      have hQ := hQ x_65 e_65
                      refine lv_icmp_lt (tgt := 107) hx hb d_Md_foretold_101 (by decide) (fun c_66 => ?_) (fun c_66 => ?_)
                      · have hQ := hQ.1 c_66
                        refine lv_lload_n hx hb d_Md_foretold_107 rfl (lv_at hl 2 rfl) ?_
                        refine lv_aload_n hx hb d_Md_foretold_108 rfl (lv_at hl 0 rfl) ?_
                        refine tw_getr (D := (dC, dI)) (C := R_Md) (T := F_Md) (N := 64) (ci := 7) (kd := 27) (ct := ct) hx hb htb i_Md hown hK hP hO_0 m0 rfl rfl 61 (by decide) (htb (.fieldLink R_Md 177 "WaterMenModel" "pensionOf" "[I") tw_205) (fun _ h9 => h9) rfl d_Md_foretold_109 (fun q_67 e_67 m_67 => ?_)
                        have hQ := hQ q_67 e_67
                        refine lv_iload hx hb d_Md_foretold_112 (lv_at hl 5 rfl) ?_
                        refine tw_aldI (ct := ct) hx hb hK hP hO_0 m_67 rfl ((fun (a_0 : Int32) (a_1 : Int32) (k_0 : ¬ (a_0 < 0)) (k_1 : ¬ (a_1 ≤ a_0)) (k_2 : ¬ (30 < a_1)) => (show vp_in (a_0) 30 from by have z0 : (0 : Int32).toInt = 0 := (by decide +kernel); have z1 : (30 : Int32).toInt = 30 := (by decide +kernel); have r0 := fb_rng (a_0); have r1 := fb_rng (a_1); have e0 := k_0; rw [Int32.lt_iff_toInt_lt, z0] at e0; have e1 := k_1; rw [Int32.le_iff_toInt_le] at e1; have e2 := k_2; rw [Int32.lt_iff_toInt_lt, z1] at e2; rw [vp_in_iff]; omega)) v7_61 x_62 iv0_61 c_63 b_62.2) d_Md_foretold_114 (fun x_68 e_68 b_68 => ?_)
                        have hQ := hQ x_68 e_68
                        refine lv_i2l hx hb d_Md_foretold_115 rfl ?_
                        refine W.lcmp hx hb d_Md_foretold_116 ?_
                        refine hb_eqi (fun y_69 hy_69 => ?_)
                        have hQ := hQ y_69 hy_69
                        refine lv_if_ge (tgt := 123) hx hb d_Md_foretold_117 (by decide) (fun c_70 => ?_) (fun c_70 => ?_)
                        · have hQ := hQ.1 c_70
                          refine lv_lload_n hx hb d_Md_foretold_123 rfl (lv_at hl 2 rfl) ?_
                          refine lv_aload_n hx hb d_Md_foretold_124 rfl (lv_at hl 0 rfl) ?_
                          refine tw_getR (D := (dC, dI)) (C := R_Md) (T := F_Md) (N := 64) (ci := 7) (kd := 27) (ct := ct) hx hb htb i_Md hown hK hP m0 rfl rfl 61 e_67 (by decide) (htb (.fieldLink R_Md 177 "WaterMenModel" "pensionOf" "[I") tw_205) (fun _ h9 => h9) rfl d_Md_foretold_125 ?_
                          refine hb_tv (.ref q_67) rfl ?_
                          refine lv_iload hx hb d_Md_foretold_128 (lv_at hl 5 rfl) ?_
                          refine tw_aldxI (ct := ct) (x := x_68) hx hb hK hP m_67 rfl ((fun (a_0 : Int32) (a_1 : Int32) (k_0 : ¬ (a_0 < 0)) (k_1 : ¬ (a_1 ≤ a_0)) (k_2 : ¬ (30 < a_1)) => (show vp_in (a_0) 30 from by have z0 : (0 : Int32).toInt = 0 := (by decide +kernel); have z1 : (30 : Int32).toInt = 30 := (by decide +kernel); have r0 := fb_rng (a_0); have r1 := fb_rng (a_1); have e0 := k_0; rw [Int32.lt_iff_toInt_lt, z0] at e0; have e1 := k_1; rw [Int32.le_iff_toInt_le] at e1; have e2 := k_2; rw [Int32.lt_iff_toInt_lt, z1] at e2; rw [vp_in_iff]; omega)) v7_61 x_62 iv0_61 c_63 b_62.2) e_68 d_Md_foretold_130 ?_
                          refine lv_i2l hx hb d_Md_foretold_131 rfl ?_
                          refine lv_lsub hx hb d_Md_foretold_132 ?_
                          refine hb_eql (fun y_72 hy_72 => ?_)
                          have hQ := hQ y_72 hy_72
                          refine lv_lstore_n (lv' := [(3, .long y_72), (0, .ref q0), (1, .long v1_44), (5, .int v5_52), (6, .int ((y_59 + v5_52) * 100)), (7, .int v7_61)]) hx hb d_Md_foretold_133 rfl hl (by decide) rfl (fun ls hl => ?_)
                          refine lv_iinc (v := (v7_61 + 1)) (lv' := [(7, .int (v7_61 + 1)), (3, .long y_72), (0, .ref q0), (1, .long v1_44), (5, .int v5_52), (6, .int ((y_59 + v5_52) * 100))]) hx hb d_Md_foretold_134 hl (k := 5) rfl rfl (by decide) rfl (fun ls hl => ?_)
                          refine lv_goto (tgt := 83) hx hb d_Md_foretold_137 (by decide) ?_
                          exact ih_61 (n_61 - 1) (ms_1 ((fun (a_0 : Int32) (a_1 : Int32) (k_0 : ¬ (a_1 ≤ a_0)) (k_1 : ¬ (30 < a_1)) => (show 1 ≤ (30 : Int32).toInt - (a_0).toInt ∧ (30 : Int32).toInt - ((a_0) + (1 : Int32)).toInt + 1 ≤ (30 : Int32).toInt - (a_0).toInt from by have z0 : (1 : Int32).toInt = 1 := (by decide +kernel); have z1 : (30 : Int32).toInt = 30 := (by decide +kernel); have r0 := fb_rng (a_0); have r1 := fb_rng (a_1); have e0 := k_0; rw [Int32.le_iff_toInt_le] at e0; have e1 := k_1; rw [Int32.lt_iff_toInt_lt, z1] at e1; obtain ⟨n_0, hn_0, s0⟩ := nd_add (x := (a_0)) (y := (1 : Int32)) (by (try rw [z0]); omega) (by (try rw [z0]); omega); rw [z0] at s0; rw [hn_0]; (try rw [z1]); omega)) v7_61 x_62 c_63 b_62.2) hm_61) (v7_61 + 1) y_72 _ (show ¬ ((v7_61 + 1) < 0) from by have e0 := iv0_61; rw [Int32.lt_iff_toInt_lt] at e0; have e1 := iv1_61; rw [Int32.lt_iff_toInt_lt] at e1; have z0 : (0 : Int32).toInt = 0 := (by decide +kernel); have z1 : (1 : Int32).toInt = 1 := (by decide +kernel); have z2 : (30 : Int32).toInt = 30 := (by decide +kernel); have ss := fb_addI (x := v7_61) (y := 1) (by omega) (by omega); rw [Int32.lt_iff_toInt_lt]; omega) (show ¬ (30 < (v7_61 + 1)) from ((fun (a_0 : Int32) (a_1 : Int32) (k_0 : ¬ (a_1 ≤ a_0)) (k_1 : ¬ (30 < a_1)) => (show ¬ (30 < (a_0 + 1)) from by have z0 : (1 : Int32).toInt = 1 := (by decide +kernel); have z1 : (30 : Int32).toInt = 30 := (by decide +kernel); have r0 := fb_rng (a_0); have r1 := fb_rng (a_1); have e0 := k_0; rw [Int32.le_iff_toInt_le] at e0; have e1 := k_1; rw [Int32.lt_iff_toInt_lt, z1] at e1; obtain ⟨n_0, hn_0, s0⟩ := nd_add (x := (a_0)) (y := (1 : Int32)) (by (try rw [z0]); omega) (by (try rw [z0]); omega); rw [z0] at s0; rw [hn_0, Int32.lt_iff_toInt_lt, z1]; omega)) v7_61 x_62 c_63 b_62.2)) (by exact ms_2 ((fun (a_0 : Int32) (a_1 : Int32) (k_0 : ¬ (a_1 ≤ a_0)) (k_1 : ¬ (30 < a_1)) => (show 1 ≤ (30 : Int32).toInt - (a_0).toInt ∧ (30 : Int32).toInt - ((a_0) + (1 : Int32)).toInt + 1 ≤ (30 : Int32).toInt - (a_0).toInt from by have z0 : (1 : Int32).toInt = 1 := (by decide +kernel); have z1 : (30 : Int32).toInt = 30 := (by decide +kernel); have r0 := fb_rng (a_0); have r1 := fb_rng (a_1); have e0 := k_0; rw [Int32.le_iff_toInt_le] at e0; have e1 := k_1; rw [Int32.lt_iff_toInt_lt, z1] at e1; obtain ⟨n_0, hn_0, s0⟩ := nd_add (x := (a_0)) (y := (1 : Int32)) (by (try rw [z0]); omega) (by (try rw [z0]); omega); rw [z0] at s0; rw [hn_0]; (try rw [z1]); omega)) v7_61 x_62 c_63 b_62.2) hm_61) (by rw [← hrec_61, wpR_Md_foretold_w_83_61_pos (ms_3 ((fun (a_0 : Int32) (a_1 : Int32) (k_0 : ¬ (a_1 ≤ a_0)) (k_1 : ¬ (30 < a_1)) => (show 1 ≤ (30 : Int32).toInt - (a_0).toInt ∧ (30 : Int32).toInt - ((a_0) + (1 : Int32)).toInt + 1 ≤ (30 : Int32).toInt - (a_0).toInt from by have z0 : (1 : Int32).toInt = 1 := (by decide +kernel); have z1 : (30 : Int32).toInt = 30 := (by decide +kernel); have r0 := fb_rng (a_0); have r1 := fb_rng (a_1); have e0 := k_0; rw [Int32.le_iff_toInt_le] at e0; have e1 := k_1; rw [Int32.lt_iff_toInt_lt, z1] at e1; obtain ⟨n_0, hn_0, s0⟩ := nd_add (x := (a_0)) (y := (1 : Int32)) (by (try rw [z0]); omega) (by (try rw [z0]); omega); rw [z0] at s0; rw [hn_0]; (try rw [z1]); omega)) v7_61 x_62 c_63 b_62.2) hm_61)] at hQ; exact hQ) (lv_sub hl [2, 3, 1, 4, 5, 0] rfl)
                        · have hQ := hQ.2 c_70
                          refine lv_iload hx hb d_Md_foretold_120 (lv_at hl 4 rfl) ?_
                          exact W.iret (v := ((y_59 + v5_52) * 100)) hx hb hr (fun t ht hW => ⟨((y_59 + v5_52) * 100), rfl, ⟨trivial, hQ⟩, ht⟩) t_nil d_Md_foretold_122
                      · have hQ := hQ.2 c_66
                        refine lv_goto (tgt := 134) hx hb d_Md_foretold_104 (by decide) ?_
                        refine lv_iinc (v := (v7_61 + 1)) (lv' := [(7, .int (v7_61 + 1)), (0, .ref q0), (1, .long v1_44), (3, .long v3_61), (5, .int v5_52), (6, .int ((y_59 + v5_52) * 100))]) hx hb d_Md_foretold_134 hl (k := 5) rfl rfl (by decide) rfl (fun ls hl => ?_)
                        refine lv_goto (tgt := 83) hx hb d_Md_foretold_137 (by decide) ?_
                        exact ih_61 (n_61 - 1) (ms_1 ((fun (a_0 : Int32) (a_1 : Int32) (k_0 : ¬ (a_1 ≤ a_0)) (k_1 : ¬ (30 < a_1)) => (show 1 ≤ (30 : Int32).toInt - (a_0).toInt ∧ (30 : Int32).toInt - ((a_0) + (1 : Int32)).toInt + 1 ≤ (30 : Int32).toInt - (a_0).toInt from by have z0 : (1 : Int32).toInt = 1 := (by decide +kernel); have z1 : (30 : Int32).toInt = 30 := (by decide +kernel); have r0 := fb_rng (a_0); have r1 := fb_rng (a_1); have e0 := k_0; rw [Int32.le_iff_toInt_le] at e0; have e1 := k_1; rw [Int32.lt_iff_toInt_lt, z1] at e1; obtain ⟨n_0, hn_0, s0⟩ := nd_add (x := (a_0)) (y := (1 : Int32)) (by (try rw [z0]); omega) (by (try rw [z0]); omega); rw [z0] at s0; rw [hn_0]; (try rw [z1]); omega)) v7_61 x_62 c_63 b_62.2) hm_61) (v7_61 + 1) v3_61 _ (show ¬ ((v7_61 + 1) < 0) from by have e0 := iv0_61; rw [Int32.lt_iff_toInt_lt] at e0; have e1 := iv1_61; rw [Int32.lt_iff_toInt_lt] at e1; have z0 : (0 : Int32).toInt = 0 := (by decide +kernel); have z1 : (1 : Int32).toInt = 1 := (by decide +kernel); have z2 : (30 : Int32).toInt = 30 := (by decide +kernel); have ss := fb_addI (x := v7_61) (y := 1) (by omega) (by omega); rw [Int32.lt_iff_toInt_lt]; omega) (show ¬ (30 < (v7_61 + 1)) from ((fun (a_0 : Int32) (a_1 : Int32) (k_0 : ¬ (a_1 ≤ a_0)) (k_1 : ¬ (30 < a_1)) => (show ¬ (30 < (a_0 + 1)) from by have z0 : (1 : Int32).toInt = 1 := (by decide +kernel); have z1 : (30 : Int32).toInt = 30 := (by decide +kernel); have r0 := fb_rng (a_0); have r1 := fb_rng (a_1); have e0 := k_0; rw [Int32.le_iff_toInt_le] at e0; have e1 := k_1; rw [Int32.lt_iff_toInt_lt, z1] at e1; obtain ⟨n_0, hn_0, s0⟩ := nd_add (x := (a_0)) (y := (1 : Int32)) (by (try rw [z0]); omega) (by (try rw [z0]); omega); rw [z0] at s0; rw [hn_0, Int32.lt_iff_toInt_lt, z1]; omega)) v7_61 x_62 c_63 b_62.2)) (by exact ms_2 ((fun (a_0 : Int32) (a_1 : Int32) (k_0 : ¬ (a_1 ≤ a_0)) (k_1 : ¬ (30 < a_1)) => (show 1 ≤ (30 : Int32).toInt - (a_0).toInt ∧ (30 : Int32).toInt - ((a_0) + (1 : Int32)).toInt + 1 ≤ (30 : Int32).toInt - (a_0).toInt from by have z0 : (1 : Int32).toInt = 1 := (by decide +kernel); have z1 : (30 : Int32).toInt = 30 := (by decide +kernel); have r0 := fb_rng (a_0); have r1 := fb_rng (a_1); have e0 := k_0; rw [Int32.le_iff_toInt_le] at e0; have e1 := k_1; rw [Int32.lt_iff_toInt_lt, z1] at e1; obtain ⟨n_0, hn_0, s0⟩ := nd_add (x := (a_0)) (y := (1 : Int32)) (by (try rw [z0]); omega) (by (try rw [z0]); omega); rw [z0] at s0; rw [hn_0]; (try rw [z1]); omega)) v7_61 x_62 c_63 b_62.2) hm_61) (by rw [← hrec_61, wpR_Md_foretold_w_83_61_pos (ms_3 ((fun (a_0 : Int32) (a_1 : Int32) (k_0 : ¬ (a_1 ≤ a_0)) (k_1 : ¬ (30 < a_1)) => (show 1 ≤ (30 : Int32).toInt - (a_0).toInt ∧ (30 : Int32).toInt - ((a_0) + (1 : Int32)).toInt + 1 ≤ (30 : Int32).toInt - (a_0).toInt from by have z0 : (1 : Int32).toInt = 1 := (by decide +kernel); have z1 : (30 : Int32).toInt = 30 := (by decide +kernel); have r0 := fb_rng (a_0); have r1 := fb_rng (a_1); have e0 := k_0; rw [Int32.le_iff_toInt_le] at e0; have e1 := k_1; rw [Int32.lt_iff_toInt_lt, z1] at e1; obtain ⟨n_0, hn_0, s0⟩ := nd_add (x := (a_0)) (y := (1 : Int32)) (by (try rw [z0]); omega) (by (try rw [z0]); omega); rw [z0] at s0; rw [hn_0]; (try rw [z1]); omega)) v7_61 x_62 c_63 b_62.2) hm_61)] at hQ; exact hQ) (lv_sub hl [1, 2, 3, 4, 5, 0] rfl)
                exact cut_61 ((30 : Int32).toInt - (0 : Int32).toInt).toNat (0 : Int32) y_60 _ (by decide +kernel) (by decide +kernel) (by exact ms_e _ _) hQ (lv_sub hl [3, 4, 1, 5, 2, 0] rfl)
          exact cut_52 ((41 : Int32).toInt - (1 : Int32).toInt).toNat (1 : Int32) x_51 _ (by decide +kernel) (by decide +kernel) (by exact ms_e _ _) hQ (lv_sub hl [2, 3, 1, 0] rfl)
        · have hQ := hQ.2 c_50
          refine lv_lload_n hx hb d_Md_foretold_31 rfl (lv_at hl 1 rfl) ?_
          refine lv_aload_n hx hb d_Md_foretold_32 rfl (lv_at hl 0 rfl) ?_
          refine tw_getr (D := (dC, dI)) (C := R_Md) (T := F_Md) (N := 64) (ci := 7) (kd := 27) (ct := ct) hx hb htb i_Md hown hK hP hO_0 m0 rfl rfl 59 (by decide) (htb (.fieldLink R_Md 173 "WaterMenModel" "boxIn" "[J") tw_213) (fun _ h9 => h9) rfl d_Md_foretold_33 (fun q_73 e_73 m_73 => ?_)
          have hQ := hQ q_73 e_73
          refine lv_iload_n hx hb d_Md_foretold_36 rfl (lv_at hl 2 rfl) ?_
          refine tw_aldJ (ct := ct) hx hb hK hP m_73 rfl ((fun (a_0 : Int32) (a_1 : Int32) (k_0 : ¬ (a_1 < 0)) (k_1 : ¬ (a_0 < a_1)) (k_2 : ¬ (499 < a_0)) => (show vp_in (a_1) 500 from by have z0 : (0 : Int32).toInt = 0 := (by decide +kernel); have z1 : (499 : Int32).toInt = 499 := (by decide +kernel); have r0 := fb_rng (a_0); have r1 := fb_rng (a_1); have e0 := k_0; rw [Int32.lt_iff_toInt_lt, z0] at e0; have e1 := k_1; rw [Int32.lt_iff_toInt_lt] at e1; have e2 := k_2; rw [Int32.lt_iff_toInt_lt, z1] at e2; rw [vp_in_iff]; omega)) r_45 v3_44 iv0_44 c_50 po_47) d_Md_foretold_37 (fun x_74 e_74 => ?_)
          have hQ := hQ x_74 e_74
          refine lv_ladd hx hb d_Md_foretold_38 ?_
          refine hb_eql (fun y_75 hy_75 => ?_)
          have hQ := hQ y_75 hy_75
          refine lv_lstore_n (lv' := [(1, .long y_75), (0, .ref q0), (3, .int v3_44)]) hx hb d_Md_foretold_39 rfl hl (by decide) rfl (fun ls hl => ?_)
          refine lv_iinc (v := (v3_44 + 1)) (lv' := [(3, .int (v3_44 + 1)), (1, .long y_75), (0, .ref q0)]) hx hb d_Md_foretold_40 hl (k := 2) rfl rfl (by decide) rfl (fun ls hl => ?_)
          refine lv_goto (tgt := 23) hx hb d_Md_foretold_43 (by decide) ?_
          exact ih_44 (n_44 - 1) (ms_1 ((fun (a_0 : Int32) (a_1 : Int32) (k_0 : ¬ (a_0 < a_1)) (k_1 : ¬ (499 < a_0)) => (show 1 ≤ (500 : Int32).toInt - (a_1).toInt ∧ (500 : Int32).toInt - ((a_1) + (1 : Int32)).toInt + 1 ≤ (500 : Int32).toInt - (a_1).toInt from by have z0 : (1 : Int32).toInt = 1 := (by decide +kernel); have z1 : (499 : Int32).toInt = 499 := (by decide +kernel); have z2 : (500 : Int32).toInt = 500 := (by decide +kernel); have r0 := fb_rng (a_0); have r1 := fb_rng (a_1); have e0 := k_0; rw [Int32.lt_iff_toInt_lt] at e0; have e1 := k_1; rw [Int32.lt_iff_toInt_lt, z1] at e1; obtain ⟨n_0, hn_0, s0⟩ := nd_add (x := (a_1)) (y := (1 : Int32)) (by (try rw [z0]); omega) (by (try rw [z0]); omega); rw [z0] at s0; rw [hn_0]; (try rw [z2]); omega)) r_45 v3_44 c_50 po_47) hm_44) (v3_44 + 1) y_75 _ (show ¬ ((v3_44 + 1) < 0) from by have e0 := iv0_44; rw [Int32.lt_iff_toInt_lt] at e0; have e1 := iv1_44; rw [Int32.lt_iff_toInt_lt] at e1; have z0 : (0 : Int32).toInt = 0 := (by decide +kernel); have z1 : (1 : Int32).toInt = 1 := (by decide +kernel); have z2 : (500 : Int32).toInt = 500 := (by decide +kernel); have ss := fb_addI (x := v3_44) (y := 1) (by omega) (by omega); rw [Int32.lt_iff_toInt_lt]; omega) (show ¬ (500 < (v3_44 + 1)) from ((fun (a_0 : Int32) (a_1 : Int32) (k_0 : ¬ (a_0 < a_1)) (k_1 : ¬ (499 < a_0)) => (show ¬ (500 < (a_1 + 1)) from by have z0 : (1 : Int32).toInt = 1 := (by decide +kernel); have z1 : (499 : Int32).toInt = 499 := (by decide +kernel); have z2 : (500 : Int32).toInt = 500 := (by decide +kernel); have r0 := fb_rng (a_0); have r1 := fb_rng (a_1); have e0 := k_0; rw [Int32.lt_iff_toInt_lt] at e0; have e1 := k_1; rw [Int32.lt_iff_toInt_lt, z1] at e1; obtain ⟨n_0, hn_0, s0⟩ := nd_add (x := (a_1)) (y := (1 : Int32)) (by (try rw [z0]); omega) (by (try rw [z0]); omega); rw [z0] at s0; rw [hn_0, Int32.lt_iff_toInt_lt, z2]; omega)) r_45 v3_44 c_50 po_47)) (by exact ms_2 ((fun (a_0 : Int32) (a_1 : Int32) (k_0 : ¬ (a_0 < a_1)) (k_1 : ¬ (499 < a_0)) => (show 1 ≤ (500 : Int32).toInt - (a_1).toInt ∧ (500 : Int32).toInt - ((a_1) + (1 : Int32)).toInt + 1 ≤ (500 : Int32).toInt - (a_1).toInt from by have z0 : (1 : Int32).toInt = 1 := (by decide +kernel); have z1 : (499 : Int32).toInt = 499 := (by decide +kernel); have z2 : (500 : Int32).toInt = 500 := (by decide +kernel); have r0 := fb_rng (a_0); have r1 := fb_rng (a_1); have e0 := k_0; rw [Int32.lt_iff_toInt_lt] at e0; have e1 := k_1; rw [Int32.lt_iff_toInt_lt, z1] at e1; obtain ⟨n_0, hn_0, s0⟩ := nd_add (x := (a_1)) (y := (1 : Int32)) (by (try rw [z0]); omega) (by (try rw [z0]); omega); rw [z0] at s0; rw [hn_0]; (try rw [z2]); omega)) r_45 v3_44 c_50 po_47) hm_44) (by rw [← hrec_44, wpR_Md_foretold_w_23_44_pos (ms_3 ((fun (a_0 : Int32) (a_1 : Int32) (k_0 : ¬ (a_0 < a_1)) (k_1 : ¬ (499 < a_0)) => (show 1 ≤ (500 : Int32).toInt - (a_1).toInt ∧ (500 : Int32).toInt - ((a_1) + (1 : Int32)).toInt + 1 ≤ (500 : Int32).toInt - (a_1).toInt from by have z0 : (1 : Int32).toInt = 1 := (by decide +kernel); have z1 : (499 : Int32).toInt = 499 := (by decide +kernel); have z2 : (500 : Int32).toInt = 500 := (by decide +kernel); have r0 := fb_rng (a_0); have r1 := fb_rng (a_1); have e0 := k_0; rw [Int32.lt_iff_toInt_lt] at e0; have e1 := k_1; rw [Int32.lt_iff_toInt_lt, z1] at e1; obtain ⟨n_0, hn_0, s0⟩ := nd_add (x := (a_1)) (y := (1 : Int32)) (by (try rw [z0]); omega) (by (try rw [z0]); omega); rw [z0] at s0; rw [hn_0]; (try rw [z2]); omega)) r_45 v3_44 c_50 po_47) hm_44)] at hQ; exact hQ) (lv_sub hl [2, 1, 0] rfl)
    exact cut_44 ((500 : Int32).toInt - (0 : Int32).toInt).toNat (0 : Int32) 0 _ (by decide +kernel) (by decide +kernel) (by exact ms_e _ _) hQ (lv_sub hl [2, 1, 0] rfl)
