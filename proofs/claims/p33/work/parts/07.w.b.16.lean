def wpB_WM_numberInForce_w_7_2 (L : List Nat) (f : TF) (q0 : Nat) (p_0 : Int32) (p_1 : Int32) (x_1 : Int32) (Q : Int32 → Prop) (rec_2 : Int32 → Prop) (v3_2 : Int32) : Prop := ((v3_2 < 0 → Q (-2)) ∧ (¬ (v3_2 < 0) → wp_WM_orderAt_w L f q0 v3_2 (fun (r_4 : Option Nat) => ((r_4 = none → rec_2 (v3_2 + (-1))) ∧ (∀ q_4 : Nat, r_4 = some q_4 → ∀ x_5 : Int32, ti f q_4 0 = x_5 → ((p_1 < x_5 → rec_2 (v3_2 + (-1))) ∧ (¬ (p_1 < x_5) → ∀ x_7 : Int32, ti f q_4 1 = x_7 → ((p_0 < x_7 → rec_2 (v3_2 + (-1))) ∧ (¬ (p_0 < x_7) → Q v3_2)))))))))
def wpL_WM_numberInForce_w_7_2 (L : List Nat) (f : TF) (q0 : Nat) (p_0 : Int32) (p_1 : Int32) (x_1 : Int32) (Q : Int32 → Prop) : Nat → Int32 → Prop
  | 0 => fun v3_2 => wpB_WM_numberInForce_w_7_2 L f q0 p_0 p_1 x_1 Q (fun _ => True) v3_2
  | n + 1 => fun v3_2 => wpB_WM_numberInForce_w_7_2 L f q0 p_0 p_1 x_1 Q (wpL_WM_numberInForce_w_7_2 L f q0 p_0 p_1 x_1 Q n) v3_2
def wpR_WM_numberInForce_w_7_2 (L : List Nat) (f : TF) (q0 : Nat) (p_0 : Int32) (p_1 : Int32) (x_1 : Int32) (Q : Int32 → Prop) : Nat → Int32 → Prop
  | 0 => fun _ => True
  | n + 1 => wpL_WM_numberInForce_w_7_2 L f q0 p_0 p_1 x_1 Q n
theorem wpL_WM_numberInForce_w_7_2_eq {L : List Nat} {f : TF} {q0 : Nat} {p_0 : Int32} {p_1 : Int32} {x_1 : Int32} {Q : Int32 → Prop} {n : Nat} : wpL_WM_numberInForce_w_7_2 L f q0 p_0 p_1 x_1 Q n = wpB_WM_numberInForce_w_7_2 L f q0 p_0 p_1 x_1 Q (wpR_WM_numberInForce_w_7_2 L f q0 p_0 p_1 x_1 Q n) := by cases n <;> rfl
theorem wpR_WM_numberInForce_w_7_2_pos {L : List Nat} {f : TF} {q0 : Nat} {p_0 : Int32} {p_1 : Int32} {x_1 : Int32} {Q : Int32 → Prop} {n : Nat} (h : 0 < n) : wpR_WM_numberInForce_w_7_2 L f q0 p_0 p_1 x_1 Q n = wpL_WM_numberInForce_w_7_2 L f q0 p_0 p_1 x_1 Q (n - 1) := by
  cases n with
  | zero => omega
  | succ n => rfl
def wp_WM_numberInForce_w (L : List Nat) (f : TF) (q0 : Nat) (p_0 : Int32) (p_1 : Int32) (Q : Int32 → Prop) : Prop := ∀ x_1 : Int32, ti f q0 8 = x_1 → wpL_WM_numberInForce_w_7_2 L f q0 p_0 p_1 x_1 Q ((((x_1 - 1) : Int32).toInt - (-1 : Int32).toInt).toNat) (x_1 - 1)
set_option maxHeartbeats 4000000 in
set_option maxRecDepth 100000 in
theorem c_WM_numberInForce_w (l : Launch) (dC : Nat → ClassId) (dI : Nat → Nat → Nat) (ct : Nat → ClassId) (L : List Nat) (f : TF) (hO_0 : Ok L f) (q0 : Nat) (m0 : q0 ∈ L ∧ tk f q0 = 0) (p_0 : Int32) (p_1 : Int32)   (Q : Int32 → Prop) (hQ : wp_WM_numberInForce_w L f q0 p_0 p_1 Q) : Met l y_WM_numberInForce (.code y_WM_numberInForce b_WM_numberInForce 5 (some .int) :: TB) ({ frames := 1, cells := 0, slots := 0, locals := 21 }) (va_Pc [.ref q0, .int p_0, .int p_1] (PR dC dI (TW ct L f) (TT ct))) (vp_Si (fun r => (True) ∧ Q r)) 0 0 (fun _ => False) := by
  refine Met.ofW (cc := b_WM_numberInForce) (maxL := 5) (ret := (some .int)) (by decide) rfl ?_
  intro p e s m args below meth c s₁ B hml hv
  obtain ⟨rfl, hP, hK, hN⟩ := hv
  have hx := B.exec
  have hb := B.bytes
  have hr := B.returns
  have hts := atoms_spec (ws := (.code y_WM_numberInForce b_WM_numberInForce 5 (some .int) :: TB)) B.pre
  have htb := fun w (h : w ∈ TB) => hts w (List.mem_cons_of_mem _ h)
  have hown : s.vm.findClass R_WM = some m.cls := findClass_of_methodNamed B.named
  have hlocks := B.notSynchronized
  have hl := lv_entry ([.ref q0, .int p_0, .int p_1]) (n := 5) (Nat.le_of_ble_eq_true rfl)
  rw [lg_entry_eq]
  generalize (lg_sl ([.ref q0, .int p_0, .int p_1]) ++ List.replicate (5 - (lg_sl ([.ref q0, .int p_0, .int p_1])).length) Slot.unset).toArray = ls at hl ⊢
  have hl : lv_has ls 5 [(0, .ref q0), (1, .int p_0), (2, .int p_1)] := hl
  unfold wp_WM_numberInForce_w at hQ
  refine lv_aload_n hx hb d_WM_numberInForce_0 rfl (lv_at hl 0 rfl) ?_
  refine tw_geti (D := (dC, dI)) (C := R_WM) (T := F_WM) (N := 13) (ci := 0) (kd := 0) (ct := ct) hx hb htb i_WM hown hK hP hO_0 m0 rfl rfl 8 (by decide) (htb (.fieldLink R_WM 210 "WaterMen" "orderCount" "I") tw_244) (fun _ h9 => h9) rfl d_WM_numberInForce_1 (fun x_1 e_1 b_1 => ?_)
  have hQ := hQ x_1 e_1
  refine lv_iconst (v := 1) hx hb d_WM_numberInForce_4 (by decide +kernel) ?_
  refine lv_isub hx hb d_WM_numberInForce_5 ?_
  refine lv_istore_n (lv' := [(3, .int (x_1 - 1)), (0, .ref q0), (1, .int p_0), (2, .int p_1)]) hx hb d_WM_numberInForce_6 rfl hl (by decide) rfl (fun ls hl => ?_)
  have cut_2 : ∀ (n_2 : Nat) (v3_2 : Int32) (ls : Array Slot), ¬ (v3_2 < (-1)) → ¬ (19 < v3_2) → (v3_2 : Int32).toInt - (-1 : Int32).toInt ≤ (n_2 : Int) → wpL_WM_numberInForce_w_7_2 L f q0 p_0 p_1 x_1 Q n_2 v3_2 → lv_has ls 5 [(0, .ref q0), (1, .int p_0), (2, .int p_1), (3, .int v3_2)] → W p l e (headSpec (.code y_WM_numberInForce b_WM_numberInForce 5 (some .int) :: TB) ({ frames := 1, cells := 0, slots := 0, locals := 21 })).room s m [.ref q0, .int p_0, .int p_1].toArray below meth c s.heap [] 0 0 (MQ below (vp_Si (fun r => (True) ∧ Q r)) [.ref q0, .int p_0, .int p_1].toArray s 0 0 (fun _ => False)) (F0 m 7 ls []) := by
    intro n_2
    induction n_2 using Nat.strongRecOn with
    | _ n_2 ih_2 =>
      intro v3_2 ls iv0_2 iv1_2 hm_2 hQ hl
      rw [wpL_WM_numberInForce_w_7_2_eq] at hQ
      obtain ⟨rec_2, hrec_2⟩ : ∃ g, wpR_WM_numberInForce_w_7_2 L f q0 p_0 p_1 x_1 Q n_2 = g := ⟨_, rfl⟩
      rw [hrec_2] at hQ
      unfold wpB_WM_numberInForce_w_7_2 at hQ
      refine lv_iload_n hx hb d_WM_numberInForce_7 rfl (lv_at hl 3 rfl) ?_
      refine lv_if_lt (tgt := 49) hx hb d_WM_numberInForce_8 (by decide) (fun c_3 => ?_) (fun c_3 => ?_)
      · have hQ := hQ.1 c_3
        refine lv_bipush (v := (-2)) hx hb d_WM_numberInForce_49 (by decide +kernel) ?_
        exact W.iret (v := (-2)) hx hb hr (fun t ht hW => ⟨(-2), rfl, ⟨trivial, hQ⟩, ht⟩) t_nil d_WM_numberInForce_51
      · have hQ := hQ.2 c_3
        refine lv_aload_n hx hb d_WM_numberInForce_11 rfl (lv_at hl 0 rfl) ?_
        refine lv_iload_n hx hb d_WM_numberInForce_12 rfl (lv_at hl 3 rfl) ?_
        refine va_csq (va_Run.run (va_runV (As := [.int v3_2]) (rest := []) ⟨hx, hb, hml, hown, htb⟩ (c_WM_orderAt_w l dC dI ct L f hO_0 q0 m0 v3_2 _ hQ) (cwV 1 htb (gd_V tw_386 tw_387 tw_388 tw_26 tw_385) rfl rfl rfl (by decide +kernel) ⟨Nat.le_of_ble_eq_true rfl, Nat.le_of_ble_eq_true rfl⟩) ⟨pr_blind, tw_recv hK hP m0 rfl rfl, pr_pre hP hK hN⟩ rfl rfl hl.1 rfl (lv_room (Nat.le_of_ble_eq_true rfl)) d_WM_numberInForce_13 ⟨Nat.le_of_ble_eq_true rfl, Nat.le_of_ble_eq_true rfl⟩)) (fun r_4 er_4 => ?_)
        obtain ⟨er_4, hQ⟩ := er_4
        rcases er_4 with rfl | ⟨q_4, rfl, m_4⟩
        · have hQ := hQ.1 rfl
          refine hb_tv .null rfl ?_
          refine lv_astoreN (lv' := [(4, .null), (0, .ref q0), (1, .int p_0), (2, .int p_1), (3, .int v3_2)]) hx hb d_WM_numberInForce_16 hl (by decide) rfl (fun ls hl => ?_)
          refine lv_aloadN hx hb d_WM_numberInForce_18 (lv_at hl 0 rfl) ?_
          refine lv_ifnullN (tgt := 43) hx hb d_WM_numberInForce_20 (by decide) ?_
          refine lv_iinc (v := (v3_2 + (-1))) (lv' := [(3, .int (v3_2 + (-1))), (4, .null), (0, .ref q0), (1, .int p_0), (2, .int p_1)]) hx hb d_WM_numberInForce_43 hl (k := 4) rfl rfl (by decide) rfl (fun ls hl => ?_)
          refine lv_goto (tgt := 7) hx hb d_WM_numberInForce_46 (by decide) ?_
          exact ih_2 (n_2 - 1) (ms_1 ((fun (a_0 : Int32) (k_0 : ¬ (a_0 < 0)) => (show 1 ≤ (a_0).toInt - (-1 : Int32).toInt ∧ ((a_0) + (-1 : Int32)).toInt - (-1 : Int32).toInt + 1 ≤ (a_0).toInt - (-1 : Int32).toInt from by have z0 : (-1 : Int32).toInt = -1 := (by decide +kernel); have z1 : (0 : Int32).toInt = 0 := (by decide +kernel); have r0 := fb_rng (a_0); have e0 := k_0; rw [Int32.lt_iff_toInt_lt, z1] at e0; obtain ⟨n_0, hn_0, s0⟩ := nd_add (x := (a_0)) (y := (-1 : Int32)) (by (try rw [z0]); omega) (by (try rw [z0]); omega); rw [z0] at s0; rw [hn_0]; (try rw [z0]); omega)) v3_2 c_3) hm_2) (v3_2 + (-1)) _ (show ¬ ((v3_2 + (-1)) < (-1)) from ((fun (a_0 : Int32) (k_0 : ¬ (a_0 < 0)) => (show ¬ ((a_0 + (-1)) < (-1)) from by have z0 : (-1 : Int32).toInt = -1 := (by decide +kernel); have z1 : (0 : Int32).toInt = 0 := (by decide +kernel); have r0 := fb_rng (a_0); have e0 := k_0; rw [Int32.lt_iff_toInt_lt, z1] at e0; obtain ⟨n_0, hn_0, s0⟩ := nd_add (x := (a_0)) (y := (-1 : Int32)) (by (try rw [z0]); omega) (by (try rw [z0]); omega); rw [z0] at s0; rw [hn_0, Int32.lt_iff_toInt_lt, z0]; omega)) v3_2 c_3)) (show ¬ (19 < (v3_2 + (-1))) from ((fun (a_0 : Int32) (k_0 : ¬ (19 < a_0)) (k_1 : ¬ (a_0 < 0)) => (show ¬ (19 < (a_0 + (-1))) from by have z0 : (-1 : Int32).toInt = -1 := (by decide +kernel); have z1 : (0 : Int32).toInt = 0 := (by decide +kernel); have z2 : (19 : Int32).toInt = 19 := (by decide +kernel); have r0 := fb_rng (a_0); have e0 := k_0; rw [Int32.lt_iff_toInt_lt, z2] at e0; have e1 := k_1; rw [Int32.lt_iff_toInt_lt, z1] at e1; obtain ⟨n_0, hn_0, s0⟩ := nd_add (x := (a_0)) (y := (-1 : Int32)) (by (try rw [z0]); omega) (by (try rw [z0]); omega); rw [z0] at s0; rw [hn_0, Int32.lt_iff_toInt_lt, z2]; omega)) v3_2 iv1_2 c_3)) (by exact ms_2 ((fun (a_0 : Int32) (k_0 : ¬ (a_0 < 0)) => (show 1 ≤ (a_0).toInt - (-1 : Int32).toInt ∧ ((a_0) + (-1 : Int32)).toInt - (-1 : Int32).toInt + 1 ≤ (a_0).toInt - (-1 : Int32).toInt from by have z0 : (-1 : Int32).toInt = -1 := (by decide +kernel); have z1 : (0 : Int32).toInt = 0 := (by decide +kernel); have r0 := fb_rng (a_0); have e0 := k_0; rw [Int32.lt_iff_toInt_lt, z1] at e0; obtain ⟨n_0, hn_0, s0⟩ := nd_add (x := (a_0)) (y := (-1 : Int32)) (by (try rw [z0]); omega) (by (try rw [z0]); omega); rw [z0] at s0; rw [hn_0]; (try rw [z0]); omega)) v3_2 c_3) hm_2) (by rw [← hrec_2, wpR_WM_numberInForce_w_7_2_pos (ms_3 ((fun (a_0 : Int32) (k_0 : ¬ (a_0 < 0)) => (show 1 ≤ (a_0).toInt - (-1 : Int32).toInt ∧ ((a_0) + (-1 : Int32)).toInt - (-1 : Int32).toInt + 1 ≤ (a_0).toInt - (-1 : Int32).toInt from by have z0 : (-1 : Int32).toInt = -1 := (by decide +kernel); have z1 : (0 : Int32).toInt = 0 := (by decide +kernel); have r0 := fb_rng (a_0); have e0 := k_0; rw [Int32.lt_iff_toInt_lt, z1] at e0; obtain ⟨n_0, hn_0, s0⟩ := nd_add (x := (a_0)) (y := (-1 : Int32)) (by (try rw [z0]); omega) (by (try rw [z0]); omega); rw [z0] at s0; rw [hn_0]; (try rw [z0]); omega)) v3_2 c_3) hm_2)] at hQ; exact hQ) (lv_sub hl [2, 3, 4, 0] rfl)
        · have hQ := hQ.2 q_4 rfl
          refine hb_tv (.ref q_4) rfl ?_
          refine lv_astore (lv' := [(4, .ref q_4), (0, .ref q0), (1, .int p_0), (2, .int p_1), (3, .int v3_2)]) hx hb d_WM_numberInForce_16 hl (by decide) rfl (fun ls hl => ?_)
          refine lv_aload hx hb d_WM_numberInForce_18 (lv_at hl 0 rfl) ?_
          refine lv_ifnull hx hb d_WM_numberInForce_20 ?_
          refine lv_aload hx hb d_WM_numberInForce_23 (lv_at hl 0 rfl) ?_
          refine tw_geti (D := (dC, dI)) (C := R_Or) (T := F_Or) (N := 9) (ci := 3) (kd := 15) (ct := ct) hx hb htb i_Or hown hK hP hO_0 m_4 rfl rfl 0 (by decide) (htb (.fieldLink R_WM 220 "WaterMen$Order" "madeOn" "I") tw_324) (fun _ h9 => h9) rfl d_WM_numberInForce_25 (fun x_5 e_5 b_5 => ?_)
          have hQ := hQ x_5 e_5
          refine lv_iload_n hx hb d_WM_numberInForce_28 rfl (lv_at hl 3 rfl) ?_
          refine lv_icmp_gt (tgt := 43) hx hb d_WM_numberInForce_29 (by decide) (fun c_6 => ?_) (fun c_6 => ?_)
          · have hQ := hQ.1 c_6
            refine lv_iinc (v := (v3_2 + (-1))) (lv' := [(3, .int (v3_2 + (-1))), (4, .ref q_4), (0, .ref q0), (1, .int p_0), (2, .int p_1)]) hx hb d_WM_numberInForce_43 hl (k := 4) rfl rfl (by decide) rfl (fun ls hl => ?_)
            refine lv_goto (tgt := 7) hx hb d_WM_numberInForce_46 (by decide) ?_
            exact ih_2 (n_2 - 1) (ms_1 ((fun (a_0 : Int32) (k_0 : ¬ (a_0 < 0)) => (show 1 ≤ (a_0).toInt - (-1 : Int32).toInt ∧ ((a_0) + (-1 : Int32)).toInt - (-1 : Int32).toInt + 1 ≤ (a_0).toInt - (-1 : Int32).toInt from by have z0 : (-1 : Int32).toInt = -1 := (by decide +kernel); have z1 : (0 : Int32).toInt = 0 := (by decide +kernel); have r0 := fb_rng (a_0); have e0 := k_0; rw [Int32.lt_iff_toInt_lt, z1] at e0; obtain ⟨n_0, hn_0, s0⟩ := nd_add (x := (a_0)) (y := (-1 : Int32)) (by (try rw [z0]); omega) (by (try rw [z0]); omega); rw [z0] at s0; rw [hn_0]; (try rw [z0]); omega)) v3_2 c_3) hm_2) (v3_2 + (-1)) _ (show ¬ ((v3_2 + (-1)) < (-1)) from ((fun (a_0 : Int32) (k_0 : ¬ (a_0 < 0)) => (show ¬ ((a_0 + (-1)) < (-1)) from by have z0 : (-1 : Int32).toInt = -1 := (by decide +kernel); have z1 : (0 : Int32).toInt = 0 := (by decide +kernel); have r0 := fb_rng (a_0); have e0 := k_0; rw [Int32.lt_iff_toInt_lt, z1] at e0; obtain ⟨n_0, hn_0, s0⟩ := nd_add (x := (a_0)) (y := (-1 : Int32)) (by (try rw [z0]); omega) (by (try rw [z0]); omega); rw [z0] at s0; rw [hn_0, Int32.lt_iff_toInt_lt, z0]; omega)) v3_2 c_3)) (show ¬ (19 < (v3_2 + (-1))) from ((fun (a_0 : Int32) (k_0 : ¬ (19 < a_0)) (k_1 : ¬ (a_0 < 0)) => (show ¬ (19 < (a_0 + (-1))) from by have z0 : (-1 : Int32).toInt = -1 := (by decide +kernel); have z1 : (0 : Int32).toInt = 0 := (by decide +kernel); have z2 : (19 : Int32).toInt = 19 := (by decide +kernel); have r0 := fb_rng (a_0); have e0 := k_0; rw [Int32.lt_iff_toInt_lt, z2] at e0; have e1 := k_1; rw [Int32.lt_iff_toInt_lt, z1] at e1; obtain ⟨n_0, hn_0, s0⟩ := nd_add (x := (a_0)) (y := (-1 : Int32)) (by (try rw [z0]); omega) (by (try rw [z0]); omega); rw [z0] at s0; rw [hn_0, Int32.lt_iff_toInt_lt, z2]; omega)) v3_2 iv1_2 c_3)) (by exact ms_2 ((fun (a_0 : Int32) (k_0 : ¬ (a_0 < 0)) => (show 1 ≤ (a_0).toInt - (-1 : Int32).toInt ∧ ((a_0) + (-1 : Int32)).toInt - (-1 : Int32).toInt + 1 ≤ (a_0).toInt - (-1 : Int32).toInt from by have z0 : (-1 : Int32).toInt = -1 := (by decide +kernel); have z1 : (0 : Int32).toInt = 0 := (by decide +kernel); have r0 := fb_rng (a_0); have e0 := k_0; rw [Int32.lt_iff_toInt_lt, z1] at e0; obtain ⟨n_0, hn_0, s0⟩ := nd_add (x := (a_0)) (y := (-1 : Int32)) (by (try rw [z0]); omega) (by (try rw [z0]); omega); rw [z0] at s0; rw [hn_0]; (try rw [z0]); omega)) v3_2 c_3) hm_2) (by rw [← hrec_2, wpR_WM_numberInForce_w_7_2_pos (ms_3 ((fun (a_0 : Int32) (k_0 : ¬ (a_0 < 0)) => (show 1 ≤ (a_0).toInt - (-1 : Int32).toInt ∧ ((a_0) + (-1 : Int32)).toInt - (-1 : Int32).toInt + 1 ≤ (a_0).toInt - (-1 : Int32).toInt from by have z0 : (-1 : Int32).toInt = -1 := (by decide +kernel); have z1 : (0 : Int32).toInt = 0 := (by decide +kernel); have r0 := fb_rng (a_0); have e0 := k_0; rw [Int32.lt_iff_toInt_lt, z1] at e0; obtain ⟨n_0, hn_0, s0⟩ := nd_add (x := (a_0)) (y := (-1 : Int32)) (by (try rw [z0]); omega) (by (try rw [z0]); omega); rw [z0] at s0; rw [hn_0]; (try rw [z0]); omega)) v3_2 c_3) hm_2)] at hQ; exact hQ) (lv_sub hl [2, 3, 4, 0] rfl)
          · have hQ := hQ.2 c_6
            refine lv_aload hx hb d_WM_numberInForce_32 (lv_at hl 0 rfl) ?_
            refine tw_geti (D := (dC, dI)) (C := R_Or) (T := F_Or) (N := 9) (ci := 3) (kd := 15) (ct := ct) hx hb htb i_Or hown hK hP hO_0 m_4 rfl rfl 1 (by decide) (htb (.fieldLink R_WM 217 "WaterMen$Order" "inForceFrom" "I") tw_323) (fun _ h9 => h9) rfl d_WM_numberInForce_34 (fun x_7 e_7 b_7 => ?_)
            have hQ := hQ x_7 e_7
            refine lv_iload_n hx hb d_WM_numberInForce_37 rfl (lv_at hl 2 rfl) ?_
            refine lv_icmp_gt (tgt := 43) hx hb d_WM_numberInForce_38 (by decide) (fun c_8 => ?_) (fun c_8 => ?_)
            · have hQ := hQ.1 c_8
              refine lv_iinc (v := (v3_2 + (-1))) (lv' := [(3, .int (v3_2 + (-1))), (4, .ref q_4), (0, .ref q0), (1, .int p_0), (2, .int p_1)]) hx hb d_WM_numberInForce_43 hl (k := 4) rfl rfl (by decide) rfl (fun ls hl => ?_)
              refine lv_goto (tgt := 7) hx hb d_WM_numberInForce_46 (by decide) ?_
              exact ih_2 (n_2 - 1) (ms_1 ((fun (a_0 : Int32) (k_0 : ¬ (a_0 < 0)) => (show 1 ≤ (a_0).toInt - (-1 : Int32).toInt ∧ ((a_0) + (-1 : Int32)).toInt - (-1 : Int32).toInt + 1 ≤ (a_0).toInt - (-1 : Int32).toInt from by have z0 : (-1 : Int32).toInt = -1 := (by decide +kernel); have z1 : (0 : Int32).toInt = 0 := (by decide +kernel); have r0 := fb_rng (a_0); have e0 := k_0; rw [Int32.lt_iff_toInt_lt, z1] at e0; obtain ⟨n_0, hn_0, s0⟩ := nd_add (x := (a_0)) (y := (-1 : Int32)) (by (try rw [z0]); omega) (by (try rw [z0]); omega); rw [z0] at s0; rw [hn_0]; (try rw [z0]); omega)) v3_2 c_3) hm_2) (v3_2 + (-1)) _ (show ¬ ((v3_2 + (-1)) < (-1)) from ((fun (a_0 : Int32) (k_0 : ¬ (a_0 < 0)) => (show ¬ ((a_0 + (-1)) < (-1)) from by have z0 : (-1 : Int32).toInt = -1 := (by decide +kernel); have z1 : (0 : Int32).toInt = 0 := (by decide +kernel); have r0 := fb_rng (a_0); have e0 := k_0; rw [Int32.lt_iff_toInt_lt, z1] at e0; obtain ⟨n_0, hn_0, s0⟩ := nd_add (x := (a_0)) (y := (-1 : Int32)) (by (try rw [z0]); omega) (by (try rw [z0]); omega); rw [z0] at s0; rw [hn_0, Int32.lt_iff_toInt_lt, z0]; omega)) v3_2 c_3)) (show ¬ (19 < (v3_2 + (-1))) from ((fun (a_0 : Int32) (k_0 : ¬ (19 < a_0)) (k_1 : ¬ (a_0 < 0)) => (show ¬ (19 < (a_0 + (-1))) from by have z0 : (-1 : Int32).toInt = -1 := (by decide +kernel); have z1 : (0 : Int32).toInt = 0 := (by decide +kernel); have z2 : (19 : Int32).toInt = 19 := (by decide +kernel); have r0 := fb_rng (a_0); have e0 := k_0; rw [Int32.lt_iff_toInt_lt, z2] at e0; have e1 := k_1; rw [Int32.lt_iff_toInt_lt, z1] at e1; obtain ⟨n_0, hn_0, s0⟩ := nd_add (x := (a_0)) (y := (-1 : Int32)) (by (try rw [z0]); omega) (by (try rw [z0]); omega); rw [z0] at s0; rw [hn_0, Int32.lt_iff_toInt_lt, z2]; omega)) v3_2 iv1_2 c_3)) (by exact ms_2 ((fun (a_0 : Int32) (k_0 : ¬ (a_0 < 0)) => (show 1 ≤ (a_0).toInt - (-1 : Int32).toInt ∧ ((a_0) + (-1 : Int32)).toInt - (-1 : Int32).toInt + 1 ≤ (a_0).toInt - (-1 : Int32).toInt from by have z0 : (-1 : Int32).toInt = -1 := (by decide +kernel); have z1 : (0 : Int32).toInt = 0 := (by decide +kernel); have r0 := fb_rng (a_0); have e0 := k_0; rw [Int32.lt_iff_toInt_lt, z1] at e0; obtain ⟨n_0, hn_0, s0⟩ := nd_add (x := (a_0)) (y := (-1 : Int32)) (by (try rw [z0]); omega) (by (try rw [z0]); omega); rw [z0] at s0; rw [hn_0]; (try rw [z0]); omega)) v3_2 c_3) hm_2) (by rw [← hrec_2, wpR_WM_numberInForce_w_7_2_pos (ms_3 ((fun (a_0 : Int32) (k_0 : ¬ (a_0 < 0)) => (show 1 ≤ (a_0).toInt - (-1 : Int32).toInt ∧ ((a_0) + (-1 : Int32)).toInt - (-1 : Int32).toInt + 1 ≤ (a_0).toInt - (-1 : Int32).toInt from by have z0 : (-1 : Int32).toInt = -1 := (by decide +kernel); have z1 : (0 : Int32).toInt = 0 := (by decide +kernel); have r0 := fb_rng (a_0); have e0 := k_0; rw [Int32.lt_iff_toInt_lt, z1] at e0; obtain ⟨n_0, hn_0, s0⟩ := nd_add (x := (a_0)) (y := (-1 : Int32)) (by (try rw [z0]); omega) (by (try rw [z0]); omega); rw [z0] at s0; rw [hn_0]; (try rw [z0]); omega)) v3_2 c_3) hm_2)] at hQ; exact hQ) (lv_sub hl [2, 3, 4, 0] rfl)
            · have hQ := hQ.2 c_8
              refine lv_iload_n hx hb d_WM_numberInForce_41 rfl (lv_at hl 4 rfl) ?_
              exact W.iret (v := v3_2) hx hb hr (fun t ht hW => ⟨v3_2, rfl, ⟨trivial, hQ⟩, ht⟩) t_nil d_WM_numberInForce_42
  exact cut_2 (((x_1 - 1) : Int32).toInt - (-1 : Int32).toInt).toNat (x_1 - 1) _ (show ¬ ((x_1 - 1) < (-1)) from by have e0 := b_1.1; rw [Int32.lt_iff_toInt_lt] at e0; have e1 := b_1.2; rw [Int32.lt_iff_toInt_lt] at e1; have z0 : ((-1) : Int32).toInt = -1 := (by decide +kernel); have z1 : (0 : Int32).toInt = 0 := (by decide +kernel); have z2 : (1 : Int32).toInt = 1 := (by decide +kernel); have z3 : (20 : Int32).toInt = 20 := (by decide +kernel); have ss := fb_subI (x := x_1) (y := 1) (by omega) (by omega); rw [Int32.lt_iff_toInt_lt]; omega) (show ¬ (19 < (x_1 - 1)) from by have e0 := b_1.1; rw [Int32.lt_iff_toInt_lt] at e0; have e1 := b_1.2; rw [Int32.lt_iff_toInt_lt] at e1; have z0 : (0 : Int32).toInt = 0 := (by decide +kernel); have z1 : (1 : Int32).toInt = 1 := (by decide +kernel); have z2 : (19 : Int32).toInt = 19 := (by decide +kernel); have z3 : (20 : Int32).toInt = 20 := (by decide +kernel); have ss := fb_subI (x := x_1) (y := 1) (by omega) (by omega); rw [Int32.lt_iff_toInt_lt]; omega) (by exact ms_e _ _) hQ (lv_sub hl [1, 2, 3, 0] rfl)
def wp_WM_inForce_w (L : List Nat) (f : TF) (q0 : Nat) (p_0 : Int32) (p_1 : Int32) (Q : Int32 → Prop) : Prop := ((p_0 < 0 → Q (-1)) ∧ (¬ (p_0 < 0) → ((500 ≤ p_0 → Q (-1)) ∧ (¬ (500 ≤ p_0) → ((p_1 < 0 → Q (-1)) ∧ (¬ (p_1 < 0) → ((500 ≤ p_1 → Q (-1)) ∧ (¬ (500 ≤ p_1) → wp_WM_numberInForce_w L f q0 p_0 p_1 (fun (r_7 : Int32) => Q r_7)))))))))
set_option maxHeartbeats 4000000 in
set_option maxRecDepth 100000 in
theorem c_WM_inForce_w (l : Launch) (dC : Nat → ClassId) (dI : Nat → Nat → Nat) (ct : Nat → ClassId) (L : List Nat) (f : TF) (hO_0 : Ok L f) (q0 : Nat) (m0 : q0 ∈ L ∧ tk f q0 = 0) (p_0 : Int32) (p_1 : Int32)   (Q : Int32 → Prop) (hQ : wp_WM_inForce_w L f q0 p_0 p_1 Q) : Met l y_WM_inForce (.code y_WM_inForce b_WM_inForce 3 (some .int) :: TB) ({ frames := 2, cells := 0, slots := 0, locals := 45 }) (va_Pc [.ref q0, .int p_0, .int p_1] (PR dC dI (TW ct L f) (TT ct))) (vp_Si (fun r => (True) ∧ Q r)) 0 0 (fun _ => False) := by
  refine Met.ofW (cc := b_WM_inForce) (maxL := 3) (ret := (some .int)) (by decide) rfl ?_
  intro p e s m args below meth c s₁ B hml hv
  obtain ⟨rfl, hP, hK, hN⟩ := hv
  have hx := B.exec
  have hb := B.bytes
  have hr := B.returns
  have hts := atoms_spec (ws := (.code y_WM_inForce b_WM_inForce 3 (some .int) :: TB)) B.pre
  have htb := fun w (h : w ∈ TB) => hts w (List.mem_cons_of_mem _ h)
  have hown : s.vm.findClass R_WM = some m.cls := findClass_of_methodNamed B.named
  have hlocks := B.notSynchronized
  have hl := lv_entry ([.ref q0, .int p_0, .int p_1]) (n := 3) (Nat.le_of_ble_eq_true rfl)
  rw [lg_entry_eq]
  generalize (lg_sl ([.ref q0, .int p_0, .int p_1]) ++ List.replicate (3 - (lg_sl ([.ref q0, .int p_0, .int p_1])).length) Slot.unset).toArray = ls at hl ⊢
  have hl : lv_has ls 3 [(0, .ref q0), (1, .int p_0), (2, .int p_1)] := hl
  unfold wp_WM_inForce_w at hQ
  refine lv_iload_n hx hb d_WM_inForce_0 rfl (lv_at hl 1 rfl) ?_
  refine vp_callSi (va_Run.run (va_runS (As := [.int p_0]) (rest := []) ⟨hx, hb, hml, hown, htb⟩ (c_WM_isDay l p_0) (cwS 1 htb (gd_S tw_127 tw_128 tw_26 tw_126) rfl rfl rfl (by decide +kernel) ⟨Nat.le_of_ble_eq_true rfl, Nat.le_of_ble_eq_true rfl⟩) ⟨fun _ _ _ _ h => h, fun U _ _ => ⟨rfl, trivial⟩⟩ rfl rfl hl.1 rfl (lv_room (Nat.le_of_ble_eq_true rfl)) d_WM_inForce_1 ⟨Nat.le_of_ble_eq_true rfl, Nat.le_of_ble_eq_true rfl⟩)) (fun r er => ?_)
  subst er
  by_cases c_2 : p_0 < 0
  · have hQ := hQ.1 c_2
    refine hb_ti 0 (by unfold f_WM_isDay; rw [if_pos c_2]; first | done | rfl) ?_
    refine lv_if_eq (tgt := 23) hx hb d_WM_inForce_4 (by decide) (fun _ => ?_) (fun h => absurd (by decide +kernel) h)
    refine lv_iconst (v := (-1)) hx hb d_WM_inForce_23 (by decide +kernel) ?_
    exact W.iret (v := (-1)) hx hb hr (fun t ht hW => ⟨(-1), rfl, ⟨trivial, hQ⟩, ht⟩) t_nil d_WM_inForce_24
  · have hQ := hQ.2 c_2
    by_cases c_3 : 500 ≤ p_0
    · have hQ := hQ.1 c_3
      refine hb_ti 0 (by unfold f_WM_isDay; rw [if_neg c_2, if_pos c_3]; first | done | rfl) ?_
      refine lv_if_eq (tgt := 23) hx hb d_WM_inForce_4 (by decide) (fun _ => ?_) (fun h => absurd (by decide +kernel) h)
      refine lv_iconst (v := (-1)) hx hb d_WM_inForce_23 (by decide +kernel) ?_
      exact W.iret (v := (-1)) hx hb hr (fun t ht hW => ⟨(-1), rfl, ⟨trivial, hQ⟩, ht⟩) t_nil d_WM_inForce_24
    · have hQ := hQ.2 c_3
      refine hb_ti 1 (by unfold f_WM_isDay; rw [if_neg c_2, if_neg c_3]; first | done | rfl) ?_
      refine lv_if_eq (tgt := 23) hx hb d_WM_inForce_4 (by decide) (fun h => absurd h (by decide +kernel)) (fun _ => ?_)
      refine lv_iload_n hx hb d_WM_inForce_7 rfl (lv_at hl 2 rfl) ?_
      refine vp_callSi (va_Run.run (va_runS (As := [.int p_1]) (rest := []) ⟨hx, hb, hml, hown, htb⟩ (c_WM_isDay l p_1) (cwS 1 htb (gd_S tw_127 tw_128 tw_26 tw_126) rfl rfl rfl (by decide +kernel) ⟨Nat.le_of_ble_eq_true rfl, Nat.le_of_ble_eq_true rfl⟩) ⟨fun _ _ _ _ h => h, fun U _ _ => ⟨rfl, trivial⟩⟩ rfl rfl hl.1 rfl (lv_room (Nat.le_of_ble_eq_true rfl)) d_WM_inForce_8 ⟨Nat.le_of_ble_eq_true rfl, Nat.le_of_ble_eq_true rfl⟩)) (fun r er => ?_)
      subst er
      by_cases c_5 : p_1 < 0
      · have hQ := hQ.1 c_5
        refine hb_ti 0 (by unfold f_WM_isDay; rw [if_pos c_5]; first | done | rfl) ?_
        refine lv_if_eq (tgt := 23) hx hb d_WM_inForce_11 (by decide) (fun _ => ?_) (fun h => absurd (by decide +kernel) h)
        refine lv_iconst (v := (-1)) hx hb d_WM_inForce_23 (by decide +kernel) ?_
        exact W.iret (v := (-1)) hx hb hr (fun t ht hW => ⟨(-1), rfl, ⟨trivial, hQ⟩, ht⟩) t_nil d_WM_inForce_24
      · have hQ := hQ.2 c_5
        by_cases c_6 : 500 ≤ p_1
        · have hQ := hQ.1 c_6
          refine hb_ti 0 (by unfold f_WM_isDay; rw [if_neg c_5, if_pos c_6]; first | done | rfl) ?_
          refine lv_if_eq (tgt := 23) hx hb d_WM_inForce_11 (by decide) (fun _ => ?_) (fun h => absurd (by decide +kernel) h)
          refine lv_iconst (v := (-1)) hx hb d_WM_inForce_23 (by decide +kernel) ?_
          exact W.iret (v := (-1)) hx hb hr (fun t ht hW => ⟨(-1), rfl, ⟨trivial, hQ⟩, ht⟩) t_nil d_WM_inForce_24
        · have hQ := hQ.2 c_6
          refine hb_ti 1 (by unfold f_WM_isDay; rw [if_neg c_5, if_neg c_6]; first | done | rfl) ?_
          refine lv_if_eq (tgt := 23) hx hb d_WM_inForce_11 (by decide) (fun h => absurd h (by decide +kernel)) (fun _ => ?_)
          refine lv_aload_n hx hb d_WM_inForce_14 rfl (lv_at hl 0 rfl) ?_
          refine lv_iload_n hx hb d_WM_inForce_15 rfl (lv_at hl 1 rfl) ?_
          refine lv_iload_n hx hb d_WM_inForce_16 rfl (lv_at hl 2 rfl) ?_
          refine vp_callSi (va_Run.run (va_runV (As := [.int p_0, .int p_1]) (rest := []) ⟨hx, hb, hml, hown, htb⟩ (c_WM_numberInForce_w l dC dI ct L f hO_0 q0 m0 p_0 p_1 _ hQ) (cwV 2 htb (gd_V tw_390 tw_391 tw_392 tw_26 tw_389) rfl rfl rfl (by decide +kernel) ⟨Nat.le_of_ble_eq_true rfl, Nat.le_of_ble_eq_true rfl⟩) ⟨pr_blind, tw_recv hK hP m0 rfl rfl, pr_pre hP hK hN⟩ rfl rfl hl.1 rfl (lv_room (Nat.le_of_ble_eq_true rfl)) d_WM_inForce_17 ⟨Nat.le_of_ble_eq_true rfl, Nat.le_of_ble_eq_true rfl⟩)) (fun r_7 er_7 => ?_)
          obtain ⟨er_7, hQ⟩ := er_7
          clear er_7
          refine lv_goto (tgt := 24) hx hb d_WM_inForce_20 (by decide) ?_
          exact W.iret (v := r_7) hx hb hr (fun t ht hW => ⟨r_7, rfl, ⟨trivial, hQ⟩, ht⟩) t_nil d_WM_inForce_24
def wpB_Md_forceOn_w_7_2 (L : List Nat) (f : TF) (q0 : Nat) (p_0 : Int32) (p_1 : Int32) (x_1 : Int32) (Q : Int32 → Prop) (rec_2 : Int32 → Prop) (v3_2 : Int32) : Prop := ((v3_2 < 0 → Q (-2)) ∧ (¬ (v3_2 < 0) → ∀ q_4 : Nat, tr f q0 31 = some q_4 → ∀ x_5 : Int32, ti f q_4 (v3_2 : Int32).toNatClampNeg = x_5 → ((p_1 < x_5 → rec_2 (v3_2 + (-1))) ∧ (¬ (p_1 < x_5) → ∀ q_7 : Nat, tr f q0 30 = some q_7 → ∀ x_8 : Int32, ti f q_7 (v3_2 : Int32).toNatClampNeg = x_8 → ((p_0 < x_8 → rec_2 (v3_2 + (-1))) ∧ (¬ (p_0 < x_8) → Q v3_2))))))
def wpL_Md_forceOn_w_7_2 (L : List Nat) (f : TF) (q0 : Nat) (p_0 : Int32) (p_1 : Int32) (x_1 : Int32) (Q : Int32 → Prop) : Nat → Int32 → Prop
  | 0 => fun v3_2 => wpB_Md_forceOn_w_7_2 L f q0 p_0 p_1 x_1 Q (fun _ => True) v3_2
  | n + 1 => fun v3_2 => wpB_Md_forceOn_w_7_2 L f q0 p_0 p_1 x_1 Q (wpL_Md_forceOn_w_7_2 L f q0 p_0 p_1 x_1 Q n) v3_2
def wpR_Md_forceOn_w_7_2 (L : List Nat) (f : TF) (q0 : Nat) (p_0 : Int32) (p_1 : Int32) (x_1 : Int32) (Q : Int32 → Prop) : Nat → Int32 → Prop
  | 0 => fun _ => True
  | n + 1 => wpL_Md_forceOn_w_7_2 L f q0 p_0 p_1 x_1 Q n
theorem wpL_Md_forceOn_w_7_2_eq {L : List Nat} {f : TF} {q0 : Nat} {p_0 : Int32} {p_1 : Int32} {x_1 : Int32} {Q : Int32 → Prop} {n : Nat} : wpL_Md_forceOn_w_7_2 L f q0 p_0 p_1 x_1 Q n = wpB_Md_forceOn_w_7_2 L f q0 p_0 p_1 x_1 Q (wpR_Md_forceOn_w_7_2 L f q0 p_0 p_1 x_1 Q n) := by cases n <;> rfl
theorem wpR_Md_forceOn_w_7_2_pos {L : List Nat} {f : TF} {q0 : Nat} {p_0 : Int32} {p_1 : Int32} {x_1 : Int32} {Q : Int32 → Prop} {n : Nat} (h : 0 < n) : wpR_Md_forceOn_w_7_2 L f q0 p_0 p_1 x_1 Q n = wpL_Md_forceOn_w_7_2 L f q0 p_0 p_1 x_1 Q (n - 1) := by
  cases n with
  | zero => omega
  | succ n => rfl
def wp_Md_forceOn_w (L : List Nat) (f : TF) (q0 : Nat) (p_0 : Int32) (p_1 : Int32) (Q : Int32 → Prop) : Prop := ∀ x_1 : Int32, ti f q0 29 = x_1 → wpL_Md_forceOn_w_7_2 L f q0 p_0 p_1 x_1 Q ((((x_1 - 1) : Int32).toInt - (-1 : Int32).toInt).toNat) (x_1 - 1)
set_option maxHeartbeats 4000000 in
set_option maxRecDepth 100000 in
theorem c_Md_forceOn_w (l : Launch) (dC : Nat → ClassId) (dI : Nat → Nat → Nat) (ct : Nat → ClassId) (L : List Nat) (f : TF) (hO_0 : Ok L f) (q0 : Nat) (m0 : q0 ∈ L ∧ tk f q0 = 27) (p_0 : Int32) (p_1 : Int32)   (Q : Int32 → Prop) (hQ : wp_Md_forceOn_w L f q0 p_0 p_1 Q) : Met l y_Md_forceOn (.code y_Md_forceOn b_Md_forceOn 4 (some .int) :: TB) ({ frames := 0, cells := 0, slots := 0, locals := 0 }) (va_Pc [.ref q0, .int p_0, .int p_1] (PR dC dI (TW ct L f) (TT ct))) (vp_Si (fun r => ((r = (-2) ∧ True) ∨ (¬ (r < 0) ∧ ¬ (19 < r) ∧ True)) ∧ Q r)) 0 0 (fun _ => False) := by
  refine Met.ofW (cc := b_Md_forceOn) (maxL := 4) (ret := (some .int)) (by decide) rfl ?_
  intro p e s m args below meth c s₁ B hml hv
  obtain ⟨rfl, hP, hK, hN⟩ := hv
  have hx := B.exec
  have hb := B.bytes
  have hr := B.returns
  have hts := atoms_spec (ws := (.code y_Md_forceOn b_Md_forceOn 4 (some .int) :: TB)) B.pre
  have htb := fun w (h : w ∈ TB) => hts w (List.mem_cons_of_mem _ h)
  have hown : s.vm.findClass R_Md = some m.cls := findClass_of_methodNamed B.named
  have hlocks := B.notSynchronized
  have hl := lv_entry ([.ref q0, .int p_0, .int p_1]) (n := 4) (Nat.le_of_ble_eq_true rfl)
  rw [lg_entry_eq]
  generalize (lg_sl ([.ref q0, .int p_0, .int p_1]) ++ List.replicate (4 - (lg_sl ([.ref q0, .int p_0, .int p_1])).length) Slot.unset).toArray = ls at hl ⊢
  have hl : lv_has ls 4 [(0, .ref q0), (1, .int p_0), (2, .int p_1)] := hl
  unfold wp_Md_forceOn_w at hQ
  refine lv_aload_n hx hb d_Md_forceOn_0 rfl (lv_at hl 0 rfl) ?_
  refine tw_geti (D := (dC, dI)) (C := R_Md) (T := F_Md) (N := 64) (ci := 7) (kd := 27) (ct := ct) hx hb htb i_Md hown hK hP hO_0 m0 rfl rfl 29 (by decide) (htb (.fieldLink R_Md 275 "WaterMenModel" "orders" "I") tw_333) (fun _ h9 => h9) rfl d_Md_forceOn_1 (fun x_1 e_1 b_1 => ?_)
  have hQ := hQ x_1 e_1
  refine lv_iconst (v := 1) hx hb d_Md_forceOn_4 (by decide +kernel) ?_
  refine lv_isub hx hb d_Md_forceOn_5 ?_
  refine lv_istore_n (lv' := [(3, .int (x_1 - 1)), (0, .ref q0), (1, .int p_0), (2, .int p_1)]) hx hb d_Md_forceOn_6 rfl hl (by decide) rfl (fun ls hl => ?_)
  have cut_2 : ∀ (n_2 : Nat) (v3_2 : Int32) (ls : Array Slot), ¬ (v3_2 < (-1)) → ¬ (19 < v3_2) → (v3_2 : Int32).toInt - (-1 : Int32).toInt ≤ (n_2 : Int) → wpL_Md_forceOn_w_7_2 L f q0 p_0 p_1 x_1 Q n_2 v3_2 → lv_has ls 4 [(0, .ref q0), (1, .int p_0), (2, .int p_1), (3, .int v3_2)] → W p l e (headSpec (.code y_Md_forceOn b_Md_forceOn 4 (some .int) :: TB) ({ frames := 0, cells := 0, slots := 0, locals := 0 })).room s m [.ref q0, .int p_0, .int p_1].toArray below meth c s.heap [] 0 0 (MQ below (vp_Si (fun r => ((r = (-2) ∧ True) ∨ (¬ (r < 0) ∧ ¬ (19 < r) ∧ True)) ∧ Q r)) [.ref q0, .int p_0, .int p_1].toArray s 0 0 (fun _ => False)) (F0 m 7 ls []) := by
    intro n_2
    induction n_2 using Nat.strongRecOn with
    | _ n_2 ih_2 =>
      intro v3_2 ls iv0_2 iv1_2 hm_2 hQ hl
      rw [wpL_Md_forceOn_w_7_2_eq] at hQ
      obtain ⟨rec_2, hrec_2⟩ : ∃ g, wpR_Md_forceOn_w_7_2 L f q0 p_0 p_1 x_1 Q n_2 = g := ⟨_, rfl⟩
      rw [hrec_2] at hQ
      unfold wpB_Md_forceOn_w_7_2 at hQ
      refine lv_iload_n hx hb d_Md_forceOn_7 rfl (lv_at hl 3 rfl) ?_
      refine lv_if_lt (tgt := 39) hx hb d_Md_forceOn_8 (by decide) (fun c_3 => ?_) (fun c_3 => ?_)
      · have hQ := hQ.1 c_3
        refine lv_bipush (v := (-2)) hx hb d_Md_forceOn_39 (by decide +kernel) ?_
        exact W.iret (v := (-2)) hx hb hr (fun t ht hW => ⟨(-2), rfl, ⟨(Or.inl ⟨rfl, trivial⟩), hQ⟩, ht⟩) t_nil d_Md_forceOn_41
      · have hQ := hQ.2 c_3
        refine lv_aload_n hx hb d_Md_forceOn_11 rfl (lv_at hl 0 rfl) ?_
        refine tw_getr (D := (dC, dI)) (C := R_Md) (T := F_Md) (N := 64) (ci := 7) (kd := 27) (ct := ct) hx hb htb i_Md hown hK hP hO_0 m0 rfl rfl 31 (by decide) (htb (.fieldLink R_Md 116 "WaterMenModel" "orderMade" "[I") tw_367) (fun _ h9 => h9) rfl d_Md_forceOn_12 (fun q_4 e_4 m_4 => ?_)
        have hQ := hQ q_4 e_4
        refine lv_iload_n hx hb d_Md_forceOn_15 rfl (lv_at hl 3 rfl) ?_
        refine tw_aldI (ct := ct) hx hb hK hP hO_0 m_4 rfl (hb_inl c_3 iv1_2 (by decide +kernel)) d_Md_forceOn_16 (fun x_5 e_5 b_5 => ?_)
        have hQ := hQ x_5 e_5
        refine lv_iload_n hx hb d_Md_forceOn_17 rfl (lv_at hl 2 rfl) ?_
        refine lv_icmp_gt (tgt := 33) hx hb d_Md_forceOn_18 (by decide) (fun c_6 => ?_) (fun c_6 => ?_)
        · have hQ := hQ.1 c_6
          refine lv_iinc (v := (v3_2 + (-1))) (lv' := [(3, .int (v3_2 + (-1))), (0, .ref q0), (1, .int p_0), (2, .int p_1)]) hx hb d_Md_forceOn_33 hl (k := 3) rfl rfl (by decide) rfl (fun ls hl => ?_)
          refine lv_goto (tgt := 7) hx hb d_Md_forceOn_36 (by decide) ?_
          exact ih_2 (n_2 - 1) (ms_1 ((fun (a_0 : Int32) (k_0 : ¬ (a_0 < 0)) => (show 1 ≤ (a_0).toInt - (-1 : Int32).toInt ∧ ((a_0) + (-1 : Int32)).toInt - (-1 : Int32).toInt + 1 ≤ (a_0).toInt - (-1 : Int32).toInt from by have z0 : (-1 : Int32).toInt = -1 := (by decide +kernel); have z1 : (0 : Int32).toInt = 0 := (by decide +kernel); have r0 := fb_rng (a_0); have e0 := k_0; rw [Int32.lt_iff_toInt_lt, z1] at e0; obtain ⟨n_0, hn_0, s0⟩ := nd_add (x := (a_0)) (y := (-1 : Int32)) (by (try rw [z0]); omega) (by (try rw [z0]); omega); rw [z0] at s0; rw [hn_0]; (try rw [z0]); omega)) v3_2 c_3) hm_2) (v3_2 + (-1)) _ (show ¬ ((v3_2 + (-1)) < (-1)) from ((fun (a_0 : Int32) (k_0 : ¬ (a_0 < 0)) => (show ¬ ((a_0 + (-1)) < (-1)) from by have z0 : (-1 : Int32).toInt = -1 := (by decide +kernel); have z1 : (0 : Int32).toInt = 0 := (by decide +kernel); have r0 := fb_rng (a_0); have e0 := k_0; rw [Int32.lt_iff_toInt_lt, z1] at e0; obtain ⟨n_0, hn_0, s0⟩ := nd_add (x := (a_0)) (y := (-1 : Int32)) (by (try rw [z0]); omega) (by (try rw [z0]); omega); rw [z0] at s0; rw [hn_0, Int32.lt_iff_toInt_lt, z0]; omega)) v3_2 c_3)) (show ¬ (19 < (v3_2 + (-1))) from ((fun (a_0 : Int32) (k_0 : ¬ (19 < a_0)) (k_1 : ¬ (a_0 < 0)) => (show ¬ (19 < (a_0 + (-1))) from by have z0 : (-1 : Int32).toInt = -1 := (by decide +kernel); have z1 : (0 : Int32).toInt = 0 := (by decide +kernel); have z2 : (19 : Int32).toInt = 19 := (by decide +kernel); have r0 := fb_rng (a_0); have e0 := k_0; rw [Int32.lt_iff_toInt_lt, z2] at e0; have e1 := k_1; rw [Int32.lt_iff_toInt_lt, z1] at e1; obtain ⟨n_0, hn_0, s0⟩ := nd_add (x := (a_0)) (y := (-1 : Int32)) (by (try rw [z0]); omega) (by (try rw [z0]); omega); rw [z0] at s0; rw [hn_0, Int32.lt_iff_toInt_lt, z2]; omega)) v3_2 iv1_2 c_3)) (by exact ms_2 ((fun (a_0 : Int32) (k_0 : ¬ (a_0 < 0)) => (show 1 ≤ (a_0).toInt - (-1 : Int32).toInt ∧ ((a_0) + (-1 : Int32)).toInt - (-1 : Int32).toInt + 1 ≤ (a_0).toInt - (-1 : Int32).toInt from by have z0 : (-1 : Int32).toInt = -1 := (by decide +kernel); have z1 : (0 : Int32).toInt = 0 := (by decide +kernel); have r0 := fb_rng (a_0); have e0 := k_0; rw [Int32.lt_iff_toInt_lt, z1] at e0; obtain ⟨n_0, hn_0, s0⟩ := nd_add (x := (a_0)) (y := (-1 : Int32)) (by (try rw [z0]); omega) (by (try rw [z0]); omega); rw [z0] at s0; rw [hn_0]; (try rw [z0]); omega)) v3_2 c_3) hm_2) (by rw [← hrec_2, wpR_Md_forceOn_w_7_2_pos (ms_3 ((fun (a_0 : Int32) (k_0 : ¬ (a_0 < 0)) => (show 1 ≤ (a_0).toInt - (-1 : Int32).toInt ∧ ((a_0) + (-1 : Int32)).toInt - (-1 : Int32).toInt + 1 ≤ (a_0).toInt - (-1 : Int32).toInt from by have z0 : (-1 : Int32).toInt = -1 := (by decide +kernel); have z1 : (0 : Int32).toInt = 0 := (by decide +kernel); have r0 := fb_rng (a_0); have e0 := k_0; rw [Int32.lt_iff_toInt_lt, z1] at e0; obtain ⟨n_0, hn_0, s0⟩ := nd_add (x := (a_0)) (y := (-1 : Int32)) (by (try rw [z0]); omega) (by (try rw [z0]); omega); rw [z0] at s0; rw [hn_0]; (try rw [z0]); omega)) v3_2 c_3) hm_2)] at hQ; exact hQ) (lv_sub hl [1, 2, 3, 0] rfl)
        · have hQ := hQ.2 c_6
          refine lv_aload_n hx hb d_Md_forceOn_21 rfl (lv_at hl 0 rfl) ?_
          refine tw_getr (D := (dC, dI)) (C := R_Md) (T := F_Md) (N := 64) (ci := 7) (kd := 27) (ct := ct) hx hb htb i_Md hown hK hP hO_0 m0 rfl rfl 30 (by decide) (htb (.fieldLink R_Md 113 "WaterMenModel" "orderFrom" "[I") tw_366) (fun _ h9 => h9) rfl d_Md_forceOn_22 (fun q_7 e_7 m_7 => ?_)
          have hQ := hQ q_7 e_7
          refine lv_iload_n hx hb d_Md_forceOn_25 rfl (lv_at hl 3 rfl) ?_
          refine tw_aldI (ct := ct) hx hb hK hP hO_0 m_7 rfl (hb_inl c_3 iv1_2 (by decide +kernel)) d_Md_forceOn_26 (fun x_8 e_8 b_8 => ?_)
          have hQ := hQ x_8 e_8
          refine lv_iload_n hx hb d_Md_forceOn_27 rfl (lv_at hl 1 rfl) ?_
          refine lv_icmp_gt (tgt := 33) hx hb d_Md_forceOn_28 (by decide) (fun c_9 => ?_) (fun c_9 => ?_)
          · have hQ := hQ.1 c_9
            refine lv_iinc (v := (v3_2 + (-1))) (lv' := [(3, .int (v3_2 + (-1))), (0, .ref q0), (1, .int p_0), (2, .int p_1)]) hx hb d_Md_forceOn_33 hl (k := 3) rfl rfl (by decide) rfl (fun ls hl => ?_)
            refine lv_goto (tgt := 7) hx hb d_Md_forceOn_36 (by decide) ?_
            exact ih_2 (n_2 - 1) (ms_1 ((fun (a_0 : Int32) (k_0 : ¬ (a_0 < 0)) => (show 1 ≤ (a_0).toInt - (-1 : Int32).toInt ∧ ((a_0) + (-1 : Int32)).toInt - (-1 : Int32).toInt + 1 ≤ (a_0).toInt - (-1 : Int32).toInt from by have z0 : (-1 : Int32).toInt = -1 := (by decide +kernel); have z1 : (0 : Int32).toInt = 0 := (by decide +kernel); have r0 := fb_rng (a_0); have e0 := k_0; rw [Int32.lt_iff_toInt_lt, z1] at e0; obtain ⟨n_0, hn_0, s0⟩ := nd_add (x := (a_0)) (y := (-1 : Int32)) (by (try rw [z0]); omega) (by (try rw [z0]); omega); rw [z0] at s0; rw [hn_0]; (try rw [z0]); omega)) v3_2 c_3) hm_2) (v3_2 + (-1)) _ (show ¬ ((v3_2 + (-1)) < (-1)) from ((fun (a_0 : Int32) (k_0 : ¬ (a_0 < 0)) => (show ¬ ((a_0 + (-1)) < (-1)) from by have z0 : (-1 : Int32).toInt = -1 := (by decide +kernel); have z1 : (0 : Int32).toInt = 0 := (by decide +kernel); have r0 := fb_rng (a_0); have e0 := k_0; rw [Int32.lt_iff_toInt_lt, z1] at e0; obtain ⟨n_0, hn_0, s0⟩ := nd_add (x := (a_0)) (y := (-1 : Int32)) (by (try rw [z0]); omega) (by (try rw [z0]); omega); rw [z0] at s0; rw [hn_0, Int32.lt_iff_toInt_lt, z0]; omega)) v3_2 c_3)) (show ¬ (19 < (v3_2 + (-1))) from ((fun (a_0 : Int32) (k_0 : ¬ (19 < a_0)) (k_1 : ¬ (a_0 < 0)) => (show ¬ (19 < (a_0 + (-1))) from by have z0 : (-1 : Int32).toInt = -1 := (by decide +kernel); have z1 : (0 : Int32).toInt = 0 := (by decide +kernel); have z2 : (19 : Int32).toInt = 19 := (by decide +kernel); have r0 := fb_rng (a_0); have e0 := k_0; rw [Int32.lt_iff_toInt_lt, z2] at e0; have e1 := k_1; rw [Int32.lt_iff_toInt_lt, z1] at e1; obtain ⟨n_0, hn_0, s0⟩ := nd_add (x := (a_0)) (y := (-1 : Int32)) (by (try rw [z0]); omega) (by (try rw [z0]); omega); rw [z0] at s0; rw [hn_0, Int32.lt_iff_toInt_lt, z2]; omega)) v3_2 iv1_2 c_3)) (by exact ms_2 ((fun (a_0 : Int32) (k_0 : ¬ (a_0 < 0)) => (show 1 ≤ (a_0).toInt - (-1 : Int32).toInt ∧ ((a_0) + (-1 : Int32)).toInt - (-1 : Int32).toInt + 1 ≤ (a_0).toInt - (-1 : Int32).toInt from by have z0 : (-1 : Int32).toInt = -1 := (by decide +kernel); have z1 : (0 : Int32).toInt = 0 := (by decide +kernel); have r0 := fb_rng (a_0); have e0 := k_0; rw [Int32.lt_iff_toInt_lt, z1] at e0; obtain ⟨n_0, hn_0, s0⟩ := nd_add (x := (a_0)) (y := (-1 : Int32)) (by (try rw [z0]); omega) (by (try rw [z0]); omega); rw [z0] at s0; rw [hn_0]; (try rw [z0]); omega)) v3_2 c_3) hm_2) (by rw [← hrec_2, wpR_Md_forceOn_w_7_2_pos (ms_3 ((fun (a_0 : Int32) (k_0 : ¬ (a_0 < 0)) => (show 1 ≤ (a_0).toInt - (-1 : Int32).toInt ∧ ((a_0) + (-1 : Int32)).toInt - (-1 : Int32).toInt + 1 ≤ (a_0).toInt - (-1 : Int32).toInt from by have z0 : (-1 : Int32).toInt = -1 := (by decide +kernel); have z1 : (0 : Int32).toInt = 0 := (by decide +kernel); have r0 := fb_rng (a_0); have e0 := k_0; rw [Int32.lt_iff_toInt_lt, z1] at e0; obtain ⟨n_0, hn_0, s0⟩ := nd_add (x := (a_0)) (y := (-1 : Int32)) (by (try rw [z0]); omega) (by (try rw [z0]); omega); rw [z0] at s0; rw [hn_0]; (try rw [z0]); omega)) v3_2 c_3) hm_2)] at hQ; exact hQ) (lv_sub hl [1, 2, 3, 0] rfl)
          · have hQ := hQ.2 c_9
            refine lv_iload_n hx hb d_Md_forceOn_31 rfl (lv_at hl 3 rfl) ?_
            exact W.iret (v := v3_2) hx hb hr (fun t ht hW => ⟨v3_2, rfl, ⟨(Or.inr ⟨c_3, iv1_2, trivial⟩), hQ⟩, ht⟩) t_nil d_Md_forceOn_32
  exact cut_2 (((x_1 - 1) : Int32).toInt - (-1 : Int32).toInt).toNat (x_1 - 1) _ (show ¬ ((x_1 - 1) < (-1)) from by have e0 := b_1.1; rw [Int32.lt_iff_toInt_lt] at e0; have e1 := b_1.2; rw [Int32.lt_iff_toInt_lt] at e1; have z0 : ((-1) : Int32).toInt = -1 := (by decide +kernel); have z1 : (0 : Int32).toInt = 0 := (by decide +kernel); have z2 : (1 : Int32).toInt = 1 := (by decide +kernel); have z3 : (20 : Int32).toInt = 20 := (by decide +kernel); have ss := fb_subI (x := x_1) (y := 1) (by omega) (by omega); rw [Int32.lt_iff_toInt_lt]; omega) (show ¬ (19 < (x_1 - 1)) from by have e0 := b_1.1; rw [Int32.lt_iff_toInt_lt] at e0; have e1 := b_1.2; rw [Int32.lt_iff_toInt_lt] at e1; have z0 : (0 : Int32).toInt = 0 := (by decide +kernel); have z1 : (1 : Int32).toInt = 1 := (by decide +kernel); have z2 : (19 : Int32).toInt = 19 := (by decide +kernel); have z3 : (20 : Int32).toInt = 20 := (by decide +kernel); have ss := fb_subI (x := x_1) (y := 1) (by omega) (by omega); rw [Int32.lt_iff_toInt_lt]; omega) (by exact ms_e _ _) hQ (lv_sub hl [1, 2, 3, 0] rfl)
def wp_Md_inForce_w (L : List Nat) (f : TF) (q0 : Nat) (p_0 : Int32) (p_1 : Int32) (Q : Int32 → Prop) : Prop := ((p_0 < 0 → Q (-1)) ∧ (¬ (p_0 < 0) → ((499 < p_0 → Q (-1)) ∧ (¬ (499 < p_0) → ((p_1 < 0 → Q (-1)) ∧ (¬ (p_1 < 0) → ((499 < p_1 → Q (-1)) ∧ (¬ (499 < p_1) → wp_Md_forceOn_w L f q0 p_0 p_1 (fun (r_7 : Int32) => ((r_7 = (-2) → Q (-2)) ∧ Q r_7))))))))))
set_option maxHeartbeats 4000000 in
set_option maxRecDepth 100000 in
theorem c_Md_inForce_w (l : Launch) (dC : Nat → ClassId) (dI : Nat → Nat → Nat) (ct : Nat → ClassId) (L : List Nat) (f : TF) (hO_0 : Ok L f) (q0 : Nat) (m0 : q0 ∈ L ∧ tk f q0 = 27) (p_0 : Int32) (p_1 : Int32)   (Q : Int32 → Prop) (hQ : wp_Md_inForce_w L f q0 p_0 p_1 Q) : Met l y_Md_inForce (.code y_Md_inForce b_Md_inForce 3 (some .int) :: TB) ({ frames := 2, cells := 0, slots := 0, locals := 42 }) (va_Pc [.ref q0, .int p_0, .int p_1] (PR dC dI (TW ct L f) (TT ct))) (vp_Si (fun r => (True) ∧ Q r)) 0 0 (fun _ => False) := by
  refine Met.ofW (cc := b_Md_inForce) (maxL := 3) (ret := (some .int)) (by decide) rfl ?_
  intro p e s m args below meth c s₁ B hml hv
  obtain ⟨rfl, hP, hK, hN⟩ := hv
  have hx := B.exec
  have hb := B.bytes
  have hr := B.returns
  have hts := atoms_spec (ws := (.code y_Md_inForce b_Md_inForce 3 (some .int) :: TB)) B.pre
  have htb := fun w (h : w ∈ TB) => hts w (List.mem_cons_of_mem _ h)
  have hown : s.vm.findClass R_Md = some m.cls := findClass_of_methodNamed B.named
  have hlocks := B.notSynchronized
  have hl := lv_entry ([.ref q0, .int p_0, .int p_1]) (n := 3) (Nat.le_of_ble_eq_true rfl)
  rw [lg_entry_eq]
  generalize (lg_sl ([.ref q0, .int p_0, .int p_1]) ++ List.replicate (3 - (lg_sl ([.ref q0, .int p_0, .int p_1])).length) Slot.unset).toArray = ls at hl ⊢
  have hl : lv_has ls 3 [(0, .ref q0), (1, .int p_0), (2, .int p_1)] := hl
  unfold wp_Md_inForce_w at hQ
  refine lv_iload_n hx hb d_Md_inForce_0 rfl (lv_at hl 1 rfl) ?_
  refine vp_callSi (va_Run.run (va_runS (As := [.int p_0]) (rest := []) ⟨hx, hb, hml, hown, htb⟩ (c_Md_isDay l p_0) (cwS 1 htb (gd_S tw_145 tw_146 tw_89 tw_144) rfl rfl rfl (by decide +kernel) ⟨Nat.le_of_ble_eq_true rfl, Nat.le_of_ble_eq_true rfl⟩) ⟨fun _ _ _ _ h => h, fun U _ _ => ⟨rfl, trivial⟩⟩ rfl rfl hl.1 rfl (lv_room (Nat.le_of_ble_eq_true rfl)) d_Md_inForce_1 ⟨Nat.le_of_ble_eq_true rfl, Nat.le_of_ble_eq_true rfl⟩)) (fun r er => ?_)
  subst er
  by_cases c_2 : p_0 < 0
  · have hQ := hQ.1 c_2
    refine hb_ti 0 (by unfold f_Md_isDay; rw [if_pos c_2]; first | done | rfl) ?_
    refine lv_if_eq (tgt := 23) hx hb d_Md_inForce_4 (by decide) (fun _ => ?_) (fun h => absurd (by decide +kernel) h)
    refine lv_iconst (v := (-1)) hx hb d_Md_inForce_23 (by decide +kernel) ?_
    exact W.iret (v := (-1)) hx hb hr (fun t ht hW => ⟨(-1), rfl, ⟨trivial, hQ⟩, ht⟩) t_nil d_Md_inForce_24
  · have hQ := hQ.2 c_2
    by_cases c_3 : 499 < p_0
    · have hQ := hQ.1 c_3
      refine hb_ti 0 (by unfold f_Md_isDay; rw [if_neg c_2, if_pos c_3]; first | done | rfl) ?_
      refine lv_if_eq (tgt := 23) hx hb d_Md_inForce_4 (by decide) (fun _ => ?_) (fun h => absurd (by decide +kernel) h)
      refine lv_iconst (v := (-1)) hx hb d_Md_inForce_23 (by decide +kernel) ?_
      exact W.iret (v := (-1)) hx hb hr (fun t ht hW => ⟨(-1), rfl, ⟨trivial, hQ⟩, ht⟩) t_nil d_Md_inForce_24
    · have hQ := hQ.2 c_3
      refine hb_ti 1 (by unfold f_Md_isDay; rw [if_neg c_2, if_neg c_3]; first | done | rfl) ?_
      refine lv_if_eq (tgt := 23) hx hb d_Md_inForce_4 (by decide) (fun h => absurd h (by decide +kernel)) (fun _ => ?_)
      refine lv_iload_n hx hb d_Md_inForce_7 rfl (lv_at hl 2 rfl) ?_
      refine vp_callSi (va_Run.run (va_runS (As := [.int p_1]) (rest := []) ⟨hx, hb, hml, hown, htb⟩ (c_Md_isDay l p_1) (cwS 1 htb (gd_S tw_145 tw_146 tw_89 tw_144) rfl rfl rfl (by decide +kernel) ⟨Nat.le_of_ble_eq_true rfl, Nat.le_of_ble_eq_true rfl⟩) ⟨fun _ _ _ _ h => h, fun U _ _ => ⟨rfl, trivial⟩⟩ rfl rfl hl.1 rfl (lv_room (Nat.le_of_ble_eq_true rfl)) d_Md_inForce_8 ⟨Nat.le_of_ble_eq_true rfl, Nat.le_of_ble_eq_true rfl⟩)) (fun r er => ?_)
      subst er
      by_cases c_5 : p_1 < 0
      · have hQ := hQ.1 c_5
        refine hb_ti 0 (by unfold f_Md_isDay; rw [if_pos c_5]; first | done | rfl) ?_
        refine lv_if_eq (tgt := 23) hx hb d_Md_inForce_11 (by decide) (fun _ => ?_) (fun h => absurd (by decide +kernel) h)
        refine lv_iconst (v := (-1)) hx hb d_Md_inForce_23 (by decide +kernel) ?_
        exact W.iret (v := (-1)) hx hb hr (fun t ht hW => ⟨(-1), rfl, ⟨trivial, hQ⟩, ht⟩) t_nil d_Md_inForce_24
      · have hQ := hQ.2 c_5
        by_cases c_6 : 499 < p_1
        · have hQ := hQ.1 c_6
          refine hb_ti 0 (by unfold f_Md_isDay; rw [if_neg c_5, if_pos c_6]; first | done | rfl) ?_
          refine lv_if_eq (tgt := 23) hx hb d_Md_inForce_11 (by decide) (fun _ => ?_) (fun h => absurd (by decide +kernel) h)
          refine lv_iconst (v := (-1)) hx hb d_Md_inForce_23 (by decide +kernel) ?_
          exact W.iret (v := (-1)) hx hb hr (fun t ht hW => ⟨(-1), rfl, ⟨trivial, hQ⟩, ht⟩) t_nil d_Md_inForce_24
        · have hQ := hQ.2 c_6
          refine hb_ti 1 (by unfold f_Md_isDay; rw [if_neg c_5, if_neg c_6]; first | done | rfl) ?_
          refine lv_if_eq (tgt := 23) hx hb d_Md_inForce_11 (by decide) (fun h => absurd h (by decide +kernel)) (fun _ => ?_)
          refine lv_aload_n hx hb d_Md_inForce_14 rfl (lv_at hl 0 rfl) ?_
          refine lv_iload_n hx hb d_Md_inForce_15 rfl (lv_at hl 1 rfl) ?_
          refine lv_iload_n hx hb d_Md_inForce_16 rfl (lv_at hl 2 rfl) ?_
          refine vp_callSi (va_Run.run (va_runV (As := [.int p_0, .int p_1]) (rest := []) ⟨hx, hb, hml, hown, htb⟩ (c_Md_forceOn_w l dC dI ct L f hO_0 q0 m0 p_0 p_1 _ hQ) (cwV 2 htb (gd_V tw_394 tw_395 tw_396 tw_89 tw_393) rfl rfl rfl (by decide +kernel) ⟨Nat.le_of_ble_eq_true rfl, Nat.le_of_ble_eq_true rfl⟩) ⟨pr_blind, tw_recv hK hP m0 rfl rfl, pr_pre hP hK hN⟩ rfl rfl hl.1 rfl (lv_room (Nat.le_of_ble_eq_true rfl)) d_Md_inForce_17 ⟨Nat.le_of_ble_eq_true rfl, Nat.le_of_ble_eq_true rfl⟩)) (fun r_7 er_7 => ?_)
          obtain ⟨er_7, hQ⟩ := er_7
          rcases er_7 with ⟨rfl, -⟩ | ⟨po_8, po_9, -⟩
          · have hQ := hQ.1 rfl
            refine lv_goto (tgt := 24) hx hb d_Md_inForce_20 (by decide) ?_
            exact W.iret (v := (-2)) hx hb hr (fun t ht hW => ⟨(-2), rfl, ⟨trivial, hQ⟩, ht⟩) t_nil d_Md_inForce_24
          · have hQ := hQ.2
            refine lv_goto (tgt := 24) hx hb d_Md_inForce_20 (by decide) ?_
            exact W.iret (v := r_7) hx hb hr (fun t ht hW => ⟨r_7, rfl, ⟨trivial, hQ⟩, ht⟩) t_nil d_Md_inForce_24
def wp_Rv_hasStairs_w (L : List Nat) (f : TF) (q0 : Nat) (p_0 : Int32) (Q : Int32 → Prop) : Prop := ((p_0 < 0 → Q 0) ∧ (¬ (p_0 < 0) → ∀ x_2 : Int32, ti f q0 4 = x_2 → ((x_2 ≤ p_0 → Q 0) ∧ (¬ (x_2 ≤ p_0) → Q 1))))
set_option maxHeartbeats 4000000 in
set_option maxRecDepth 100000 in
theorem c_Rv_hasStairs_w (l : Launch) (dC : Nat → ClassId) (dI : Nat → Nat → Nat) (ct : Nat → ClassId) (L : List Nat) (f : TF) (hO_0 : Ok L f) (q0 : Nat) (m0 : q0 ∈ L ∧ tk f q0 = 1) (p_0 : Int32)   (Q : Int32 → Prop) (hQ : wp_Rv_hasStairs_w L f q0 p_0 Q) : Met l y_Rv_hasStairs (.code y_Rv_hasStairs b_Rv_hasStairs 2 (some .boolean) :: TB) ({ frames := 0, cells := 0, slots := 0, locals := 0 }) (va_Pc [.ref q0, .int p_0] (PR dC dI (TW ct L f) (TT ct))) (vp_Si (fun r => ((r = 0 ∧ True) ∨ (r = 1 ∧ ¬ (p_0 < 0) ∧ ¬ (11 < p_0) ∧ True)) ∧ Q r)) 0 0 (fun _ => False) := by
  refine Met.ofW (cc := b_Rv_hasStairs) (maxL := 2) (ret := (some .boolean)) (by decide) rfl ?_
  intro p e s m args below meth c s₁ B hml hv
  obtain ⟨rfl, hP, hK, hN⟩ := hv
  have hx := B.exec
  have hb := B.bytes
  have hr := B.returns
  have hts := atoms_spec (ws := (.code y_Rv_hasStairs b_Rv_hasStairs 2 (some .boolean) :: TB)) B.pre
  have htb := fun w (h : w ∈ TB) => hts w (List.mem_cons_of_mem _ h)
  have hown : s.vm.findClass R_Rv = some m.cls := findClass_of_methodNamed B.named
  have hlocks := B.notSynchronized
  have hl := lv_entry ([.ref q0, .int p_0]) (n := 2) (Nat.le_of_ble_eq_true rfl)
  rw [lg_entry_eq]
  generalize (lg_sl ([.ref q0, .int p_0]) ++ List.replicate (2 - (lg_sl ([.ref q0, .int p_0])).length) Slot.unset).toArray = ls at hl ⊢
  have hl : lv_has ls 2 [(0, .ref q0), (1, .int p_0)] := hl
  unfold wp_Rv_hasStairs_w at hQ
  refine lv_iload_n hx hb d_Rv_hasStairs_0 rfl (lv_at hl 1 rfl) ?_
  refine lv_if_lt (tgt := 16) hx hb d_Rv_hasStairs_1 (by decide) (fun c_1 => ?_) (fun c_1 => ?_)
  · have hQ := hQ.1 c_1
    refine lv_iconst (v := 0) hx hb d_Rv_hasStairs_16 (by decide +kernel) ?_
    exact W.zret (v := 0) hx hb hr (by decide +kernel) (fun t ht hW => ⟨0, rfl, ⟨(Or.inl ⟨rfl, trivial⟩), hQ⟩, ht⟩) t_nil d_Rv_hasStairs_17
  · have hQ := hQ.2 c_1
    refine lv_iload_n hx hb d_Rv_hasStairs_4 rfl (lv_at hl 1 rfl) ?_
    refine lv_aload_n hx hb d_Rv_hasStairs_5 rfl (lv_at hl 0 rfl) ?_
    refine tw_geti (D := (dC, dI)) (C := R_Rv) (T := F_Rv) (N := 6) (ci := 1) (kd := 1) (ct := ct) hx hb htb i_Rv hown hK hP hO_0 m0 rfl rfl 4 (by decide) (htb (.fieldLink R_Rv 35 "WaterMen$River" "stairCount" "I") tw_193) (fun _ h9 => h9) rfl d_Rv_hasStairs_6 (fun x_2 e_2 b_2 => ?_)
    have hQ := hQ x_2 e_2
    refine lv_icmp_ge (tgt := 16) hx hb d_Rv_hasStairs_9 (by decide) (fun c_3 => ?_) (fun c_3 => ?_)
    · have hQ := hQ.1 c_3
      refine lv_iconst (v := 0) hx hb d_Rv_hasStairs_16 (by decide +kernel) ?_
      exact W.zret (v := 0) hx hb hr (by decide +kernel) (fun t ht hW => ⟨0, rfl, ⟨(Or.inl ⟨rfl, trivial⟩), hQ⟩, ht⟩) t_nil d_Rv_hasStairs_17
    · have hQ := hQ.2 c_3
      refine lv_iconst (v := 1) hx hb d_Rv_hasStairs_12 (by decide +kernel) ?_
      refine lv_goto (tgt := 17) hx hb d_Rv_hasStairs_13 (by decide) ?_
      exact W.zret (v := 1) hx hb hr (by decide +kernel) (fun t ht hW => ⟨1, rfl, ⟨(Or.inr ⟨rfl, c_1, (show ¬ (11 < p_0) from ((fun (a_0 : Int32) (a_1 : Int32) (k_0 : ¬ (a_1 ≤ a_0)) (k_1 : ¬ (12 < a_1)) => (show ¬ (11 < a_0) from by have z0 : (11 : Int32).toInt = 11 := (by decide +kernel); have z1 : (12 : Int32).toInt = 12 := (by decide +kernel); have r0 := fb_rng (a_0); have r1 := fb_rng (a_1); have e0 := k_0; rw [Int32.le_iff_toInt_le] at e0; have e1 := k_1; rw [Int32.lt_iff_toInt_lt, z1] at e1; rw [Int32.lt_iff_toInt_lt, z0]; omega)) p_0 x_2 c_3 b_2.2)), trivial⟩), hQ⟩, ht⟩) t_nil d_Rv_hasStairs_17
def f_WM_isOars  (p_0 : Int32) : Int32 := if p_0 = 1 then (1) else (if p_0 = 2 then (1) else (0))
set_option maxHeartbeats 4000000 in
set_option maxRecDepth 100000 in
theorem c_WM_isOars (l : Launch)  (p_0 : Int32)  : Met l y_WM_isOars (.code y_WM_isOars b_WM_isOars 1 (some .boolean) :: TB) ({ frames := 0, cells := 0, slots := 0, locals := 0 }) (va_Pc [.int p_0] (fun _ => True)) (vp_Si (fun r => r = f_WM_isOars p_0)) 0 0 (fun _ => False) := by
  refine Met.ofW (cc := b_WM_isOars) (maxL := 1) (ret := (some .boolean)) (by decide) rfl ?_
  intro p e s m args below meth c s₁ B hml hv
  obtain ⟨rfl, -⟩ := hv
  have hx := B.exec
  have hb := B.bytes
  have hr := B.returns
  have hts := atoms_spec (ws := (.code y_WM_isOars b_WM_isOars 1 (some .boolean) :: TB)) B.pre
  have htb := fun w (h : w ∈ TB) => hts w (List.mem_cons_of_mem _ h)
  have hown : s.vm.findClass R_WM = some m.cls := findClass_of_methodNamed B.named
  have hlocks := B.notSynchronized
  have hl := lv_entry ([.int p_0]) (n := 1) (Nat.le_of_ble_eq_true rfl)
  rw [lg_entry_eq]
  generalize (lg_sl ([.int p_0]) ++ List.replicate (1 - (lg_sl ([.int p_0])).length) Slot.unset).toArray = ls at hl ⊢
  have hl : lv_has ls 1 [(0, .int p_0)] := hl
  refine lv_iload_n hx hb d_WM_isOars_0 rfl (lv_at hl 0 rfl) ?_
  refine lv_iconst (v := 1) hx hb d_WM_isOars_1 (by decide +kernel) ?_
  refine lv_icmp_eq (tgt := 10) hx hb d_WM_isOars_2 (by decide) (fun c_1 => ?_) (fun c_1 => ?_)
  · refine lv_iconst (v := 1) hx hb d_WM_isOars_10 (by decide +kernel) ?_
    refine lv_goto (tgt := 15) hx hb d_WM_isOars_11 (by decide) ?_
    exact W.zret (v := 1) hx hb hr (by decide +kernel) (fun t ht hW => ⟨1, rfl, (by unfold f_WM_isOars; rw [if_pos c_1]), ht⟩) t_nil d_WM_isOars_15
  · refine lv_iload_n hx hb d_WM_isOars_5 rfl (lv_at hl 0 rfl) ?_
    refine lv_iconst (v := 2) hx hb d_WM_isOars_6 (by decide +kernel) ?_
    refine lv_icmp_ne (tgt := 14) hx hb d_WM_isOars_7 (by decide) (fun c_2 => ?_) (fun c_2 => ?_)
    · refine lv_iconst (v := 0) hx hb d_WM_isOars_14 (by decide +kernel) ?_
      exact W.zret (v := 0) hx hb hr (by decide +kernel) (fun t ht hW => ⟨0, rfl, (by unfold f_WM_isOars; rw [if_neg c_1, if_neg c_2]), ht⟩) t_nil d_WM_isOars_15
    · refine lv_iconst (v := 1) hx hb d_WM_isOars_10 (by decide +kernel) ?_
      refine lv_goto (tgt := 15) hx hb d_WM_isOars_11 (by decide) ?_
      exact W.zret (v := 1) hx hb hr (by decide +kernel) (fun t ht hW => ⟨1, rfl, (by unfold f_WM_isOars; rw [if_neg c_1, if_pos c_2]), ht⟩) t_nil d_WM_isOars_15
def wp_Rv_drift_w (L : List Nat) (f : TF) (q0 : Nat) (p_0 : Int32) (p_1 : Int32) (p_2 : Int32) (p_3 : Int32) (Q : Int32 → Prop) : Prop := wp_Rv_flowIn_w L f q0 p_2 p_3 (fun (r_1 : Int32) => ((r_1 = 0 → Q 0) ∧ (¬ (r_1 = 0) → ((r_1 ≤ 0 → ((p_1 ≤ p_0 → Q 1) ∧ (¬ (p_1 ≤ p_0) → Q (-1)))) ∧ (¬ (r_1 ≤ 0) → ((p_1 ≤ p_0 → Q (-1)) ∧ (¬ (p_1 ≤ p_0) → Q 1)))))))
set_option maxHeartbeats 4000000 in
set_option maxRecDepth 100000 in
theorem c_Rv_drift_w (l : Launch) (dC : Nat → ClassId) (dI : Nat → Nat → Nat) (ct : Nat → ClassId) (L : List Nat) (f : TF) (hO_0 : Ok L f) (q0 : Nat) (m0 : q0 ∈ L ∧ tk f q0 = 1) (p_0 : Int32) (p_1 : Int32) (p_2 : Int32) (p_3 : Int32)  (as_0 : ¬ (p_2 < 0)) (as_1 : ¬ (499 < p_2)) (as_2 : ¬ (p_3 < 0)) (as_3 : ¬ (11 < p_3)) (Q : Int32 → Prop) (hQ : wp_Rv_drift_w L f q0 p_0 p_1 p_2 p_3 Q) : Met l y_Rv_drift (.code y_Rv_drift b_Rv_drift 6 (some .int) :: TB) ({ frames := 2, cells := 0, slots := 0, locals := 46 }) (va_Pc [.ref q0, .int p_0, .int p_1, .int p_2, .int p_3] (PR dC dI (TW ct L f) (TT ct))) (vp_Si (fun r => (True) ∧ Q r)) 0 0 (fun _ => False) := by
  refine Met.ofW (cc := b_Rv_drift) (maxL := 6) (ret := (some .int)) (by decide) rfl ?_
  intro p e s m args below meth c s₁ B hml hv
  obtain ⟨rfl, hP, hK, hN⟩ := hv
  have hx := B.exec
  have hb := B.bytes
  have hr := B.returns
  have hts := atoms_spec (ws := (.code y_Rv_drift b_Rv_drift 6 (some .int) :: TB)) B.pre
  have htb := fun w (h : w ∈ TB) => hts w (List.mem_cons_of_mem _ h)
  have hown : s.vm.findClass R_Rv = some m.cls := findClass_of_methodNamed B.named
  have hlocks := B.notSynchronized
  have hl := lv_entry ([.ref q0, .int p_0, .int p_1, .int p_2, .int p_3]) (n := 6) (Nat.le_of_ble_eq_true rfl)
  rw [lg_entry_eq]
  generalize (lg_sl ([.ref q0, .int p_0, .int p_1, .int p_2, .int p_3]) ++ List.replicate (6 - (lg_sl ([.ref q0, .int p_0, .int p_1, .int p_2, .int p_3])).length) Slot.unset).toArray = ls at hl ⊢
  have hl : lv_has ls 6 [(0, .ref q0), (1, .int p_0), (2, .int p_1), (3, .int p_2), (4, .int p_3)] := hl
  unfold wp_Rv_drift_w at hQ
  refine lv_aload_n hx hb d_Rv_drift_0 rfl (lv_at hl 0 rfl) ?_
  refine lv_iload_n hx hb d_Rv_drift_1 rfl (lv_at hl 3 rfl) ?_
  refine lv_iload hx hb d_Rv_drift_2 (lv_at hl 4 rfl) ?_
  refine vp_callSi (va_Run.run (va_runV (As := [.int p_2, .int p_3]) (rest := []) ⟨hx, hb, hml, hown, htb⟩ (c_Rv_flowIn_w l dC dI ct L f hO_0 q0 m0 p_2 p_3 as_0 as_1 as_2 as_3 _ hQ) (cwV 2 htb (gd_V tw_404 tw_157 tw_158 tw_140 tw_155) rfl rfl rfl (by decide +kernel) ⟨Nat.le_of_ble_eq_true rfl, Nat.le_of_ble_eq_true rfl⟩) ⟨pr_blind, tw_recv hK hP m0 rfl rfl, pr_pre hP hK hN⟩ rfl rfl hl.1 rfl (lv_room (Nat.le_of_ble_eq_true rfl)) d_Rv_drift_4 ⟨Nat.le_of_ble_eq_true rfl, Nat.le_of_ble_eq_true rfl⟩)) (fun r_1 er_1 => ?_)
  obtain ⟨er_1, hQ⟩ := er_1
  clear er_1
  refine lv_istore (lv' := [(5, .int r_1), (0, .ref q0), (1, .int p_0), (2, .int p_1), (3, .int p_2), (4, .int p_3)]) hx hb d_Rv_drift_7 hl (by decide) rfl (fun ls hl => ?_)
  refine lv_iload hx hb d_Rv_drift_9 (lv_at hl 0 rfl) ?_
  refine lv_if_ne (tgt := 16) hx hb d_Rv_drift_11 (by decide) (fun c_2 => ?_) (fun c_2 => ?_)
  · have hQ := hQ.2 c_2
    refine lv_iload hx hb d_Rv_drift_16 (lv_at hl 0 rfl) ?_
    refine lv_if_le (tgt := 25) hx hb d_Rv_drift_18 (by decide) (fun c_3 => ?_) (fun c_3 => ?_)
    · have hQ := hQ.1 c_3
      refine lv_iconst (v := 0) hx hb d_Rv_drift_25 (by decide +kernel) ?_
      refine lv_iload_n hx hb d_Rv_drift_26 rfl (lv_at hl 3 rfl) ?_
      refine lv_iload_n hx hb d_Rv_drift_27 rfl (lv_at hl 2 rfl) ?_
      refine lv_icmp_le (tgt := 35) hx hb d_Rv_drift_28 (by decide) (fun c_4 => ?_) (fun c_4 => ?_)
      · have hQ := hQ.1 c_4
        refine lv_iconst (v := 0) hx hb d_Rv_drift_35 (by decide +kernel) ?_
        refine lv_icmp_ne (tgt := 43) hx hb d_Rv_drift_36 (by decide) (fun h => absurd (by decide +kernel) h) (fun _ => ?_)
        refine lv_iconst (v := 1) hx hb d_Rv_drift_39 (by decide +kernel) ?_
        refine lv_goto (tgt := 44) hx hb d_Rv_drift_40 (by decide) ?_
        exact W.iret (v := 1) hx hb hr (fun t ht hW => ⟨1, rfl, ⟨trivial, hQ⟩, ht⟩) t_nil d_Rv_drift_44
      · have hQ := hQ.2 c_4
        refine lv_iconst (v := 1) hx hb d_Rv_drift_31 (by decide +kernel) ?_
        refine lv_goto (tgt := 36) hx hb d_Rv_drift_32 (by decide) ?_
        refine lv_icmp_ne (tgt := 43) hx hb d_Rv_drift_36 (by decide) (fun _ => ?_) (fun h => absurd h (by decide +kernel))
        refine lv_iconst (v := (-1)) hx hb d_Rv_drift_43 (by decide +kernel) ?_
        exact W.iret (v := (-1)) hx hb hr (fun t ht hW => ⟨(-1), rfl, ⟨trivial, hQ⟩, ht⟩) t_nil d_Rv_drift_44
    · have hQ := hQ.2 c_3
      refine lv_iconst (v := 1) hx hb d_Rv_drift_21 (by decide +kernel) ?_
      refine lv_goto (tgt := 26) hx hb d_Rv_drift_22 (by decide) ?_
      refine lv_iload_n hx hb d_Rv_drift_26 rfl (lv_at hl 3 rfl) ?_
      refine lv_iload_n hx hb d_Rv_drift_27 rfl (lv_at hl 2 rfl) ?_
      refine lv_icmp_le (tgt := 35) hx hb d_Rv_drift_28 (by decide) (fun c_5 => ?_) (fun c_5 => ?_)
      · have hQ := hQ.1 c_5
        refine lv_iconst (v := 0) hx hb d_Rv_drift_35 (by decide +kernel) ?_
        refine lv_icmp_ne (tgt := 43) hx hb d_Rv_drift_36 (by decide) (fun _ => ?_) (fun h => absurd h (by decide +kernel))
        refine lv_iconst (v := (-1)) hx hb d_Rv_drift_43 (by decide +kernel) ?_
        exact W.iret (v := (-1)) hx hb hr (fun t ht hW => ⟨(-1), rfl, ⟨trivial, hQ⟩, ht⟩) t_nil d_Rv_drift_44
      · have hQ := hQ.2 c_5
        refine lv_iconst (v := 1) hx hb d_Rv_drift_31 (by decide +kernel) ?_
        refine lv_goto (tgt := 36) hx hb d_Rv_drift_32 (by decide) ?_
        refine lv_icmp_ne (tgt := 43) hx hb d_Rv_drift_36 (by decide) (fun h => absurd (by decide +kernel) h) (fun _ => ?_)
        refine lv_iconst (v := 1) hx hb d_Rv_drift_39 (by decide +kernel) ?_
        refine lv_goto (tgt := 44) hx hb d_Rv_drift_40 (by decide) ?_
        exact W.iret (v := 1) hx hb hr (fun t ht hW => ⟨1, rfl, ⟨trivial, hQ⟩, ht⟩) t_nil d_Rv_drift_44
  · have hQ := hQ.1 c_2
    refine lv_iconst (v := 0) hx hb d_Rv_drift_14 (by decide +kernel) ?_
    exact W.iret (v := 0) hx hb hr (fun t ht hW => ⟨0, rfl, ⟨trivial, hQ⟩, ht⟩) t_nil d_Rv_drift_15
def wp_Rv_distance_w (L : List Nat) (f : TF) (q0 : Nat) (p_0 : Int32) (p_1 : Int32) (Q : Int32 → Prop) : Prop := ∀ q_1 : Nat, tr f q0 0 = some q_1 → ∀ x_2 : Int32, ti f q_1 (p_1 : Int32).toNatClampNeg = x_2 → ∀ x_3 : Int32, ti f q_1 (p_0 : Int32).toNatClampNeg = x_3 → ∀ y_4 : Int32, y_4 = (if 0 ≤ (x_2 - x_3) then (x_2 - x_3) else 0 - (x_2 - x_3)) → Q y_4
set_option maxHeartbeats 4000000 in
set_option maxRecDepth 100000 in
theorem c_Rv_distance_w (l : Launch) (dC : Nat → ClassId) (dI : Nat → Nat → Nat) (ct : Nat → ClassId) (L : List Nat) (f : TF) (hO_0 : Ok L f) (q0 : Nat) (m0 : q0 ∈ L ∧ tk f q0 = 1) (p_0 : Int32) (p_1 : Int32)  (as_0 : ¬ (p_0 < 0)) (as_1 : ¬ (11 < p_0)) (as_2 : ¬ (p_1 < 0)) (as_3 : ¬ (11 < p_1)) (Q : Int32 → Prop) (hQ : wp_Rv_distance_w L f q0 p_0 p_1 Q) : Met l y_Rv_distance (.code y_Rv_distance b_Rv_distance 3 (some .int) :: TB) ({ frames := 1, cells := 0, slots := 0, locals := 21 }) (va_Pc [.ref q0, .int p_0, .int p_1] (PR dC dI (TW ct L f) (TT ct))) (vp_Si (fun r => (True) ∧ Q r)) 0 0 (fun _ => False) := by
  refine Met.ofW (cc := b_Rv_distance) (maxL := 3) (ret := (some .int)) (by decide) rfl ?_
  intro p e s m args below meth c s₁ B hml hv
  obtain ⟨rfl, hP, hK, hN⟩ := hv
  have hx := B.exec
  have hb := B.bytes
  have hr := B.returns
  have hts := atoms_spec (ws := (.code y_Rv_distance b_Rv_distance 3 (some .int) :: TB)) B.pre
  have htb := fun w (h : w ∈ TB) => hts w (List.mem_cons_of_mem _ h)
  have hown : s.vm.findClass R_Rv = some m.cls := findClass_of_methodNamed B.named
  have hlocks := B.notSynchronized
  have hl := lv_entry ([.ref q0, .int p_0, .int p_1]) (n := 3) (Nat.le_of_ble_eq_true rfl)
  rw [lg_entry_eq]
  generalize (lg_sl ([.ref q0, .int p_0, .int p_1]) ++ List.replicate (3 - (lg_sl ([.ref q0, .int p_0, .int p_1])).length) Slot.unset).toArray = ls at hl ⊢
  have hl : lv_has ls 3 [(0, .ref q0), (1, .int p_0), (2, .int p_1)] := hl
  unfold wp_Rv_distance_w at hQ
  refine lv_aload_n hx hb d_Rv_distance_0 rfl (lv_at hl 0 rfl) ?_
  refine tw_getr (D := (dC, dI)) (C := R_Rv) (T := F_Rv) (N := 6) (ci := 1) (kd := 1) (ct := ct) hx hb htb i_Rv hown hK hP hO_0 m0 rfl rfl 0 (by decide) (htb (.fieldLink R_Rv 9 "WaterMen$River" "milesUp" "[I") tw_194) (fun _ h9 => h9) rfl d_Rv_distance_1 (fun q_1 e_1 m_1 => ?_)
  have hQ := hQ q_1 e_1
  refine lv_iload_n hx hb d_Rv_distance_4 rfl (lv_at hl 2 rfl) ?_
  refine tw_aldI (ct := ct) hx hb hK hP hO_0 m_1 rfl (hb_inl as_2 as_3 (by decide +kernel)) d_Rv_distance_5 (fun x_2 e_2 b_2 => ?_)
  have hQ := hQ x_2 e_2
  refine lv_aload_n hx hb d_Rv_distance_6 rfl (lv_at hl 0 rfl) ?_
  refine tw_getR (D := (dC, dI)) (C := R_Rv) (T := F_Rv) (N := 6) (ci := 1) (kd := 1) (ct := ct) hx hb htb i_Rv hown hK hP m0 rfl rfl 0 e_1 (by decide) (htb (.fieldLink R_Rv 9 "WaterMen$River" "milesUp" "[I") tw_194) (fun _ h9 => h9) rfl d_Rv_distance_7 ?_
  refine hb_tv (.ref q_1) rfl ?_
  refine lv_iload_n hx hb d_Rv_distance_10 rfl (lv_at hl 1 rfl) ?_
  refine tw_aldI (ct := ct) hx hb hK hP hO_0 m_1 rfl (hb_inl as_0 as_1 (by decide +kernel)) d_Rv_distance_11 (fun x_3 e_3 b_3 => ?_)
  have hQ := hQ x_3 e_3
  refine lv_isub hx hb d_Rv_distance_12 ?_
  refine va_mabs hx hb (hml.trans hl.1.symm) hown (htb (.methodLink R_Rv 38 Lib.Math.abs.name) tw_409) (htb (.static Lib.Math.abs.name) tw_410) (htb (.initialized "java/lang/Math") tw_55) (htb (.code Lib.Math.abs.name Lib.Math.abs.code 1 (some .int)) tw_411) (Nat.le_of_ble_eq_true rfl) (Nat.le_of_ble_eq_true rfl) (Nat.le_of_ble_eq_true rfl) (Nat.le_of_ble_eq_true rfl) d_Rv_distance_13 ?_
  refine hb_eqi (fun y_4 hy_4 => ?_)
  have hQ := hQ y_4 hy_4
  exact W.iret (v := y_4) hx hb hr (fun t ht hW => ⟨y_4, rfl, ⟨trivial, hQ⟩, ht⟩) t_nil d_Rv_distance_16
