def wp_Or_lineHolds_k16_w (L : List Nat) (f : TF) (pq_0 : Nat) (p_1 : Int32) (p_2 : Int32) (Q : Int32 → Prop) : Prop := ∀ x_1 : Int32, ti f pq_0 ((p_1 * 3) : Int32).toNatClampNeg = x_1 → ((p_2 < x_1 → Q 0) ∧ (¬ (p_2 < x_1) → ∀ x_3 : Int32, ti f pq_0 (((p_1 * 3) + 1) : Int32).toNatClampNeg = x_3 → ((x_3 < p_2 → Q 0) ∧ (¬ (x_3 < p_2) → Q 1))))
set_option maxHeartbeats 4000000 in
set_option maxRecDepth 100000 in
theorem c_Or_lineHolds_k16_w (l : Launch) (dC : Nat → ClassId) (dI : Nat → Nat → Nat) (ct : Nat → ClassId) (L : List Nat) (f : TF) (hO_0 : Ok L f) (pq_0 : Nat) (pm_0 : pq_0 ∈ L ∧ tk f pq_0 = 16) (p_1 : Int32) (p_2 : Int32)  (as_0 : ¬ (p_1 < 0)) (as_1 : ¬ (11 < p_1)) (Q : Int32 → Prop) (hQ : wp_Or_lineHolds_k16_w L f pq_0 p_1 p_2 Q) : Met l y_Or_lineHolds (.code y_Or_lineHolds b_Or_lineHolds 3 (some .boolean) :: TB) ({ frames := 0, cells := 0, slots := 0, locals := 0 }) (va_Pc [.ref pq_0, .int p_1, .int p_2] (PR dC dI (TW ct L f) (TT ct))) (vp_Si (fun r => ((r = 0 ∧ True) ∨ (r = 1 ∧ True)) ∧ Q r)) 0 0 (fun _ => False) := by
  refine Met.ofW (cc := b_Or_lineHolds) (maxL := 3) (ret := (some .boolean)) (by decide) rfl ?_
  intro p e s m args below meth c s₁ B hml hv
  obtain ⟨rfl, hP, hK, hN⟩ := hv
  have hx := B.exec
  have hb := B.bytes
  have hr := B.returns
  have hts := atoms_spec (ws := (.code y_Or_lineHolds b_Or_lineHolds 3 (some .boolean) :: TB)) B.pre
  have htb := fun w (h : w ∈ TB) => hts w (List.mem_cons_of_mem _ h)
  have hown : s.vm.findClass R_Or = some m.cls := findClass_of_methodNamed B.named
  have hlocks := B.notSynchronized
  have hl := lv_entry ([.ref pq_0, .int p_1, .int p_2]) (n := 3) (Nat.le_of_ble_eq_true rfl)
  rw [lg_entry_eq]
  generalize (lg_sl ([.ref pq_0, .int p_1, .int p_2]) ++ List.replicate (3 - (lg_sl ([.ref pq_0, .int p_1, .int p_2])).length) Slot.unset).toArray = ls at hl ⊢
  have hl : lv_has ls 3 [(0, .ref pq_0), (1, .int p_1), (2, .int p_2)] := hl
  unfold wp_Or_lineHolds_k16_w at hQ
  refine lv_aload_n hx hb d_Or_lineHolds_0 rfl (lv_at hl 0 rfl) ?_
  refine lv_iload_n hx hb d_Or_lineHolds_1 rfl (lv_at hl 1 rfl) ?_
  refine lv_iconst (v := 3) hx hb d_Or_lineHolds_2 (by decide +kernel) ?_
  refine lv_imul hx hb d_Or_lineHolds_3 ?_
  refine tw_aldI (ct := ct) hx hb hK hP hO_0 pm_0 rfl ((fun (a_0 : Int32) (k_0 : ¬ (a_0 < 0)) (k_1 : ¬ (11 < a_0)) => (show vp_in ((a_0 * 3)) 36 from by have z0 : (0 : Int32).toInt = 0 := (by decide +kernel); have z1 : (3 : Int32).toInt = 3 := (by decide +kernel); have z2 : (11 : Int32).toInt = 11 := (by decide +kernel); have r0 := fb_rng (a_0); have e0 := k_0; rw [Int32.lt_iff_toInt_lt, z0] at e0; have e1 := k_1; rw [Int32.lt_iff_toInt_lt, z2] at e1; obtain ⟨n_0, hn_0, s0⟩ := nd_mul (x := (a_0)) (y := (3 : Int32)) (by (try rw [z1]); omega) (by (try rw [z1]); omega); rw [z1] at s0; rw [hn_0, vp_in_iff]; omega)) p_1 as_0 as_1) d_Or_lineHolds_4 (fun x_1 e_1 b_1 => ?_)
  have hQ := hQ x_1 e_1
  refine lv_iload_n hx hb d_Or_lineHolds_5 rfl (lv_at hl 2 rfl) ?_
  refine lv_icmp_gt (tgt := 24) hx hb d_Or_lineHolds_6 (by decide) (fun c_2 => ?_) (fun c_2 => ?_)
  · have hQ := hQ.1 c_2
    refine lv_iconst (v := 0) hx hb d_Or_lineHolds_24 (by decide +kernel) ?_
    exact W.zret (v := 0) hx hb hr (by decide +kernel) (fun t ht hW => ⟨0, rfl, ⟨(Or.inl ⟨rfl, trivial⟩), hQ⟩, ht⟩) t_nil d_Or_lineHolds_25
  · have hQ := hQ.2 c_2
    refine lv_iload_n hx hb d_Or_lineHolds_9 rfl (lv_at hl 2 rfl) ?_
    refine lv_aload_n hx hb d_Or_lineHolds_10 rfl (lv_at hl 0 rfl) ?_
    refine lv_iload_n hx hb d_Or_lineHolds_11 rfl (lv_at hl 1 rfl) ?_
    refine lv_iconst (v := 3) hx hb d_Or_lineHolds_12 (by decide +kernel) ?_
    refine lv_imul hx hb d_Or_lineHolds_13 ?_
    refine lv_iconst (v := 1) hx hb d_Or_lineHolds_14 (by decide +kernel) ?_
    refine lv_iadd hx hb d_Or_lineHolds_15 ?_
    refine tw_aldI (ct := ct) hx hb hK hP hO_0 pm_0 rfl ((fun (a_0 : Int32) (k_0 : ¬ (a_0 < 0)) (k_1 : ¬ (11 < a_0)) => (show vp_in (((a_0 * 3) + 1)) 36 from by have z0 : (0 : Int32).toInt = 0 := (by decide +kernel); have z1 : (1 : Int32).toInt = 1 := (by decide +kernel); have z2 : (3 : Int32).toInt = 3 := (by decide +kernel); have z3 : (11 : Int32).toInt = 11 := (by decide +kernel); have r0 := fb_rng (a_0); have e0 := k_0; rw [Int32.lt_iff_toInt_lt, z0] at e0; have e1 := k_1; rw [Int32.lt_iff_toInt_lt, z3] at e1; obtain ⟨n_0, hn_0, s0⟩ := nd_mul (x := (a_0)) (y := (3 : Int32)) (by (try rw [z2]); omega) (by (try rw [z2]); omega); rw [z2] at s0; obtain ⟨n_1, hn_1, s1⟩ := nd_add (x := n_0) (y := (1 : Int32)) (by (try rw [z1]); omega) (by (try rw [z1]); omega); rw [z1] at s1; rw [hn_0, hn_1, vp_in_iff]; omega)) p_1 as_0 as_1) d_Or_lineHolds_16 (fun x_3 e_3 b_3 => ?_)
    have hQ := hQ x_3 e_3
    refine lv_icmp_gt (tgt := 24) hx hb d_Or_lineHolds_17 (by decide) (fun c_4 => ?_) (fun c_4 => ?_)
    · have hQ := hQ.1 c_4
      refine lv_iconst (v := 0) hx hb d_Or_lineHolds_24 (by decide +kernel) ?_
      exact W.zret (v := 0) hx hb hr (by decide +kernel) (fun t ht hW => ⟨0, rfl, ⟨(Or.inl ⟨rfl, trivial⟩), hQ⟩, ht⟩) t_nil d_Or_lineHolds_25
    · have hQ := hQ.2 c_4
      refine lv_iconst (v := 1) hx hb d_Or_lineHolds_20 (by decide +kernel) ?_
      refine lv_goto (tgt := 25) hx hb d_Or_lineHolds_21 (by decide) ?_
      exact W.zret (v := 1) hx hb hr (by decide +kernel) (fun t ht hW => ⟨1, rfl, ⟨(Or.inr ⟨rfl, trivial⟩), hQ⟩, ht⟩) t_nil d_Or_lineHolds_25
def wpB_Or_basePrice_w_2_1 (L : List Nat) (f : TF) (q0 : Nat) (p_0 : Int32) (Q : Int32 → Prop) (rec_1 : Int32 → Prop) (v2_1 : Int32) : Prop := ∀ x_2 : Int32, ti f q0 5 = x_2 → ((x_2 ≤ v2_1 → Q (-1)) ∧ (¬ (x_2 ≤ v2_1) → ∀ q_4 : Nat, tr f q0 2 = some q_4 → wp_Or_lineHolds_k16_w L f q_4 v2_1 p_0 (fun (r_5 : Int32) => ((r_5 = 0 → rec_1 (v2_1 + 1)) ∧ (r_5 = 1 → ∀ x_6 : Int32, ti f q_4 (((v2_1 * 3) + 2) : Int32).toNatClampNeg = x_6 → Q x_6)))))
def wpL_Or_basePrice_w_2_1 (L : List Nat) (f : TF) (q0 : Nat) (p_0 : Int32) (Q : Int32 → Prop) : Nat → Int32 → Prop
  | 0 => fun v2_1 => wpB_Or_basePrice_w_2_1 L f q0 p_0 Q (fun _ => True) v2_1
  | n + 1 => fun v2_1 => wpB_Or_basePrice_w_2_1 L f q0 p_0 Q (wpL_Or_basePrice_w_2_1 L f q0 p_0 Q n) v2_1
def wpR_Or_basePrice_w_2_1 (L : List Nat) (f : TF) (q0 : Nat) (p_0 : Int32) (Q : Int32 → Prop) : Nat → Int32 → Prop
  | 0 => fun _ => True
  | n + 1 => wpL_Or_basePrice_w_2_1 L f q0 p_0 Q n
theorem wpL_Or_basePrice_w_2_1_eq {L : List Nat} {f : TF} {q0 : Nat} {p_0 : Int32} {Q : Int32 → Prop} {n : Nat} : wpL_Or_basePrice_w_2_1 L f q0 p_0 Q n = wpB_Or_basePrice_w_2_1 L f q0 p_0 Q (wpR_Or_basePrice_w_2_1 L f q0 p_0 Q n) := by cases n <;> rfl
theorem wpR_Or_basePrice_w_2_1_pos {L : List Nat} {f : TF} {q0 : Nat} {p_0 : Int32} {Q : Int32 → Prop} {n : Nat} (h : 0 < n) : wpR_Or_basePrice_w_2_1 L f q0 p_0 Q n = wpL_Or_basePrice_w_2_1 L f q0 p_0 Q (n - 1) := by
  cases n with
  | zero => omega
  | succ n => rfl
def wp_Or_basePrice_w (L : List Nat) (f : TF) (q0 : Nat) (p_0 : Int32) (Q : Int32 → Prop) : Prop := wpL_Or_basePrice_w_2_1 L f q0 p_0 Q (((12 : Int32).toInt - (0 : Int32).toInt).toNat) (0 : Int32)
set_option maxHeartbeats 4000000 in
set_option maxRecDepth 100000 in
theorem c_Or_basePrice_w (l : Launch) (dC : Nat → ClassId) (dI : Nat → Nat → Nat) (ct : Nat → ClassId) (L : List Nat) (f : TF) (hO_0 : Ok L f) (q0 : Nat) (m0 : q0 ∈ L ∧ tk f q0 = 15) (p_0 : Int32)   (Q : Int32 → Prop) (hQ : wp_Or_basePrice_w L f q0 p_0 Q) : Met l y_Or_basePrice (.code y_Or_basePrice b_Or_basePrice 3 (some .int) :: TB) ({ frames := 1, cells := 0, slots := 0, locals := 22 }) (va_Pc [.ref q0, .int p_0] (PR dC dI (TW ct L f) (TT ct))) (vp_Si (fun r => (True) ∧ Q r)) 0 0 (fun _ => False) := by
  refine Met.ofW (cc := b_Or_basePrice) (maxL := 3) (ret := (some .int)) (by decide) rfl ?_
  intro p e s m args below meth c s₁ B hml hv
  obtain ⟨rfl, hP, hK, hN⟩ := hv
  have hx := B.exec
  have hb := B.bytes
  have hr := B.returns
  have hts := atoms_spec (ws := (.code y_Or_basePrice b_Or_basePrice 3 (some .int) :: TB)) B.pre
  have htb := fun w (h : w ∈ TB) => hts w (List.mem_cons_of_mem _ h)
  have hown : s.vm.findClass R_Or = some m.cls := findClass_of_methodNamed B.named
  have hlocks := B.notSynchronized
  have hl := lv_entry ([.ref q0, .int p_0]) (n := 3) (Nat.le_of_ble_eq_true rfl)
  rw [lg_entry_eq]
  generalize (lg_sl ([.ref q0, .int p_0]) ++ List.replicate (3 - (lg_sl ([.ref q0, .int p_0])).length) Slot.unset).toArray = ls at hl ⊢
  have hl : lv_has ls 3 [(0, .ref q0), (1, .int p_0)] := hl
  unfold wp_Or_basePrice_w at hQ
  refine lv_iconst (v := 0) hx hb d_Or_basePrice_0 (by decide +kernel) ?_
  refine lv_istore_n (lv' := [(2, .int 0), (0, .ref q0), (1, .int p_0)]) hx hb d_Or_basePrice_1 rfl hl (by decide) rfl (fun ls hl => ?_)
  have cut_1 : ∀ (n_1 : Nat) (v2_1 : Int32) (ls : Array Slot), ¬ (v2_1 < 0) → ¬ (12 < v2_1) → (12 : Int32).toInt - (v2_1 : Int32).toInt ≤ (n_1 : Int) → wpL_Or_basePrice_w_2_1 L f q0 p_0 Q n_1 v2_1 → lv_has ls 3 [(0, .ref q0), (1, .int p_0), (2, .int v2_1)] → W p l e (headSpec (.code y_Or_basePrice b_Or_basePrice 3 (some .int) :: TB) ({ frames := 1, cells := 0, slots := 0, locals := 22 })).room s m [.ref q0, .int p_0].toArray below meth c s.heap [] 0 0 (MQ below (vp_Si (fun r => (True) ∧ Q r)) [.ref q0, .int p_0].toArray s 0 0 (fun _ => False)) (F0 m 2 ls []) := by
    intro n_1
    induction n_1 using Nat.strongRecOn with
    | _ n_1 ih_1 =>
      intro v2_1 ls iv0_1 iv1_1 hm_1 hQ hl
      rw [wpL_Or_basePrice_w_2_1_eq] at hQ
      obtain ⟨rec_1, hrec_1⟩ : ∃ g, wpR_Or_basePrice_w_2_1 L f q0 p_0 Q n_1 = g := ⟨_, rfl⟩
      rw [hrec_1] at hQ
      unfold wpB_Or_basePrice_w_2_1 at hQ
      refine lv_iload_n hx hb d_Or_basePrice_2 rfl (lv_at hl 2 rfl) ?_
      refine lv_aload_n hx hb d_Or_basePrice_3 rfl (lv_at hl 0 rfl) ?_
      refine tw_geti (D := (dC, dI)) (C := R_Or) (T := F_Or) (N := 9) (ci := 3) (kd := 15) (ct := ct) hx hb htb i_Or hown hK hP hO_0 m0 rfl rfl 5 (by decide) (htb (.fieldLink R_Or 23 "WaterMen$Order" "fareCount" "I") tw_246) (fun _ h9 => h9) rfl d_Or_basePrice_4 (fun x_2 e_2 b_2 => ?_)
      have hQ := hQ x_2 e_2
      refine lv_icmp_ge (tgt := 39) hx hb d_Or_basePrice_7 (by decide) (fun c_3 => ?_) (fun c_3 => ?_)
      · have hQ := hQ.1 c_3
        refine lv_iconst (v := (-1)) hx hb d_Or_basePrice_39 (by decide +kernel) ?_
        exact W.iret (v := (-1)) hx hb hr (fun t ht hW => ⟨(-1), rfl, ⟨trivial, hQ⟩, ht⟩) t_nil d_Or_basePrice_40
      · have hQ := hQ.2 c_3
        refine lv_aload_n hx hb d_Or_basePrice_10 rfl (lv_at hl 0 rfl) ?_
        refine tw_getr (D := (dC, dI)) (C := R_Or) (T := F_Or) (N := 9) (ci := 3) (kd := 15) (ct := ct) hx hb htb i_Or hown hK hP hO_0 m0 rfl rfl 2 (by decide) (htb (.fieldLink R_Or 9 "WaterMen$Order" "fares" "[I") tw_304) (fun _ h9 => h9) rfl d_Or_basePrice_11 (fun q_4 e_4 m_4 => ?_)
        have hQ := hQ q_4 e_4
        refine lv_iload_n hx hb d_Or_basePrice_14 rfl (lv_at hl 2 rfl) ?_
        refine lv_iload_n hx hb d_Or_basePrice_15 rfl (lv_at hl 1 rfl) ?_
        refine vp_callSi (va_Run.run (va_runS (As := [.ref q_4, .int v2_1, .int p_0]) (rest := []) ⟨hx, hb, hml, hown, htb⟩ (c_Or_lineHolds_k16_w l dC dI ct L f hO_0 q_4 m_4 v2_1 p_0 iv0_1 (show ¬ (11 < v2_1) from ((fun (a_0 : Int32) (a_1 : Int32) (k_0 : ¬ (a_1 ≤ a_0)) (k_1 : ¬ (12 < a_1)) => (show ¬ (11 < a_0) from by have z0 : (11 : Int32).toInt = 11 := (by decide +kernel); have z1 : (12 : Int32).toInt = 12 := (by decide +kernel); have r0 := fb_rng (a_0); have r1 := fb_rng (a_1); have e0 := k_0; rw [Int32.le_iff_toInt_le] at e0; have e1 := k_1; rw [Int32.lt_iff_toInt_lt, z1] at e1; rw [Int32.lt_iff_toInt_lt, z0]; omega)) v2_1 x_2 c_3 b_2.2)) _ hQ) (cwS 3 htb (gd_S tw_417 tw_418 tw_250 tw_416) rfl rfl rfl (by decide +kernel) ⟨Nat.le_of_ble_eq_true rfl, Nat.le_of_ble_eq_true rfl⟩) ⟨pr_blind, pr_pre hP hK hN⟩ rfl rfl hl.1 rfl (lv_room (Nat.le_of_ble_eq_true rfl)) d_Or_basePrice_16 ⟨Nat.le_of_ble_eq_true rfl, Nat.le_of_ble_eq_true rfl⟩)) (fun r_5 er_5 => ?_)
        obtain ⟨er_5, hQ⟩ := er_5
        rcases er_5 with ⟨rfl, -⟩ | ⟨rfl, -⟩
        · have hQ := hQ.1 rfl
          refine lv_if_eq (tgt := 33) hx hb d_Or_basePrice_19 (by decide) (fun _ => ?_) (fun h => absurd (by decide +kernel) h)
          refine lv_iinc (v := (v2_1 + 1)) (lv' := [(2, .int (v2_1 + 1)), (0, .ref q0), (1, .int p_0)]) hx hb d_Or_basePrice_33 hl (k := 2) rfl rfl (by decide) rfl (fun ls hl => ?_)
          refine lv_goto (tgt := 2) hx hb d_Or_basePrice_36 (by decide) ?_
          exact ih_1 (n_1 - 1) (ms_1 ((fun (a_0 : Int32) (a_1 : Int32) (k_0 : ¬ (a_1 ≤ a_0)) (k_1 : ¬ (12 < a_1)) => (show 1 ≤ (12 : Int32).toInt - (a_0).toInt ∧ (12 : Int32).toInt - ((a_0) + (1 : Int32)).toInt + 1 ≤ (12 : Int32).toInt - (a_0).toInt from by have z0 : (1 : Int32).toInt = 1 := (by decide +kernel); have z1 : (12 : Int32).toInt = 12 := (by decide +kernel); have r0 := fb_rng (a_0); have r1 := fb_rng (a_1); have e0 := k_0; rw [Int32.le_iff_toInt_le] at e0; have e1 := k_1; rw [Int32.lt_iff_toInt_lt, z1] at e1; obtain ⟨n_0, hn_0, s0⟩ := nd_add (x := (a_0)) (y := (1 : Int32)) (by (try rw [z0]); omega) (by (try rw [z0]); omega); rw [z0] at s0; rw [hn_0]; (try rw [z1]); omega)) v2_1 x_2 c_3 b_2.2) hm_1) (v2_1 + 1) _ (show ¬ ((v2_1 + 1) < 0) from by have e0 := iv0_1; rw [Int32.lt_iff_toInt_lt] at e0; have e1 := iv1_1; rw [Int32.lt_iff_toInt_lt] at e1; have z0 : (0 : Int32).toInt = 0 := (by decide +kernel); have z1 : (1 : Int32).toInt = 1 := (by decide +kernel); have z2 : (12 : Int32).toInt = 12 := (by decide +kernel); have ss := fb_addI (x := v2_1) (y := 1) (by omega) (by omega); rw [Int32.lt_iff_toInt_lt]; omega) (show ¬ (12 < (v2_1 + 1)) from ((fun (a_0 : Int32) (a_1 : Int32) (k_0 : ¬ (a_1 ≤ a_0)) (k_1 : ¬ (12 < a_1)) => (show ¬ (12 < (a_0 + 1)) from by have z0 : (1 : Int32).toInt = 1 := (by decide +kernel); have z1 : (12 : Int32).toInt = 12 := (by decide +kernel); have r0 := fb_rng (a_0); have r1 := fb_rng (a_1); have e0 := k_0; rw [Int32.le_iff_toInt_le] at e0; have e1 := k_1; rw [Int32.lt_iff_toInt_lt, z1] at e1; obtain ⟨n_0, hn_0, s0⟩ := nd_add (x := (a_0)) (y := (1 : Int32)) (by (try rw [z0]); omega) (by (try rw [z0]); omega); rw [z0] at s0; rw [hn_0, Int32.lt_iff_toInt_lt, z1]; omega)) v2_1 x_2 c_3 b_2.2)) (by exact ms_2 ((fun (a_0 : Int32) (a_1 : Int32) (k_0 : ¬ (a_1 ≤ a_0)) (k_1 : ¬ (12 < a_1)) => (show 1 ≤ (12 : Int32).toInt - (a_0).toInt ∧ (12 : Int32).toInt - ((a_0) + (1 : Int32)).toInt + 1 ≤ (12 : Int32).toInt - (a_0).toInt from by have z0 : (1 : Int32).toInt = 1 := (by decide +kernel); have z1 : (12 : Int32).toInt = 12 := (by decide +kernel); have r0 := fb_rng (a_0); have r1 := fb_rng (a_1); have e0 := k_0; rw [Int32.le_iff_toInt_le] at e0; have e1 := k_1; rw [Int32.lt_iff_toInt_lt, z1] at e1; obtain ⟨n_0, hn_0, s0⟩ := nd_add (x := (a_0)) (y := (1 : Int32)) (by (try rw [z0]); omega) (by (try rw [z0]); omega); rw [z0] at s0; rw [hn_0]; (try rw [z1]); omega)) v2_1 x_2 c_3 b_2.2) hm_1) (by rw [← hrec_1, wpR_Or_basePrice_w_2_1_pos (ms_3 ((fun (a_0 : Int32) (a_1 : Int32) (k_0 : ¬ (a_1 ≤ a_0)) (k_1 : ¬ (12 < a_1)) => (show 1 ≤ (12 : Int32).toInt - (a_0).toInt ∧ (12 : Int32).toInt - ((a_0) + (1 : Int32)).toInt + 1 ≤ (12 : Int32).toInt - (a_0).toInt from by have z0 : (1 : Int32).toInt = 1 := (by decide +kernel); have z1 : (12 : Int32).toInt = 12 := (by decide +kernel); have r0 := fb_rng (a_0); have r1 := fb_rng (a_1); have e0 := k_0; rw [Int32.le_iff_toInt_le] at e0; have e1 := k_1; rw [Int32.lt_iff_toInt_lt, z1] at e1; obtain ⟨n_0, hn_0, s0⟩ := nd_add (x := (a_0)) (y := (1 : Int32)) (by (try rw [z0]); omega) (by (try rw [z0]); omega); rw [z0] at s0; rw [hn_0]; (try rw [z1]); omega)) v2_1 x_2 c_3 b_2.2) hm_1)] at hQ; exact hQ) (lv_sub hl [1, 2, 0] rfl)
        · have hQ := hQ.2 rfl
          refine lv_if_eq (tgt := 33) hx hb d_Or_basePrice_19 (by decide) (fun h => absurd h (by decide +kernel)) (fun _ => ?_)
          refine lv_aload_n hx hb d_Or_basePrice_22 rfl (lv_at hl 0 rfl) ?_
          refine tw_getR (D := (dC, dI)) (C := R_Or) (T := F_Or) (N := 9) (ci := 3) (kd := 15) (ct := ct) hx hb htb i_Or hown hK hP m0 rfl rfl 2 e_4 (by decide) (htb (.fieldLink R_Or 9 "WaterMen$Order" "fares" "[I") tw_304) (fun _ h9 => h9) rfl d_Or_basePrice_23 ?_
          refine hb_tv (.ref q_4) rfl ?_
          refine lv_iload_n hx hb d_Or_basePrice_26 rfl (lv_at hl 2 rfl) ?_
          refine lv_iconst (v := 3) hx hb d_Or_basePrice_27 (by decide +kernel) ?_
          refine lv_imul hx hb d_Or_basePrice_28 ?_
          refine lv_iconst (v := 2) hx hb d_Or_basePrice_29 (by decide +kernel) ?_
          refine lv_iadd hx hb d_Or_basePrice_30 ?_
          refine tw_aldI (ct := ct) hx hb hK hP hO_0 m_4 rfl ((fun (a_0 : Int32) (a_1 : Int32) (k_0 : ¬ (a_0 < 0)) (k_1 : ¬ (a_1 ≤ a_0)) (k_2 : ¬ (12 < a_1)) => (show vp_in (((a_0 * 3) + 2)) 36 from by have z0 : (0 : Int32).toInt = 0 := (by decide +kernel); have z1 : (2 : Int32).toInt = 2 := (by decide +kernel); have z2 : (3 : Int32).toInt = 3 := (by decide +kernel); have z3 : (12 : Int32).toInt = 12 := (by decide +kernel); have r0 := fb_rng (a_0); have r1 := fb_rng (a_1); have e0 := k_0; rw [Int32.lt_iff_toInt_lt, z0] at e0; have e1 := k_1; rw [Int32.le_iff_toInt_le] at e1; have e2 := k_2; rw [Int32.lt_iff_toInt_lt, z3] at e2; obtain ⟨n_0, hn_0, s0⟩ := nd_mul (x := (a_0)) (y := (3 : Int32)) (by (try rw [z2]); omega) (by (try rw [z2]); omega); rw [z2] at s0; obtain ⟨n_1, hn_1, s1⟩ := nd_add (x := n_0) (y := (2 : Int32)) (by (try rw [z1]); omega) (by (try rw [z1]); omega); rw [z1] at s1; rw [hn_0, hn_1, vp_in_iff]; omega)) v2_1 x_2 iv0_1 c_3 b_2.2) d_Or_basePrice_31 (fun x_6 e_6 b_6 => ?_)
          have hQ := hQ x_6 e_6
          exact W.iret (v := x_6) hx hb hr (fun t ht hW => ⟨x_6, rfl, ⟨trivial, hQ⟩, ht⟩) t_nil d_Or_basePrice_32
  exact cut_1 ((12 : Int32).toInt - (0 : Int32).toInt).toNat (0 : Int32) _ (by decide +kernel) (by decide +kernel) (by exact ms_e _ _) hQ (lv_sub hl [1, 2, 0] rfl)
def wp_Or_scaled_w (L : List Nat) (f : TF) (p_0 : Int32) (p_1 : Int32) (Q : Int32 → Prop) : Prop := ((p_1 = (-1) → Q p_0) ∧ (¬ (p_1 = (-1)) → ∀ y_2 : Int64, y_2 = ((p_0 : Int32).toInt64 : Int64) * ((p_1 : Int32).toInt64 : Int64) → ∀ y_3 : Int64, y_3 = (y_2 : Int64) / (100 : Int64) → ∀ y_4 : Int32, y_4 = lg_cmp (y_3 : Int64) (1000000 : Int64) → ((y_4 ≤ 0 → ∀ y_6 : Int32, y_6 = (y_3 : Int64).toInt32 → Q y_6) ∧ (¬ (y_4 ≤ 0) → Q 1000000))))
set_option maxHeartbeats 4000000 in
set_option maxRecDepth 100000 in
theorem c_Or_scaled_w (l : Launch) (dC : Nat → ClassId) (dI : Nat → Nat → Nat) (ct : Nat → ClassId) (L : List Nat) (f : TF) (hO_0 : Ok L f) (p_0 : Int32) (p_1 : Int32)   (Q : Int32 → Prop) (hQ : wp_Or_scaled_w L f p_0 p_1 Q) : Met l y_Or_scaled (.code y_Or_scaled b_Or_scaled 4 (some .int) :: TB) ({ frames := 0, cells := 0, slots := 0, locals := 0 }) (va_Pc [.int p_0, .int p_1] (PR dC dI (TW ct L f) (TT ct))) (vp_Si (fun r => (True) ∧ Q r)) 0 0 (fun _ => False) := by
  refine Met.ofW (cc := b_Or_scaled) (maxL := 4) (ret := (some .int)) (by decide) rfl ?_
  intro p e s m args below meth c s₁ B hml hv
  obtain ⟨rfl, hP, hK, hN⟩ := hv
  have hx := B.exec
  have hb := B.bytes
  have hr := B.returns
  have hts := atoms_spec (ws := (.code y_Or_scaled b_Or_scaled 4 (some .int) :: TB)) B.pre
  have htb := fun w (h : w ∈ TB) => hts w (List.mem_cons_of_mem _ h)
  have hown : s.vm.findClass R_Or = some m.cls := findClass_of_methodNamed B.named
  have hlocks := B.notSynchronized
  have hl := lv_entry ([.int p_0, .int p_1]) (n := 4) (Nat.le_of_ble_eq_true rfl)
  rw [lg_entry_eq]
  generalize (lg_sl ([.int p_0, .int p_1]) ++ List.replicate (4 - (lg_sl ([.int p_0, .int p_1])).length) Slot.unset).toArray = ls at hl ⊢
  have hl : lv_has ls 4 [(0, .int p_0), (1, .int p_1)] := hl
  unfold wp_Or_scaled_w at hQ
  refine lv_iload_n hx hb d_Or_scaled_0 rfl (lv_at hl 1 rfl) ?_
  refine lv_iconst (v := (-1)) hx hb d_Or_scaled_1 (by decide +kernel) ?_
  refine lv_icmp_ne (tgt := 7) hx hb d_Or_scaled_2 (by decide) (fun c_1 => ?_) (fun c_1 => ?_)
  · have hQ := hQ.2 c_1
    refine lv_iload_n hx hb d_Or_scaled_7 rfl (lv_at hl 0 rfl) ?_
    refine lv_i2l hx hb d_Or_scaled_8 rfl ?_
    refine lv_iload_n hx hb d_Or_scaled_9 rfl (lv_at hl 1 rfl) ?_
    refine lv_i2l hx hb d_Or_scaled_10 rfl ?_
    refine lv_lmul hx hb d_Or_scaled_11 ?_
    refine hb_eql (fun y_2 hy_2 => ?_)
    have hQ := hQ y_2 hy_2
    refine lv_ldc2 (v := 100) hx hb hown (htb (.constantLong R_Or 61 100) tw_423) d_Or_scaled_12 ?_
    refine lv_ldiv hx hb d_Or_scaled_15 (by decide) ?_
    refine hb_eql (fun y_3 hy_3 => ?_)
    have hQ := hQ y_3 hy_3
    refine lv_lstore_n (lv' := [(2, .long y_3), (0, .int p_0), (1, .int p_1)]) hx hb d_Or_scaled_16 rfl hl (by decide) rfl (fun ls hl => ?_)
    refine lv_lload_n hx hb d_Or_scaled_17 rfl (lv_at hl 0 rfl) ?_
    refine lv_ldc2 (v := 1000000) hx hb hown (htb (.constantLong R_Or 63 1000000) tw_424) d_Or_scaled_18 ?_
    refine W.lcmp hx hb d_Or_scaled_21 ?_
    refine hb_eqi (fun y_4 hy_4 => ?_)
    have hQ := hQ y_4 hy_4
    refine lv_if_le (tgt := 30) hx hb d_Or_scaled_22 (by decide) (fun c_5 => ?_) (fun c_5 => ?_)
    · have hQ := hQ.1 c_5
      refine lv_lload_n hx hb d_Or_scaled_30 rfl (lv_at hl 0 rfl) ?_
      refine lv_l2i hx hb d_Or_scaled_31 rfl ?_
      refine hb_eqi (fun y_6 hy_6 => ?_)
      have hQ := hQ y_6 hy_6
      exact W.iret (v := y_6) hx hb hr (fun t ht hW => ⟨y_6, rfl, ⟨trivial, hQ⟩, ht⟩) t_nil d_Or_scaled_32
    · have hQ := hQ.2 c_5
      refine lv_ldc (v := 1000000) hx hb hown (htb (.constant R_Or 65 1000000) tw_425) d_Or_scaled_25 ?_
      refine lv_goto (tgt := 32) hx hb d_Or_scaled_27 (by decide) ?_
      exact W.iret (v := 1000000) hx hb hr (fun t ht hW => ⟨1000000, rfl, ⟨trivial, hQ⟩, ht⟩) t_nil d_Or_scaled_32
  · have hQ := hQ.1 c_1
    refine lv_iload_n hx hb d_Or_scaled_5 rfl (lv_at hl 0 rfl) ?_
    exact W.iret (v := p_0) hx hb hr (fun t ht hW => ⟨p_0, rfl, ⟨trivial, hQ⟩, ht⟩) t_nil d_Or_scaled_6
def wp_Or_lineHolds_k17_w (L : List Nat) (f : TF) (pq_0 : Nat) (p_1 : Int32) (p_2 : Int32) (Q : Int32 → Prop) : Prop := ∀ x_1 : Int32, ti f pq_0 ((p_1 * 3) : Int32).toNatClampNeg = x_1 → ((p_2 < x_1 → Q 0) ∧ (¬ (p_2 < x_1) → ∀ x_3 : Int32, ti f pq_0 (((p_1 * 3) + 1) : Int32).toNatClampNeg = x_3 → ((x_3 < p_2 → Q 0) ∧ (¬ (x_3 < p_2) → Q 1))))
set_option maxHeartbeats 4000000 in
set_option maxRecDepth 100000 in
theorem c_Or_lineHolds_k17_w (l : Launch) (dC : Nat → ClassId) (dI : Nat → Nat → Nat) (ct : Nat → ClassId) (L : List Nat) (f : TF) (hO_0 : Ok L f) (pq_0 : Nat) (pm_0 : pq_0 ∈ L ∧ tk f pq_0 = 17) (p_1 : Int32) (p_2 : Int32)  (as_0 : ¬ (p_1 < 0)) (as_1 : ¬ (11 < p_1)) (Q : Int32 → Prop) (hQ : wp_Or_lineHolds_k17_w L f pq_0 p_1 p_2 Q) : Met l y_Or_lineHolds (.code y_Or_lineHolds b_Or_lineHolds 3 (some .boolean) :: TB) ({ frames := 0, cells := 0, slots := 0, locals := 0 }) (va_Pc [.ref pq_0, .int p_1, .int p_2] (PR dC dI (TW ct L f) (TT ct))) (vp_Si (fun r => ((r = 0 ∧ True) ∨ (r = 1 ∧ True)) ∧ Q r)) 0 0 (fun _ => False) := by
  refine Met.ofW (cc := b_Or_lineHolds) (maxL := 3) (ret := (some .boolean)) (by decide) rfl ?_
  intro p e s m args below meth c s₁ B hml hv
  obtain ⟨rfl, hP, hK, hN⟩ := hv
  have hx := B.exec
  have hb := B.bytes
  have hr := B.returns
  have hts := atoms_spec (ws := (.code y_Or_lineHolds b_Or_lineHolds 3 (some .boolean) :: TB)) B.pre
  have htb := fun w (h : w ∈ TB) => hts w (List.mem_cons_of_mem _ h)
  have hown : s.vm.findClass R_Or = some m.cls := findClass_of_methodNamed B.named
  have hlocks := B.notSynchronized
  have hl := lv_entry ([.ref pq_0, .int p_1, .int p_2]) (n := 3) (Nat.le_of_ble_eq_true rfl)
  rw [lg_entry_eq]
  generalize (lg_sl ([.ref pq_0, .int p_1, .int p_2]) ++ List.replicate (3 - (lg_sl ([.ref pq_0, .int p_1, .int p_2])).length) Slot.unset).toArray = ls at hl ⊢
  have hl : lv_has ls 3 [(0, .ref pq_0), (1, .int p_1), (2, .int p_2)] := hl
  unfold wp_Or_lineHolds_k17_w at hQ
  refine lv_aload_n hx hb d_Or_lineHolds_0 rfl (lv_at hl 0 rfl) ?_
  refine lv_iload_n hx hb d_Or_lineHolds_1 rfl (lv_at hl 1 rfl) ?_
  refine lv_iconst (v := 3) hx hb d_Or_lineHolds_2 (by decide +kernel) ?_
  refine lv_imul hx hb d_Or_lineHolds_3 ?_
  refine tw_aldI (ct := ct) hx hb hK hP hO_0 pm_0 rfl ((fun (a_0 : Int32) (k_0 : ¬ (a_0 < 0)) (k_1 : ¬ (11 < a_0)) => (show vp_in ((a_0 * 3)) 36 from by have z0 : (0 : Int32).toInt = 0 := (by decide +kernel); have z1 : (3 : Int32).toInt = 3 := (by decide +kernel); have z2 : (11 : Int32).toInt = 11 := (by decide +kernel); have r0 := fb_rng (a_0); have e0 := k_0; rw [Int32.lt_iff_toInt_lt, z0] at e0; have e1 := k_1; rw [Int32.lt_iff_toInt_lt, z2] at e1; obtain ⟨n_0, hn_0, s0⟩ := nd_mul (x := (a_0)) (y := (3 : Int32)) (by (try rw [z1]); omega) (by (try rw [z1]); omega); rw [z1] at s0; rw [hn_0, vp_in_iff]; omega)) p_1 as_0 as_1) d_Or_lineHolds_4 (fun x_1 e_1 b_1 => ?_)
  have hQ := hQ x_1 e_1
  refine lv_iload_n hx hb d_Or_lineHolds_5 rfl (lv_at hl 2 rfl) ?_
  refine lv_icmp_gt (tgt := 24) hx hb d_Or_lineHolds_6 (by decide) (fun c_2 => ?_) (fun c_2 => ?_)
  · have hQ := hQ.1 c_2
    refine lv_iconst (v := 0) hx hb d_Or_lineHolds_24 (by decide +kernel) ?_
    exact W.zret (v := 0) hx hb hr (by decide +kernel) (fun t ht hW => ⟨0, rfl, ⟨(Or.inl ⟨rfl, trivial⟩), hQ⟩, ht⟩) t_nil d_Or_lineHolds_25
  · have hQ := hQ.2 c_2
    refine lv_iload_n hx hb d_Or_lineHolds_9 rfl (lv_at hl 2 rfl) ?_
    refine lv_aload_n hx hb d_Or_lineHolds_10 rfl (lv_at hl 0 rfl) ?_
    refine lv_iload_n hx hb d_Or_lineHolds_11 rfl (lv_at hl 1 rfl) ?_
    refine lv_iconst (v := 3) hx hb d_Or_lineHolds_12 (by decide +kernel) ?_
    refine lv_imul hx hb d_Or_lineHolds_13 ?_
    refine lv_iconst (v := 1) hx hb d_Or_lineHolds_14 (by decide +kernel) ?_
    refine lv_iadd hx hb d_Or_lineHolds_15 ?_
    refine tw_aldI (ct := ct) hx hb hK hP hO_0 pm_0 rfl ((fun (a_0 : Int32) (k_0 : ¬ (a_0 < 0)) (k_1 : ¬ (11 < a_0)) => (show vp_in (((a_0 * 3) + 1)) 36 from by have z0 : (0 : Int32).toInt = 0 := (by decide +kernel); have z1 : (1 : Int32).toInt = 1 := (by decide +kernel); have z2 : (3 : Int32).toInt = 3 := (by decide +kernel); have z3 : (11 : Int32).toInt = 11 := (by decide +kernel); have r0 := fb_rng (a_0); have e0 := k_0; rw [Int32.lt_iff_toInt_lt, z0] at e0; have e1 := k_1; rw [Int32.lt_iff_toInt_lt, z3] at e1; obtain ⟨n_0, hn_0, s0⟩ := nd_mul (x := (a_0)) (y := (3 : Int32)) (by (try rw [z2]); omega) (by (try rw [z2]); omega); rw [z2] at s0; obtain ⟨n_1, hn_1, s1⟩ := nd_add (x := n_0) (y := (1 : Int32)) (by (try rw [z1]); omega) (by (try rw [z1]); omega); rw [z1] at s1; rw [hn_0, hn_1, vp_in_iff]; omega)) p_1 as_0 as_1) d_Or_lineHolds_16 (fun x_3 e_3 b_3 => ?_)
    have hQ := hQ x_3 e_3
    refine lv_icmp_gt (tgt := 24) hx hb d_Or_lineHolds_17 (by decide) (fun c_4 => ?_) (fun c_4 => ?_)
    · have hQ := hQ.1 c_4
      refine lv_iconst (v := 0) hx hb d_Or_lineHolds_24 (by decide +kernel) ?_
      exact W.zret (v := 0) hx hb hr (by decide +kernel) (fun t ht hW => ⟨0, rfl, ⟨(Or.inl ⟨rfl, trivial⟩), hQ⟩, ht⟩) t_nil d_Or_lineHolds_25
    · have hQ := hQ.2 c_4
      refine lv_iconst (v := 1) hx hb d_Or_lineHolds_20 (by decide +kernel) ?_
      refine lv_goto (tgt := 25) hx hb d_Or_lineHolds_21 (by decide) ?_
      exact W.zret (v := 1) hx hb hr (by decide +kernel) (fun t ht hW => ⟨1, rfl, ⟨(Or.inr ⟨rfl, trivial⟩), hQ⟩, ht⟩) t_nil d_Or_lineHolds_25
def wpB_Or_price_w_55_5 (L : List Nat) (f : TF) (q0 : Nat) (p_0 : Int32) (p_1 : Int32) (p_2 : Int32) (p_3 : Int32) (p_4 : Int32) (r_1 : Int32) (Q : Int32 → Prop) (rec_5 : Int32 → Int32 → Prop) (v6_5 : Int32) (v7_5 : Int32) : Prop := ∀ x_6 : Int32, ti f q0 6 = x_6 → ((x_6 ≤ v7_5 → (((p_2 - p_2 / 7 * 7) = 0 → ∀ q_10 : Nat, tr f q0 4 = some q_10 → ∀ x_11 : Int32, ti f q_10 (4 : Int32).toNatClampNeg = x_11 → wp_Or_scaled_w L f v6_5 x_11 (fun (r_12 : Int32) => ((p_4 = 2 → ∀ x_16 : Int32, ti f q_10 (8 : Int32).toNatClampNeg = x_16 → wp_Or_scaled_w L f r_12 x_16 (fun (r_17 : Int32) => ∀ x_18 : Int32, ti f q_10 (5 : Int32).toNatClampNeg = x_18 → ∀ y_19 : Int32, y_19 = (if r_17 < x_18 then x_18 else r_17) → Q y_19)) ∧ (¬ (p_4 = 2) → ∀ x_14 : Int32, ti f q_10 (5 : Int32).toNatClampNeg = x_14 → ∀ y_15 : Int32, y_15 = (if r_12 < x_14 then x_14 else r_12) → Q y_15)))) ∧ (¬ ((p_2 - p_2 / 7 * 7) = 0) → ((p_4 = 2 → ∀ q_24 : Nat, tr f q0 4 = some q_24 → ∀ x_25 : Int32, ti f q_24 (8 : Int32).toNatClampNeg = x_25 → wp_Or_scaled_w L f v6_5 x_25 (fun (r_26 : Int32) => ∀ x_27 : Int32, ti f q_24 (5 : Int32).toNatClampNeg = x_27 → ∀ y_28 : Int32, y_28 = (if r_26 < x_27 then x_27 else r_26) → Q y_28)) ∧ (¬ (p_4 = 2) → ∀ q_21 : Nat, tr f q0 4 = some q_21 → ∀ x_22 : Int32, ti f q_21 (5 : Int32).toNatClampNeg = x_22 → ∀ y_23 : Int32, y_23 = (if v6_5 < x_22 then x_22 else v6_5) → Q y_23))))) ∧ (¬ (x_6 ≤ v7_5) → ∀ q_29 : Nat, tr f q0 3 = some q_29 → wp_Or_lineHolds_k17_w L f q_29 v7_5 p_3 (fun (r_30 : Int32) => ((r_30 = 0 → rec_5 v6_5 (v7_5 + 1)) ∧ (r_30 = 1 → ∀ x_31 : Int32, ti f q_29 (((v7_5 * 3) + 2) : Int32).toNatClampNeg = x_31 → wp_Or_scaled_w L f v6_5 x_31 (fun (r_32 : Int32) => rec_5 r_32 (v7_5 + 1)))))))
def wpL_Or_price_w_55_5 (L : List Nat) (f : TF) (q0 : Nat) (p_0 : Int32) (p_1 : Int32) (p_2 : Int32) (p_3 : Int32) (p_4 : Int32) (r_1 : Int32) (Q : Int32 → Prop) : Nat → Int32 → Int32 → Prop
  | 0 => fun v6_5 v7_5 => wpB_Or_price_w_55_5 L f q0 p_0 p_1 p_2 p_3 p_4 r_1 Q (fun _ _ => True) v6_5 v7_5
  | n + 1 => fun v6_5 v7_5 => wpB_Or_price_w_55_5 L f q0 p_0 p_1 p_2 p_3 p_4 r_1 Q (wpL_Or_price_w_55_5 L f q0 p_0 p_1 p_2 p_3 p_4 r_1 Q n) v6_5 v7_5
def wpR_Or_price_w_55_5 (L : List Nat) (f : TF) (q0 : Nat) (p_0 : Int32) (p_1 : Int32) (p_2 : Int32) (p_3 : Int32) (p_4 : Int32) (r_1 : Int32) (Q : Int32 → Prop) : Nat → Int32 → Int32 → Prop
  | 0 => fun _ _ => True
  | n + 1 => wpL_Or_price_w_55_5 L f q0 p_0 p_1 p_2 p_3 p_4 r_1 Q n
theorem wpL_Or_price_w_55_5_eq {L : List Nat} {f : TF} {q0 : Nat} {p_0 : Int32} {p_1 : Int32} {p_2 : Int32} {p_3 : Int32} {p_4 : Int32} {r_1 : Int32} {Q : Int32 → Prop} {n : Nat} : wpL_Or_price_w_55_5 L f q0 p_0 p_1 p_2 p_3 p_4 r_1 Q n = wpB_Or_price_w_55_5 L f q0 p_0 p_1 p_2 p_3 p_4 r_1 Q (wpR_Or_price_w_55_5 L f q0 p_0 p_1 p_2 p_3 p_4 r_1 Q n) := by cases n <;> rfl
theorem wpR_Or_price_w_55_5_pos {L : List Nat} {f : TF} {q0 : Nat} {p_0 : Int32} {p_1 : Int32} {p_2 : Int32} {p_3 : Int32} {p_4 : Int32} {r_1 : Int32} {Q : Int32 → Prop} {n : Nat} (h : 0 < n) : wpR_Or_price_w_55_5 L f q0 p_0 p_1 p_2 p_3 p_4 r_1 Q n = wpL_Or_price_w_55_5 L f q0 p_0 p_1 p_2 p_3 p_4 r_1 Q (n - 1) := by
  cases n with
  | zero => omega
  | succ n => rfl
def wpB_Or_price_w_55_36 (L : List Nat) (f : TF) (q0 : Nat) (p_0 : Int32) (p_1 : Int32) (p_2 : Int32) (p_3 : Int32) (p_4 : Int32) (r_1 : Int32) (q_33 : Nat) (x_34 : Int32) (r_35 : Int32) (Q : Int32 → Prop) (rec_36 : Int32 → Int32 → Prop) (v6_36 : Int32) (v7_36 : Int32) : Prop := ∀ x_37 : Int32, ti f q0 6 = x_37 → ((x_37 ≤ v7_36 → (((p_2 - p_2 / 7 * 7) = 0 → ∀ x_41 : Int32, ti f q_33 (4 : Int32).toNatClampNeg = x_41 → wp_Or_scaled_w L f v6_36 x_41 (fun (r_42 : Int32) => ((p_4 = 2 → ∀ x_46 : Int32, ti f q_33 (8 : Int32).toNatClampNeg = x_46 → wp_Or_scaled_w L f r_42 x_46 (fun (r_47 : Int32) => ∀ x_48 : Int32, ti f q_33 (5 : Int32).toNatClampNeg = x_48 → ∀ y_49 : Int32, y_49 = (if r_47 < x_48 then x_48 else r_47) → Q y_49)) ∧ (¬ (p_4 = 2) → ∀ x_44 : Int32, ti f q_33 (5 : Int32).toNatClampNeg = x_44 → ∀ y_45 : Int32, y_45 = (if r_42 < x_44 then x_44 else r_42) → Q y_45)))) ∧ (¬ ((p_2 - p_2 / 7 * 7) = 0) → ((p_4 = 2 → ∀ x_53 : Int32, ti f q_33 (8 : Int32).toNatClampNeg = x_53 → wp_Or_scaled_w L f v6_36 x_53 (fun (r_54 : Int32) => ∀ x_55 : Int32, ti f q_33 (5 : Int32).toNatClampNeg = x_55 → ∀ y_56 : Int32, y_56 = (if r_54 < x_55 then x_55 else r_54) → Q y_56)) ∧ (¬ (p_4 = 2) → ∀ x_51 : Int32, ti f q_33 (5 : Int32).toNatClampNeg = x_51 → ∀ y_52 : Int32, y_52 = (if v6_36 < x_51 then x_51 else v6_36) → Q y_52))))) ∧ (¬ (x_37 ≤ v7_36) → ∀ q_57 : Nat, tr f q0 3 = some q_57 → wp_Or_lineHolds_k17_w L f q_57 v7_36 p_3 (fun (r_58 : Int32) => ((r_58 = 0 → rec_36 v6_36 (v7_36 + 1)) ∧ (r_58 = 1 → ∀ x_59 : Int32, ti f q_57 (((v7_36 * 3) + 2) : Int32).toNatClampNeg = x_59 → wp_Or_scaled_w L f v6_36 x_59 (fun (r_60 : Int32) => rec_36 r_60 (v7_36 + 1)))))))
def wpL_Or_price_w_55_36 (L : List Nat) (f : TF) (q0 : Nat) (p_0 : Int32) (p_1 : Int32) (p_2 : Int32) (p_3 : Int32) (p_4 : Int32) (r_1 : Int32) (q_33 : Nat) (x_34 : Int32) (r_35 : Int32) (Q : Int32 → Prop) : Nat → Int32 → Int32 → Prop
  | 0 => fun v6_36 v7_36 => wpB_Or_price_w_55_36 L f q0 p_0 p_1 p_2 p_3 p_4 r_1 q_33 x_34 r_35 Q (fun _ _ => True) v6_36 v7_36
  | n + 1 => fun v6_36 v7_36 => wpB_Or_price_w_55_36 L f q0 p_0 p_1 p_2 p_3 p_4 r_1 q_33 x_34 r_35 Q (wpL_Or_price_w_55_36 L f q0 p_0 p_1 p_2 p_3 p_4 r_1 q_33 x_34 r_35 Q n) v6_36 v7_36
def wpR_Or_price_w_55_36 (L : List Nat) (f : TF) (q0 : Nat) (p_0 : Int32) (p_1 : Int32) (p_2 : Int32) (p_3 : Int32) (p_4 : Int32) (r_1 : Int32) (q_33 : Nat) (x_34 : Int32) (r_35 : Int32) (Q : Int32 → Prop) : Nat → Int32 → Int32 → Prop
  | 0 => fun _ _ => True
  | n + 1 => wpL_Or_price_w_55_36 L f q0 p_0 p_1 p_2 p_3 p_4 r_1 q_33 x_34 r_35 Q n
theorem wpL_Or_price_w_55_36_eq {L : List Nat} {f : TF} {q0 : Nat} {p_0 : Int32} {p_1 : Int32} {p_2 : Int32} {p_3 : Int32} {p_4 : Int32} {r_1 : Int32} {q_33 : Nat} {x_34 : Int32} {r_35 : Int32} {Q : Int32 → Prop} {n : Nat} : wpL_Or_price_w_55_36 L f q0 p_0 p_1 p_2 p_3 p_4 r_1 q_33 x_34 r_35 Q n = wpB_Or_price_w_55_36 L f q0 p_0 p_1 p_2 p_3 p_4 r_1 q_33 x_34 r_35 Q (wpR_Or_price_w_55_36 L f q0 p_0 p_1 p_2 p_3 p_4 r_1 q_33 x_34 r_35 Q n) := by cases n <;> rfl
theorem wpR_Or_price_w_55_36_pos {L : List Nat} {f : TF} {q0 : Nat} {p_0 : Int32} {p_1 : Int32} {p_2 : Int32} {p_3 : Int32} {p_4 : Int32} {r_1 : Int32} {q_33 : Nat} {x_34 : Int32} {r_35 : Int32} {Q : Int32 → Prop} {n : Nat} (h : 0 < n) : wpR_Or_price_w_55_36 L f q0 p_0 p_1 p_2 p_3 p_4 r_1 q_33 x_34 r_35 Q n = wpL_Or_price_w_55_36 L f q0 p_0 p_1 p_2 p_3 p_4 r_1 q_33 x_34 r_35 Q (n - 1) := by
  cases n with
  | zero => omega
  | succ n => rfl
def wpB_Or_price_w_55_64 (L : List Nat) (f : TF) (q0 : Nat) (p_0 : Int32) (p_1 : Int32) (p_2 : Int32) (p_3 : Int32) (p_4 : Int32) (r_1 : Int32) (q_61 : Nat) (x_62 : Int32) (r_63 : Int32) (Q : Int32 → Prop) (rec_64 : Int32 → Int32 → Prop) (v6_64 : Int32) (v7_64 : Int32) : Prop := ∀ x_65 : Int32, ti f q0 6 = x_65 → ((x_65 ≤ v7_64 → (((p_2 - p_2 / 7 * 7) = 0 → ∀ x_69 : Int32, ti f q_61 (4 : Int32).toNatClampNeg = x_69 → wp_Or_scaled_w L f v6_64 x_69 (fun (r_70 : Int32) => ((p_4 = 2 → ∀ x_74 : Int32, ti f q_61 (8 : Int32).toNatClampNeg = x_74 → wp_Or_scaled_w L f r_70 x_74 (fun (r_75 : Int32) => ∀ x_76 : Int32, ti f q_61 (5 : Int32).toNatClampNeg = x_76 → ∀ y_77 : Int32, y_77 = (if r_75 < x_76 then x_76 else r_75) → Q y_77)) ∧ (¬ (p_4 = 2) → ∀ x_72 : Int32, ti f q_61 (5 : Int32).toNatClampNeg = x_72 → ∀ y_73 : Int32, y_73 = (if r_70 < x_72 then x_72 else r_70) → Q y_73)))) ∧ (¬ ((p_2 - p_2 / 7 * 7) = 0) → ((p_4 = 2 → ∀ x_81 : Int32, ti f q_61 (8 : Int32).toNatClampNeg = x_81 → wp_Or_scaled_w L f v6_64 x_81 (fun (r_82 : Int32) => ∀ x_83 : Int32, ti f q_61 (5 : Int32).toNatClampNeg = x_83 → ∀ y_84 : Int32, y_84 = (if r_82 < x_83 then x_83 else r_82) → Q y_84)) ∧ (¬ (p_4 = 2) → ∀ x_79 : Int32, ti f q_61 (5 : Int32).toNatClampNeg = x_79 → ∀ y_80 : Int32, y_80 = (if v6_64 < x_79 then x_79 else v6_64) → Q y_80))))) ∧ (¬ (x_65 ≤ v7_64) → ∀ q_85 : Nat, tr f q0 3 = some q_85 → wp_Or_lineHolds_k17_w L f q_85 v7_64 p_3 (fun (r_86 : Int32) => ((r_86 = 0 → rec_64 v6_64 (v7_64 + 1)) ∧ (r_86 = 1 → ∀ x_87 : Int32, ti f q_85 (((v7_64 * 3) + 2) : Int32).toNatClampNeg = x_87 → wp_Or_scaled_w L f v6_64 x_87 (fun (r_88 : Int32) => rec_64 r_88 (v7_64 + 1)))))))
def wpL_Or_price_w_55_64 (L : List Nat) (f : TF) (q0 : Nat) (p_0 : Int32) (p_1 : Int32) (p_2 : Int32) (p_3 : Int32) (p_4 : Int32) (r_1 : Int32) (q_61 : Nat) (x_62 : Int32) (r_63 : Int32) (Q : Int32 → Prop) : Nat → Int32 → Int32 → Prop
  | 0 => fun v6_64 v7_64 => wpB_Or_price_w_55_64 L f q0 p_0 p_1 p_2 p_3 p_4 r_1 q_61 x_62 r_63 Q (fun _ _ => True) v6_64 v7_64
  | n + 1 => fun v6_64 v7_64 => wpB_Or_price_w_55_64 L f q0 p_0 p_1 p_2 p_3 p_4 r_1 q_61 x_62 r_63 Q (wpL_Or_price_w_55_64 L f q0 p_0 p_1 p_2 p_3 p_4 r_1 q_61 x_62 r_63 Q n) v6_64 v7_64
def wpR_Or_price_w_55_64 (L : List Nat) (f : TF) (q0 : Nat) (p_0 : Int32) (p_1 : Int32) (p_2 : Int32) (p_3 : Int32) (p_4 : Int32) (r_1 : Int32) (q_61 : Nat) (x_62 : Int32) (r_63 : Int32) (Q : Int32 → Prop) : Nat → Int32 → Int32 → Prop
  | 0 => fun _ _ => True
  | n + 1 => wpL_Or_price_w_55_64 L f q0 p_0 p_1 p_2 p_3 p_4 r_1 q_61 x_62 r_63 Q n
theorem wpL_Or_price_w_55_64_eq {L : List Nat} {f : TF} {q0 : Nat} {p_0 : Int32} {p_1 : Int32} {p_2 : Int32} {p_3 : Int32} {p_4 : Int32} {r_1 : Int32} {q_61 : Nat} {x_62 : Int32} {r_63 : Int32} {Q : Int32 → Prop} {n : Nat} : wpL_Or_price_w_55_64 L f q0 p_0 p_1 p_2 p_3 p_4 r_1 q_61 x_62 r_63 Q n = wpB_Or_price_w_55_64 L f q0 p_0 p_1 p_2 p_3 p_4 r_1 q_61 x_62 r_63 Q (wpR_Or_price_w_55_64 L f q0 p_0 p_1 p_2 p_3 p_4 r_1 q_61 x_62 r_63 Q n) := by cases n <;> rfl
theorem wpR_Or_price_w_55_64_pos {L : List Nat} {f : TF} {q0 : Nat} {p_0 : Int32} {p_1 : Int32} {p_2 : Int32} {p_3 : Int32} {p_4 : Int32} {r_1 : Int32} {q_61 : Nat} {x_62 : Int32} {r_63 : Int32} {Q : Int32 → Prop} {n : Nat} (h : 0 < n) : wpR_Or_price_w_55_64 L f q0 p_0 p_1 p_2 p_3 p_4 r_1 q_61 x_62 r_63 Q n = wpL_Or_price_w_55_64 L f q0 p_0 p_1 p_2 p_3 p_4 r_1 q_61 x_62 r_63 Q (n - 1) := by
  cases n with
  | zero => omega
  | succ n => rfl
def wp_Or_price_w (L : List Nat) (f : TF) (q0 : Nat) (p_0 : Int32) (p_1 : Int32) (p_2 : Int32) (p_3 : Int32) (p_4 : Int32) (Q : Int32 → Prop) : Prop := wp_Or_basePrice_w L f q0 p_0 (fun (r_1 : Int32) => ((r_1 = (-1) → Q (-1)) ∧ (¬ (r_1 = (-1)) → ((p_1 ≤ 0 → ((0 ≤ p_1 → wpL_Or_price_w_55_5 L f q0 p_0 p_1 p_2 p_3 p_4 r_1 Q (((12 : Int32).toInt - (0 : Int32).toInt).toNat) r_1 (0 : Int32)) ∧ (¬ (0 ≤ p_1) → ∀ q_33 : Nat, tr f q0 4 = some q_33 → ∀ x_34 : Int32, ti f q_33 (3 : Int32).toNatClampNeg = x_34 → wp_Or_scaled_w L f r_1 x_34 (fun (r_35 : Int32) => wpL_Or_price_w_55_36 L f q0 p_0 p_1 p_2 p_3 p_4 r_1 q_33 x_34 r_35 Q (((12 : Int32).toInt - (0 : Int32).toInt).toNat) r_35 (0 : Int32))))) ∧ (¬ (p_1 ≤ 0) → ∀ q_61 : Nat, tr f q0 4 = some q_61 → ∀ x_62 : Int32, ti f q_61 (2 : Int32).toNatClampNeg = x_62 → wp_Or_scaled_w L f r_1 x_62 (fun (r_63 : Int32) => wpL_Or_price_w_55_64 L f q0 p_0 p_1 p_2 p_3 p_4 r_1 q_61 x_62 r_63 Q (((12 : Int32).toInt - (0 : Int32).toInt).toNat) r_63 (0 : Int32)))))))
set_option maxHeartbeats 4000000 in
set_option maxRecDepth 100000 in
theorem c_Or_price_w (l : Launch) (dC : Nat → ClassId) (dI : Nat → Nat → Nat) (ct : Nat → ClassId) (L : List Nat) (f : TF) (hO_0 : Ok L f) (q0 : Nat) (m0 : q0 ∈ L ∧ tk f q0 = 15) (p_0 : Int32) (p_1 : Int32) (p_2 : Int32) (p_3 : Int32) (p_4 : Int32)   (Q : Int32 → Prop) (hQ : wp_Or_price_w L f q0 p_0 p_1 p_2 p_3 p_4 Q) : Met l y_Or_price (.code y_Or_price b_Or_price 8 (some .int) :: TB) ({ frames := 2, cells := 0, slots := 0, locals := 44 }) (va_Pc [.ref q0, .int p_0, .int p_1, .int p_2, .int p_3, .int p_4] (PR dC dI (TW ct L f) (TT ct))) (vp_Si (fun r => (True) ∧ Q r)) 0 0 (fun _ => False) := by
  refine Met.ofW (cc := b_Or_price) (maxL := 8) (ret := (some .int)) (by decide) rfl ?_
  intro p e s m args below meth c s₁ B hml hv
  obtain ⟨rfl, hP, hK, hN⟩ := hv
  have hx := B.exec
  have hb := B.bytes
  have hr := B.returns
  have hts := atoms_spec (ws := (.code y_Or_price b_Or_price 8 (some .int) :: TB)) B.pre
  have htb := fun w (h : w ∈ TB) => hts w (List.mem_cons_of_mem _ h)
  have hown : s.vm.findClass R_Or = some m.cls := findClass_of_methodNamed B.named
  have hlocks := B.notSynchronized
  have hl := lv_entry ([.ref q0, .int p_0, .int p_1, .int p_2, .int p_3, .int p_4]) (n := 8) (Nat.le_of_ble_eq_true rfl)
  rw [lg_entry_eq]
  generalize (lg_sl ([.ref q0, .int p_0, .int p_1, .int p_2, .int p_3, .int p_4]) ++ List.replicate (8 - (lg_sl ([.ref q0, .int p_0, .int p_1, .int p_2, .int p_3, .int p_4])).length) Slot.unset).toArray = ls at hl ⊢
  have hl : lv_has ls 8 [(0, .ref q0), (1, .int p_0), (2, .int p_1), (3, .int p_2), (4, .int p_3), (5, .int p_4)] := hl
  unfold wp_Or_price_w at hQ
  refine lv_aload_n hx hb d_Or_price_0 rfl (lv_at hl 0 rfl) ?_
  refine lv_iload_n hx hb d_Or_price_1 rfl (lv_at hl 1 rfl) ?_
  refine vp_callSi (va_Run.run (va_runV (As := [.int p_0]) (rest := []) ⟨hx, hb, hml, hown, htb⟩ (c_Or_basePrice_w l dC dI ct L f hO_0 q0 m0 p_0 _ hQ) (cwV 1 htb (gd_V tw_420 tw_421 tw_422 tw_250 tw_419) rfl rfl rfl (by decide +kernel) ⟨Nat.le_of_ble_eq_true rfl, Nat.le_of_ble_eq_true rfl⟩) ⟨pr_blind, tw_recv hK hP m0 rfl rfl, pr_pre hP hK hN⟩ rfl rfl hl.1 rfl (lv_room (Nat.le_of_ble_eq_true rfl)) d_Or_price_2 ⟨Nat.le_of_ble_eq_true rfl, Nat.le_of_ble_eq_true rfl⟩)) (fun r_1 er_1 => ?_)
  obtain ⟨er_1, hQ⟩ := er_1
  clear er_1
  refine lv_istore (lv' := [(6, .int r_1), (0, .ref q0), (1, .int p_0), (2, .int p_1), (3, .int p_2), (4, .int p_3), (5, .int p_4)]) hx hb d_Or_price_5 hl (by decide) rfl (fun ls hl => ?_)
  refine lv_iload hx hb d_Or_price_7 (lv_at hl 0 rfl) ?_
  refine lv_iconst (v := (-1)) hx hb d_Or_price_9 (by decide +kernel) ?_
  refine lv_icmp_ne (tgt := 15) hx hb d_Or_price_10 (by decide) (fun c_2 => ?_) (fun c_2 => ?_)
  · have hQ := hQ.2 c_2
    refine lv_iload_n hx hb d_Or_price_15 rfl (lv_at hl 3 rfl) ?_
    refine lv_if_le (tgt := 35) hx hb d_Or_price_16 (by decide) (fun c_3 => ?_) (fun c_3 => ?_)
    · have hQ := hQ.1 c_3
      refine lv_iload_n hx hb d_Or_price_35 rfl (lv_at hl 3 rfl) ?_
      refine lv_if_ge (tgt := 52) hx hb d_Or_price_36 (by decide) (fun c_4 => ?_) (fun c_4 => ?_)
      · have hQ := hQ.1 c_4
        refine lv_iconst (v := 0) hx hb d_Or_price_52 (by decide +kernel) ?_
        refine lv_istore (lv' := [(7, .int 0), (6, .int r_1), (0, .ref q0), (1, .int p_0), (2, .int p_1), (3, .int p_2), (4, .int p_3), (5, .int p_4)]) hx hb d_Or_price_53 hl (by decide) rfl (fun ls hl => ?_)
        have cut_5 : ∀ (n_5 : Nat) (v6_5 v7_5 : Int32) (ls : Array Slot), ¬ (v7_5 < 0) → ¬ (12 < v7_5) → (12 : Int32).toInt - (v7_5 : Int32).toInt ≤ (n_5 : Int) → wpL_Or_price_w_55_5 L f q0 p_0 p_1 p_2 p_3 p_4 r_1 Q n_5 v6_5 v7_5 → lv_has ls 8 [(0, .ref q0), (3, .int p_2), (4, .int p_3), (5, .int p_4), (6, .int v6_5), (7, .int v7_5)] → W p l e (headSpec (.code y_Or_price b_Or_price 8 (some .int) :: TB) ({ frames := 2, cells := 0, slots := 0, locals := 44 })).room s m [.ref q0, .int p_0, .int p_1, .int p_2, .int p_3, .int p_4].toArray below meth c s.heap [] 0 0 (MQ below (vp_Si (fun r => (True) ∧ Q r)) [.ref q0, .int p_0, .int p_1, .int p_2, .int p_3, .int p_4].toArray s 0 0 (fun _ => False)) (F0 m 55 ls []) := by
          intro n_5
          induction n_5 using Nat.strongRecOn with
          | _ n_5 ih_5 =>
            intro v6_5 v7_5 ls iv0_5 iv1_5 hm_5 hQ hl
            rw [wpL_Or_price_w_55_5_eq] at hQ
            obtain ⟨rec_5, hrec_5⟩ : ∃ g, wpR_Or_price_w_55_5 L f q0 p_0 p_1 p_2 p_3 p_4 r_1 Q n_5 = g := ⟨_, rfl⟩
            rw [hrec_5] at hQ
            unfold wpB_Or_price_w_55_5 at hQ
            refine lv_iload hx hb d_Or_price_55 (lv_at hl 5 rfl) ?_
            refine lv_aload_n hx hb d_Or_price_57 rfl (lv_at hl 0 rfl) ?_
            refine tw_geti (D := (dC, dI)) (C := R_Or) (T := F_Or) (N := 9) (ci := 3) (kd := 15) (ct := ct) hx hb htb i_Or hown hK hP hO_0 m0 rfl rfl 6 (by decide) (htb (.fieldLink R_Or 27 "WaterMen$Order" "hourCount" "I") tw_247) (fun _ h9 => h9) rfl d_Or_price_58 (fun x_6 e_6 b_6 => ?_)
            have hQ := hQ x_6 e_6
            refine lv_icmp_ge (tgt := 102) hx hb d_Or_price_61 (by decide) (fun c_7 => ?_) (fun c_7 => ?_)
            · have hQ := hQ.1 c_7
              refine lv_iload_n hx hb d_Or_price_102 rfl (lv_at hl 1 rfl) ?_
              refine vp_callSi (va_Run.run (va_runSN (As := [.int p_2]) (rest := []) ⟨hx, hb, hml, hown, htb⟩ (c_WM_isSunday l p_2) ⟨va_cnB 1 htb (gd_I tw_208) rfl rfl rfl (hN.1 _ nw_6) (htb (.initialized R_WM) tw_26) (by decide +kernel) ⟨Nat.le_of_ble_eq_true rfl, Nat.le_of_ble_eq_true rfl⟩, (htb (.static y_WM_isSunday) tw_210), trivial⟩ ⟨fun _ _ _ _ h => h, fun U _ _ => ⟨rfl, trivial⟩⟩ rfl rfl hl.1 rfl (lv_room (Nat.le_of_ble_eq_true rfl)) d_Or_price_103 ⟨Nat.le_of_ble_eq_true rfl, Nat.le_of_ble_eq_true rfl⟩)) (fun r er => ?_)
              subst er
              by_cases c_9 : (p_2 - p_2 / 7 * 7) = 0
              · have hQ := hQ.1 c_9
                refine hb_ti 1 (by unfold f_WM_isSunday; rw [if_pos c_9]; first | done | rfl) ?_
                refine lv_if_eq (tgt := 122) hx hb d_Or_price_106 (by decide) (fun h => absurd h (by decide +kernel)) (fun _ => ?_)
                refine lv_iload hx hb d_Or_price_109 (lv_at hl 4 rfl) ?_
                refine lv_aload_n hx hb d_Or_price_111 rfl (lv_at hl 0 rfl) ?_
                refine tw_getr (D := (dC, dI)) (C := R_Or) (T := F_Or) (N := 9) (ci := 3) (kd := 15) (ct := ct) hx hb htb i_Or hown hK hP hO_0 m0 rfl rfl 4 (by decide) (htb (.fieldLink R_Or 20 "WaterMen$Order" "single" "[I") tw_248) (fun _ h9 => h9) rfl d_Or_price_112 (fun q_10 e_10 m_10 => ?_)
                have hQ := hQ q_10 e_10
                refine lv_iconst (v := 4) hx hb d_Or_price_115 (by decide +kernel) ?_
                refine tw_aldI (ct := ct) hx hb hK hP hO_0 m_10 rfl (by unfold vp_in; decide +kernel) d_Or_price_116 (fun x_11 e_11 b_11 => ?_)
                have hQ := hQ x_11 e_11
                refine vp_callSi (va_Run.run (va_runS (As := [.int v6_5, .int x_11]) (rest := []) ⟨hx, hb, hml, hown, htb⟩ (c_Or_scaled_w l dC dI ct L f hO_0 v6_5 x_11 _ hQ) (cwS 2 htb (gd_S tw_427 tw_428 tw_250 tw_426) rfl rfl rfl (by decide +kernel) ⟨Nat.le_of_ble_eq_true rfl, Nat.le_of_ble_eq_true rfl⟩) ⟨pr_blind, pr_pre hP hK hN⟩ rfl rfl hl.1 rfl (lv_room (Nat.le_of_ble_eq_true rfl)) d_Or_price_117 ⟨Nat.le_of_ble_eq_true rfl, Nat.le_of_ble_eq_true rfl⟩)) (fun r_12 er_12 => ?_)
                obtain ⟨er_12, hQ⟩ := er_12
                clear er_12
                refine lv_istore (lv' := [(6, .int r_12), (0, .ref q0), (3, .int p_2), (4, .int p_3), (5, .int p_4), (7, .int v7_5)]) hx hb d_Or_price_120 hl (by decide) rfl (fun ls hl => ?_)
                refine lv_iload hx hb d_Or_price_122 (lv_at hl 4 rfl) ?_
                refine lv_iconst (v := 2) hx hb d_Or_price_124 (by decide +kernel) ?_
                refine lv_icmp_ne (tgt := 142) hx hb d_Or_price_125 (by decide) (fun c_13 => ?_) (fun c_13 => ?_)
                · have hQ := hQ.2 c_13
                  refine lv_iload hx hb d_Or_price_142 (lv_at hl 0 rfl) ?_
                  refine lv_aload_n hx hb d_Or_price_144 rfl (lv_at hl 1 rfl) ?_
                  refine tw_getR (D := (dC, dI)) (C := R_Or) (T := F_Or) (N := 9) (ci := 3) (kd := 15) (ct := ct) hx hb htb i_Or hown hK hP m0 rfl rfl 4 e_10 (by decide) (htb (.fieldLink R_Or 20 "WaterMen$Order" "single" "[I") tw_248) (fun _ h9 => h9) rfl d_Or_price_145 ?_
                  refine hb_tv (.ref q_10) rfl ?_
                  refine lv_iconst (v := 5) hx hb d_Or_price_148 (by decide +kernel) ?_
                  refine tw_aldI (ct := ct) hx hb hK hP hO_0 m_10 rfl (by unfold vp_in; decide +kernel) d_Or_price_149 (fun x_14 e_14 b_14 => ?_)
                  have hQ := hQ x_14 e_14
                  refine va_mmax hx hb (hml.trans hl.1.symm) hown (htb (.methodLink R_Or 56 Lib.Math.max.name) tw_429) (htb (.static Lib.Math.max.name) tw_54) (htb (.initialized "java/lang/Math") tw_55) (htb (.code Lib.Math.max.name Lib.Math.max.code 2 (some .int)) tw_56) (Nat.le_of_ble_eq_true rfl) (Nat.le_of_ble_eq_true rfl) (Nat.le_of_ble_eq_true rfl) (Nat.le_of_ble_eq_true rfl) d_Or_price_150 ?_
                  refine hb_eqi (fun y_15 hy_15 => ?_)
                  have hQ := hQ y_15 hy_15
                  exact W.iret (v := y_15) hx hb hr (fun t ht hW => ⟨y_15, rfl, ⟨trivial, hQ⟩, ht⟩) t_nil d_Or_price_153
                · have hQ := hQ.1 c_13
                  refine lv_iload hx hb d_Or_price_128 (lv_at hl 0 rfl) ?_
                  refine lv_aload_n hx hb d_Or_price_130 rfl (lv_at hl 1 rfl) ?_
                  refine tw_getR (D := (dC, dI)) (C := R_Or) (T := F_Or) (N := 9) (ci := 3) (kd := 15) (ct := ct) hx hb htb i_Or hown hK hP m0 rfl rfl 4 e_10 (by decide) (htb (.fieldLink R_Or 20 "WaterMen$Order" "single" "[I") tw_248) (fun _ h9 => h9) rfl d_Or_price_131 ?_
                  refine hb_tv (.ref q_10) rfl ?_
                  refine lv_bipush (v := 8) hx hb d_Or_price_134 (by decide +kernel) ?_
                  refine tw_aldI (ct := ct) hx hb hK hP hO_0 m_10 rfl (by unfold vp_in; decide +kernel) d_Or_price_136 (fun x_16 e_16 b_16 => ?_)
                  have hQ := hQ x_16 e_16
                  refine vp_callSi (va_Run.run (va_runS (As := [.int r_12, .int x_16]) (rest := []) ⟨hx, hb, hml, hown, htb⟩ (c_Or_scaled_w l dC dI ct L f hO_0 r_12 x_16 _ hQ) (cwS 2 htb (gd_S tw_427 tw_428 tw_250 tw_426) rfl rfl rfl (by decide +kernel) ⟨Nat.le_of_ble_eq_true rfl, Nat.le_of_ble_eq_true rfl⟩) ⟨pr_blind, pr_pre hP hK hN⟩ rfl rfl hl.1 rfl (lv_room (Nat.le_of_ble_eq_true rfl)) d_Or_price_137 ⟨Nat.le_of_ble_eq_true rfl, Nat.le_of_ble_eq_true rfl⟩)) (fun r_17 er_17 => ?_)
                  obtain ⟨er_17, hQ⟩ := er_17
                  clear er_17
                  refine lv_istore (lv' := [(6, .int r_17), (0, .ref q0), (3, .int p_2), (4, .int p_3), (5, .int p_4), (7, .int v7_5)]) hx hb d_Or_price_140 hl (by decide) rfl (fun ls hl => ?_)
                  refine lv_iload hx hb d_Or_price_142 (lv_at hl 0 rfl) ?_
                  refine lv_aload_n hx hb d_Or_price_144 rfl (lv_at hl 1 rfl) ?_
                  refine tw_getR (D := (dC, dI)) (C := R_Or) (T := F_Or) (N := 9) (ci := 3) (kd := 15) (ct := ct) hx hb htb i_Or hown hK hP m0 rfl rfl 4 e_10 (by decide) (htb (.fieldLink R_Or 20 "WaterMen$Order" "single" "[I") tw_248) (fun _ h9 => h9) rfl d_Or_price_145 ?_
                  refine hb_tv (.ref q_10) rfl ?_
                  refine lv_iconst (v := 5) hx hb d_Or_price_148 (by decide +kernel) ?_
                  refine tw_aldI (ct := ct) hx hb hK hP hO_0 m_10 rfl (by unfold vp_in; decide +kernel) d_Or_price_149 (fun x_18 e_18 b_18 => ?_)
                  have hQ := hQ x_18 e_18
                  refine va_mmax hx hb (hml.trans hl.1.symm) hown (htb (.methodLink R_Or 56 Lib.Math.max.name) tw_429) (htb (.static Lib.Math.max.name) tw_54) (htb (.initialized "java/lang/Math") tw_55) (htb (.code Lib.Math.max.name Lib.Math.max.code 2 (some .int)) tw_56) (Nat.le_of_ble_eq_true rfl) (Nat.le_of_ble_eq_true rfl) (Nat.le_of_ble_eq_true rfl) (Nat.le_of_ble_eq_true rfl) d_Or_price_150 ?_
                  refine hb_eqi (fun y_19 hy_19 => ?_)
                  have hQ := hQ y_19 hy_19
                  exact W.iret (v := y_19) hx hb hr (fun t ht hW => ⟨y_19, rfl, ⟨trivial, hQ⟩, ht⟩) t_nil d_Or_price_153
              · have hQ := hQ.2 c_9
                refine hb_ti 0 (by unfold f_WM_isSunday; rw [if_neg c_9]; first | done | rfl) ?_
                refine lv_if_eq (tgt := 122) hx hb d_Or_price_106 (by decide) (fun _ => ?_) (fun h => absurd (by decide +kernel) h)
                refine lv_iload hx hb d_Or_price_122 (lv_at hl 3 rfl) ?_
                refine lv_iconst (v := 2) hx hb d_Or_price_124 (by decide +kernel) ?_
                refine lv_icmp_ne (tgt := 142) hx hb d_Or_price_125 (by decide) (fun c_20 => ?_) (fun c_20 => ?_)
                · have hQ := hQ.2 c_20
                  refine lv_iload hx hb d_Or_price_142 (lv_at hl 4 rfl) ?_
                  refine lv_aload_n hx hb d_Or_price_144 rfl (lv_at hl 0 rfl) ?_
                  refine tw_getr (D := (dC, dI)) (C := R_Or) (T := F_Or) (N := 9) (ci := 3) (kd := 15) (ct := ct) hx hb htb i_Or hown hK hP hO_0 m0 rfl rfl 4 (by decide) (htb (.fieldLink R_Or 20 "WaterMen$Order" "single" "[I") tw_248) (fun _ h9 => h9) rfl d_Or_price_145 (fun q_21 e_21 m_21 => ?_)
                  have hQ := hQ q_21 e_21
                  refine lv_iconst (v := 5) hx hb d_Or_price_148 (by decide +kernel) ?_
                  refine tw_aldI (ct := ct) hx hb hK hP hO_0 m_21 rfl (by unfold vp_in; decide +kernel) d_Or_price_149 (fun x_22 e_22 b_22 => ?_)
                  have hQ := hQ x_22 e_22
                  refine va_mmax hx hb (hml.trans hl.1.symm) hown (htb (.methodLink R_Or 56 Lib.Math.max.name) tw_429) (htb (.static Lib.Math.max.name) tw_54) (htb (.initialized "java/lang/Math") tw_55) (htb (.code Lib.Math.max.name Lib.Math.max.code 2 (some .int)) tw_56) (Nat.le_of_ble_eq_true rfl) (Nat.le_of_ble_eq_true rfl) (Nat.le_of_ble_eq_true rfl) (Nat.le_of_ble_eq_true rfl) d_Or_price_150 ?_
                  refine hb_eqi (fun y_23 hy_23 => ?_)
                  have hQ := hQ y_23 hy_23
                  exact W.iret (v := y_23) hx hb hr (fun t ht hW => ⟨y_23, rfl, ⟨trivial, hQ⟩, ht⟩) t_nil d_Or_price_153
                · have hQ := hQ.1 c_20
                  refine lv_iload hx hb d_Or_price_128 (lv_at hl 4 rfl) ?_
                  refine lv_aload_n hx hb d_Or_price_130 rfl (lv_at hl 0 rfl) ?_
                  refine tw_getr (D := (dC, dI)) (C := R_Or) (T := F_Or) (N := 9) (ci := 3) (kd := 15) (ct := ct) hx hb htb i_Or hown hK hP hO_0 m0 rfl rfl 4 (by decide) (htb (.fieldLink R_Or 20 "WaterMen$Order" "single" "[I") tw_248) (fun _ h9 => h9) rfl d_Or_price_131 (fun q_24 e_24 m_24 => ?_)
                  have hQ := hQ q_24 e_24
                  refine lv_bipush (v := 8) hx hb d_Or_price_134 (by decide +kernel) ?_
                  refine tw_aldI (ct := ct) hx hb hK hP hO_0 m_24 rfl (by unfold vp_in; decide +kernel) d_Or_price_136 (fun x_25 e_25 b_25 => ?_)
                  have hQ := hQ x_25 e_25
                  refine vp_callSi (va_Run.run (va_runS (As := [.int v6_5, .int x_25]) (rest := []) ⟨hx, hb, hml, hown, htb⟩ (c_Or_scaled_w l dC dI ct L f hO_0 v6_5 x_25 _ hQ) (cwS 2 htb (gd_S tw_427 tw_428 tw_250 tw_426) rfl rfl rfl (by decide +kernel) ⟨Nat.le_of_ble_eq_true rfl, Nat.le_of_ble_eq_true rfl⟩) ⟨pr_blind, pr_pre hP hK hN⟩ rfl rfl hl.1 rfl (lv_room (Nat.le_of_ble_eq_true rfl)) d_Or_price_137 ⟨Nat.le_of_ble_eq_true rfl, Nat.le_of_ble_eq_true rfl⟩)) (fun r_26 er_26 => ?_)
                  obtain ⟨er_26, hQ⟩ := er_26
                  clear er_26
                  refine lv_istore (lv' := [(6, .int r_26), (0, .ref q0), (3, .int p_2), (4, .int p_3), (5, .int p_4), (7, .int v7_5)]) hx hb d_Or_price_140 hl (by decide) rfl (fun ls hl => ?_)
                  refine lv_iload hx hb d_Or_price_142 (lv_at hl 0 rfl) ?_
                  refine lv_aload_n hx hb d_Or_price_144 rfl (lv_at hl 1 rfl) ?_
                  refine tw_getR (D := (dC, dI)) (C := R_Or) (T := F_Or) (N := 9) (ci := 3) (kd := 15) (ct := ct) hx hb htb i_Or hown hK hP m0 rfl rfl 4 e_24 (by decide) (htb (.fieldLink R_Or 20 "WaterMen$Order" "single" "[I") tw_248) (fun _ h9 => h9) rfl d_Or_price_145 ?_
                  refine hb_tv (.ref q_24) rfl ?_
                  refine lv_iconst (v := 5) hx hb d_Or_price_148 (by decide +kernel) ?_
                  refine tw_aldI (ct := ct) hx hb hK hP hO_0 m_24 rfl (by unfold vp_in; decide +kernel) d_Or_price_149 (fun x_27 e_27 b_27 => ?_)
                  have hQ := hQ x_27 e_27
                  refine va_mmax hx hb (hml.trans hl.1.symm) hown (htb (.methodLink R_Or 56 Lib.Math.max.name) tw_429) (htb (.static Lib.Math.max.name) tw_54) (htb (.initialized "java/lang/Math") tw_55) (htb (.code Lib.Math.max.name Lib.Math.max.code 2 (some .int)) tw_56) (Nat.le_of_ble_eq_true rfl) (Nat.le_of_ble_eq_true rfl) (Nat.le_of_ble_eq_true rfl) (Nat.le_of_ble_eq_true rfl) d_Or_price_150 ?_
                  refine hb_eqi (fun y_28 hy_28 => ?_)
                  have hQ := hQ y_28 hy_28
                  exact W.iret (v := y_28) hx hb hr (fun t ht hW => ⟨y_28, rfl, ⟨trivial, hQ⟩, ht⟩) t_nil d_Or_price_153
            · have hQ := hQ.2 c_7
              refine lv_aload_n hx hb d_Or_price_64 rfl (lv_at hl 0 rfl) ?_
              refine tw_getr (D := (dC, dI)) (C := R_Or) (T := F_Or) (N := 9) (ci := 3) (kd := 15) (ct := ct) hx hb htb i_Or hown hK hP hO_0 m0 rfl rfl 3 (by decide) (htb (.fieldLink R_Or 15 "WaterMen$Order" "hours" "[I") tw_312) (fun _ h9 => h9) rfl d_Or_price_65 (fun q_29 e_29 m_29 => ?_)
              have hQ := hQ q_29 e_29
              refine lv_iload hx hb d_Or_price_68 (lv_at hl 5 rfl) ?_
              refine lv_iload hx hb d_Or_price_70 (lv_at hl 2 rfl) ?_
              refine vp_callSi (va_Run.run (va_runS (As := [.ref q_29, .int v7_5, .int p_3]) (rest := []) ⟨hx, hb, hml, hown, htb⟩ (c_Or_lineHolds_k17_w l dC dI ct L f hO_0 q_29 m_29 v7_5 p_3 iv0_5 (show ¬ (11 < v7_5) from ((fun (a_0 : Int32) (a_1 : Int32) (k_0 : ¬ (a_1 ≤ a_0)) (k_1 : ¬ (12 < a_1)) => (show ¬ (11 < a_0) from by have z0 : (11 : Int32).toInt = 11 := (by decide +kernel); have z1 : (12 : Int32).toInt = 12 := (by decide +kernel); have r0 := fb_rng (a_0); have r1 := fb_rng (a_1); have e0 := k_0; rw [Int32.le_iff_toInt_le] at e0; have e1 := k_1; rw [Int32.lt_iff_toInt_lt, z1] at e1; rw [Int32.lt_iff_toInt_lt, z0]; omega)) v7_5 x_6 c_7 b_6.2)) _ hQ) (cwS 3 htb (gd_S tw_417 tw_418 tw_250 tw_416) rfl rfl rfl (by decide +kernel) ⟨Nat.le_of_ble_eq_true rfl, Nat.le_of_ble_eq_true rfl⟩) ⟨pr_blind, pr_pre hP hK hN⟩ rfl rfl hl.1 rfl (lv_room (Nat.le_of_ble_eq_true rfl)) d_Or_price_72 ⟨Nat.le_of_ble_eq_true rfl, Nat.le_of_ble_eq_true rfl⟩)) (fun r_30 er_30 => ?_)
              obtain ⟨er_30, hQ⟩ := er_30
              rcases er_30 with ⟨rfl, -⟩ | ⟨rfl, -⟩
              · have hQ := hQ.1 rfl
                refine lv_if_eq (tgt := 96) hx hb d_Or_price_75 (by decide) (fun _ => ?_) (fun h => absurd (by decide +kernel) h)
                refine lv_iinc (v := (v7_5 + 1)) (lv' := [(7, .int (v7_5 + 1)), (0, .ref q0), (3, .int p_2), (4, .int p_3), (5, .int p_4), (6, .int v6_5)]) hx hb d_Or_price_96 hl (k := 5) rfl rfl (by decide) rfl (fun ls hl => ?_)
                refine lv_goto (tgt := 55) hx hb d_Or_price_99 (by decide) ?_
                exact ih_5 (n_5 - 1) (ms_1 ((fun (a_0 : Int32) (a_1 : Int32) (k_0 : ¬ (a_1 ≤ a_0)) (k_1 : ¬ (12 < a_1)) => (show 1 ≤ (12 : Int32).toInt - (a_0).toInt ∧ (12 : Int32).toInt - ((a_0) + (1 : Int32)).toInt + 1 ≤ (12 : Int32).toInt - (a_0).toInt from by have z0 : (1 : Int32).toInt = 1 := (by decide +kernel); have z1 : (12 : Int32).toInt = 12 := (by decide +kernel); have r0 := fb_rng (a_0); have r1 := fb_rng (a_1); have e0 := k_0; rw [Int32.le_iff_toInt_le] at e0; have e1 := k_1; rw [Int32.lt_iff_toInt_lt, z1] at e1; obtain ⟨n_0, hn_0, s0⟩ := nd_add (x := (a_0)) (y := (1 : Int32)) (by (try rw [z0]); omega) (by (try rw [z0]); omega); rw [z0] at s0; rw [hn_0]; (try rw [z1]); omega)) v7_5 x_6 c_7 b_6.2) hm_5) v6_5 (v7_5 + 1) _ (show ¬ ((v7_5 + 1) < 0) from by have e0 := iv0_5; rw [Int32.lt_iff_toInt_lt] at e0; have e1 := iv1_5; rw [Int32.lt_iff_toInt_lt] at e1; have z0 : (0 : Int32).toInt = 0 := (by decide +kernel); have z1 : (1 : Int32).toInt = 1 := (by decide +kernel); have z2 : (12 : Int32).toInt = 12 := (by decide +kernel); have ss := fb_addI (x := v7_5) (y := 1) (by omega) (by omega); rw [Int32.lt_iff_toInt_lt]; omega) (show ¬ (12 < (v7_5 + 1)) from ((fun (a_0 : Int32) (a_1 : Int32) (k_0 : ¬ (a_1 ≤ a_0)) (k_1 : ¬ (12 < a_1)) => (show ¬ (12 < (a_0 + 1)) from by have z0 : (1 : Int32).toInt = 1 := (by decide +kernel); have z1 : (12 : Int32).toInt = 12 := (by decide +kernel); have r0 := fb_rng (a_0); have r1 := fb_rng (a_1); have e0 := k_0; rw [Int32.le_iff_toInt_le] at e0; have e1 := k_1; rw [Int32.lt_iff_toInt_lt, z1] at e1; obtain ⟨n_0, hn_0, s0⟩ := nd_add (x := (a_0)) (y := (1 : Int32)) (by (try rw [z0]); omega) (by (try rw [z0]); omega); rw [z0] at s0; rw [hn_0, Int32.lt_iff_toInt_lt, z1]; omega)) v7_5 x_6 c_7 b_6.2)) (by exact ms_2 ((fun (a_0 : Int32) (a_1 : Int32) (k_0 : ¬ (a_1 ≤ a_0)) (k_1 : ¬ (12 < a_1)) => (show 1 ≤ (12 : Int32).toInt - (a_0).toInt ∧ (12 : Int32).toInt - ((a_0) + (1 : Int32)).toInt + 1 ≤ (12 : Int32).toInt - (a_0).toInt from by have z0 : (1 : Int32).toInt = 1 := (by decide +kernel); have z1 : (12 : Int32).toInt = 12 := (by decide +kernel); have r0 := fb_rng (a_0); have r1 := fb_rng (a_1); have e0 := k_0; rw [Int32.le_iff_toInt_le] at e0; have e1 := k_1; rw [Int32.lt_iff_toInt_lt, z1] at e1; obtain ⟨n_0, hn_0, s0⟩ := nd_add (x := (a_0)) (y := (1 : Int32)) (by (try rw [z0]); omega) (by (try rw [z0]); omega); rw [z0] at s0; rw [hn_0]; (try rw [z1]); omega)) v7_5 x_6 c_7 b_6.2) hm_5) (by rw [← hrec_5, wpR_Or_price_w_55_5_pos (ms_3 ((fun (a_0 : Int32) (a_1 : Int32) (k_0 : ¬ (a_1 ≤ a_0)) (k_1 : ¬ (12 < a_1)) => (show 1 ≤ (12 : Int32).toInt - (a_0).toInt ∧ (12 : Int32).toInt - ((a_0) + (1 : Int32)).toInt + 1 ≤ (12 : Int32).toInt - (a_0).toInt from by have z0 : (1 : Int32).toInt = 1 := (by decide +kernel); have z1 : (12 : Int32).toInt = 12 := (by decide +kernel); have r0 := fb_rng (a_0); have r1 := fb_rng (a_1); have e0 := k_0; rw [Int32.le_iff_toInt_le] at e0; have e1 := k_1; rw [Int32.lt_iff_toInt_lt, z1] at e1; obtain ⟨n_0, hn_0, s0⟩ := nd_add (x := (a_0)) (y := (1 : Int32)) (by (try rw [z0]); omega) (by (try rw [z0]); omega); rw [z0] at s0; rw [hn_0]; (try rw [z1]); omega)) v7_5 x_6 c_7 b_6.2) hm_5)] at hQ; exact hQ) (lv_sub hl [1, 2, 3, 4, 5, 0] rfl)
              · have hQ := hQ.2 rfl
                refine lv_if_eq (tgt := 96) hx hb d_Or_price_75 (by decide) (fun h => absurd h (by decide +kernel)) (fun _ => ?_)
                refine lv_iload hx hb d_Or_price_78 (lv_at hl 4 rfl) ?_
                refine lv_aload_n hx hb d_Or_price_80 rfl (lv_at hl 0 rfl) ?_
                refine tw_getR (D := (dC, dI)) (C := R_Or) (T := F_Or) (N := 9) (ci := 3) (kd := 15) (ct := ct) hx hb htb i_Or hown hK hP m0 rfl rfl 3 e_29 (by decide) (htb (.fieldLink R_Or 15 "WaterMen$Order" "hours" "[I") tw_312) (fun _ h9 => h9) rfl d_Or_price_81 ?_
                refine hb_tv (.ref q_29) rfl ?_
                refine lv_iload hx hb d_Or_price_84 (lv_at hl 5 rfl) ?_
                refine lv_iconst (v := 3) hx hb d_Or_price_86 (by decide +kernel) ?_
                refine lv_imul hx hb d_Or_price_87 ?_
                refine lv_iconst (v := 2) hx hb d_Or_price_88 (by decide +kernel) ?_
                refine lv_iadd hx hb d_Or_price_89 ?_
                refine tw_aldI (ct := ct) hx hb hK hP hO_0 m_29 rfl ((fun (a_0 : Int32) (a_1 : Int32) (k_0 : ¬ (a_0 < 0)) (k_1 : ¬ (a_1 ≤ a_0)) (k_2 : ¬ (12 < a_1)) => (show vp_in (((a_0 * 3) + 2)) 36 from by have z0 : (0 : Int32).toInt = 0 := (by decide +kernel); have z1 : (2 : Int32).toInt = 2 := (by decide +kernel); have z2 : (3 : Int32).toInt = 3 := (by decide +kernel); have z3 : (12 : Int32).toInt = 12 := (by decide +kernel); have r0 := fb_rng (a_0); have r1 := fb_rng (a_1); have e0 := k_0; rw [Int32.lt_iff_toInt_lt, z0] at e0; have e1 := k_1; rw [Int32.le_iff_toInt_le] at e1; have e2 := k_2; rw [Int32.lt_iff_toInt_lt, z3] at e2; obtain ⟨n_0, hn_0, s0⟩ := nd_mul (x := (a_0)) (y := (3 : Int32)) (by (try rw [z2]); omega) (by (try rw [z2]); omega); rw [z2] at s0; obtain ⟨n_1, hn_1, s1⟩ := nd_add (x := n_0) (y := (2 : Int32)) (by (try rw [z1]); omega) (by (try rw [z1]); omega); rw [z1] at s1; rw [hn_0, hn_1, vp_in_iff]; omega)) v7_5 x_6 iv0_5 c_7 b_6.2) d_Or_price_90 (fun x_31 e_31 b_31 => ?_)
                have hQ := hQ x_31 e_31
                refine vp_callSi (va_Run.run (va_runS (As := [.int v6_5, .int x_31]) (rest := []) ⟨hx, hb, hml, hown, htb⟩ (c_Or_scaled_w l dC dI ct L f hO_0 v6_5 x_31 _ hQ) (cwS 2 htb (gd_S tw_427 tw_428 tw_250 tw_426) rfl rfl rfl (by decide +kernel) ⟨Nat.le_of_ble_eq_true rfl, Nat.le_of_ble_eq_true rfl⟩) ⟨pr_blind, pr_pre hP hK hN⟩ rfl rfl hl.1 rfl (lv_room (Nat.le_of_ble_eq_true rfl)) d_Or_price_91 ⟨Nat.le_of_ble_eq_true rfl, Nat.le_of_ble_eq_true rfl⟩)) (fun r_32 er_32 => ?_)
                obtain ⟨er_32, hQ⟩ := er_32
                clear er_32
                refine lv_istore (lv' := [(6, .int r_32), (0, .ref q0), (3, .int p_2), (4, .int p_3), (5, .int p_4), (7, .int v7_5)]) hx hb d_Or_price_94 hl (by decide) rfl (fun ls hl => ?_)
                refine lv_iinc (v := (v7_5 + 1)) (lv' := [(7, .int (v7_5 + 1)), (6, .int r_32), (0, .ref q0), (3, .int p_2), (4, .int p_3), (5, .int p_4)]) hx hb d_Or_price_96 hl (k := 5) rfl rfl (by decide) rfl (fun ls hl => ?_)
                refine lv_goto (tgt := 55) hx hb d_Or_price_99 (by decide) ?_
                exact ih_5 (n_5 - 1) (ms_1 ((fun (a_0 : Int32) (a_1 : Int32) (k_0 : ¬ (a_1 ≤ a_0)) (k_1 : ¬ (12 < a_1)) => (show 1 ≤ (12 : Int32).toInt - (a_0).toInt ∧ (12 : Int32).toInt - ((a_0) + (1 : Int32)).toInt + 1 ≤ (12 : Int32).toInt - (a_0).toInt from by have z0 : (1 : Int32).toInt = 1 := (by decide +kernel); have z1 : (12 : Int32).toInt = 12 := (by decide +kernel); have r0 := fb_rng (a_0); have r1 := fb_rng (a_1); have e0 := k_0; rw [Int32.le_iff_toInt_le] at e0; have e1 := k_1; rw [Int32.lt_iff_toInt_lt, z1] at e1; obtain ⟨n_0, hn_0, s0⟩ := nd_add (x := (a_0)) (y := (1 : Int32)) (by (try rw [z0]); omega) (by (try rw [z0]); omega); rw [z0] at s0; rw [hn_0]; (try rw [z1]); omega)) v7_5 x_6 c_7 b_6.2) hm_5) r_32 (v7_5 + 1) _ (show ¬ ((v7_5 + 1) < 0) from by have e0 := iv0_5; rw [Int32.lt_iff_toInt_lt] at e0; have e1 := iv1_5; rw [Int32.lt_iff_toInt_lt] at e1; have z0 : (0 : Int32).toInt = 0 := (by decide +kernel); have z1 : (1 : Int32).toInt = 1 := (by decide +kernel); have z2 : (12 : Int32).toInt = 12 := (by decide +kernel); have ss := fb_addI (x := v7_5) (y := 1) (by omega) (by omega); rw [Int32.lt_iff_toInt_lt]; omega) (show ¬ (12 < (v7_5 + 1)) from ((fun (a_0 : Int32) (a_1 : Int32) (k_0 : ¬ (a_1 ≤ a_0)) (k_1 : ¬ (12 < a_1)) => (show ¬ (12 < (a_0 + 1)) from by have z0 : (1 : Int32).toInt = 1 := (by decide +kernel); have z1 : (12 : Int32).toInt = 12 := (by decide +kernel); have r0 := fb_rng (a_0); have r1 := fb_rng (a_1); have e0 := k_0; rw [Int32.le_iff_toInt_le] at e0; have e1 := k_1; rw [Int32.lt_iff_toInt_lt, z1] at e1; obtain ⟨n_0, hn_0, s0⟩ := nd_add (x := (a_0)) (y := (1 : Int32)) (by (try rw [z0]); omega) (by (try rw [z0]); omega); rw [z0] at s0; rw [hn_0, Int32.lt_iff_toInt_lt, z1]; omega)) v7_5 x_6 c_7 b_6.2)) (by exact ms_2 ((fun (a_0 : Int32) (a_1 : Int32) (k_0 : ¬ (a_1 ≤ a_0)) (k_1 : ¬ (12 < a_1)) => (show 1 ≤ (12 : Int32).toInt - (a_0).toInt ∧ (12 : Int32).toInt - ((a_0) + (1 : Int32)).toInt + 1 ≤ (12 : Int32).toInt - (a_0).toInt from by have z0 : (1 : Int32).toInt = 1 := (by decide +kernel); have z1 : (12 : Int32).toInt = 12 := (by decide +kernel); have r0 := fb_rng (a_0); have r1 := fb_rng (a_1); have e0 := k_0; rw [Int32.le_iff_toInt_le] at e0; have e1 := k_1; rw [Int32.lt_iff_toInt_lt, z1] at e1; obtain ⟨n_0, hn_0, s0⟩ := nd_add (x := (a_0)) (y := (1 : Int32)) (by (try rw [z0]); omega) (by (try rw [z0]); omega); rw [z0] at s0; rw [hn_0]; (try rw [z1]); omega)) v7_5 x_6 c_7 b_6.2) hm_5) (by rw [← hrec_5, wpR_Or_price_w_55_5_pos (ms_3 ((fun (a_0 : Int32) (a_1 : Int32) (k_0 : ¬ (a_1 ≤ a_0)) (k_1 : ¬ (12 < a_1)) => (show 1 ≤ (12 : Int32).toInt - (a_0).toInt ∧ (12 : Int32).toInt - ((a_0) + (1 : Int32)).toInt + 1 ≤ (12 : Int32).toInt - (a_0).toInt from by have z0 : (1 : Int32).toInt = 1 := (by decide +kernel); have z1 : (12 : Int32).toInt = 12 := (by decide +kernel); have r0 := fb_rng (a_0); have r1 := fb_rng (a_1); have e0 := k_0; rw [Int32.le_iff_toInt_le] at e0; have e1 := k_1; rw [Int32.lt_iff_toInt_lt, z1] at e1; obtain ⟨n_0, hn_0, s0⟩ := nd_add (x := (a_0)) (y := (1 : Int32)) (by (try rw [z0]); omega) (by (try rw [z0]); omega); rw [z0] at s0; rw [hn_0]; (try rw [z1]); omega)) v7_5 x_6 c_7 b_6.2) hm_5)] at hQ; exact hQ) (lv_sub hl [2, 3, 4, 5, 1, 0] rfl)
        exact cut_5 ((12 : Int32).toInt - (0 : Int32).toInt).toNat r_1 (0 : Int32) _ (by decide +kernel) (by decide +kernel) (by exact ms_e _ _) hQ (lv_sub hl [2, 5, 6, 7, 1, 0] rfl)
      · have hQ := hQ.2 c_4
        refine lv_iload hx hb d_Or_price_39 (lv_at hl 0 rfl) ?_
        refine lv_aload_n hx hb d_Or_price_41 rfl (lv_at hl 1 rfl) ?_
        refine tw_getr (D := (dC, dI)) (C := R_Or) (T := F_Or) (N := 9) (ci := 3) (kd := 15) (ct := ct) hx hb htb i_Or hown hK hP hO_0 m0 rfl rfl 4 (by decide) (htb (.fieldLink R_Or 20 "WaterMen$Order" "single" "[I") tw_248) (fun _ h9 => h9) rfl d_Or_price_42 (fun q_33 e_33 m_33 => ?_)
        have hQ := hQ q_33 e_33
        refine lv_iconst (v := 3) hx hb d_Or_price_45 (by decide +kernel) ?_
        refine tw_aldI (ct := ct) hx hb hK hP hO_0 m_33 rfl (by unfold vp_in; decide +kernel) d_Or_price_46 (fun x_34 e_34 b_34 => ?_)
        have hQ := hQ x_34 e_34
        refine vp_callSi (va_Run.run (va_runS (As := [.int r_1, .int x_34]) (rest := []) ⟨hx, hb, hml, hown, htb⟩ (c_Or_scaled_w l dC dI ct L f hO_0 r_1 x_34 _ hQ) (cwS 2 htb (gd_S tw_427 tw_428 tw_250 tw_426) rfl rfl rfl (by decide +kernel) ⟨Nat.le_of_ble_eq_true rfl, Nat.le_of_ble_eq_true rfl⟩) ⟨pr_blind, pr_pre hP hK hN⟩ rfl rfl hl.1 rfl (lv_room (Nat.le_of_ble_eq_true rfl)) d_Or_price_47 ⟨Nat.le_of_ble_eq_true rfl, Nat.le_of_ble_eq_true rfl⟩)) (fun r_35 er_35 => ?_)
        obtain ⟨er_35, hQ⟩ := er_35
        clear er_35
        refine lv_istore (lv' := [(6, .int r_35), (0, .ref q0), (1, .int p_0), (2, .int p_1), (3, .int p_2), (4, .int p_3), (5, .int p_4)]) hx hb d_Or_price_50 hl (by decide) rfl (fun ls hl => ?_)
        refine lv_iconst (v := 0) hx hb d_Or_price_52 (by decide +kernel) ?_
        refine lv_istore (lv' := [(7, .int 0), (6, .int r_35), (0, .ref q0), (1, .int p_0), (2, .int p_1), (3, .int p_2), (4, .int p_3), (5, .int p_4)]) hx hb d_Or_price_53 hl (by decide) rfl (fun ls hl => ?_)
        have cut_36 : ∀ (n_36 : Nat) (v6_36 v7_36 : Int32) (ls : Array Slot), ¬ (v7_36 < 0) → ¬ (12 < v7_36) → (12 : Int32).toInt - (v7_36 : Int32).toInt ≤ (n_36 : Int) → wpL_Or_price_w_55_36 L f q0 p_0 p_1 p_2 p_3 p_4 r_1 q_33 x_34 r_35 Q n_36 v6_36 v7_36 → lv_has ls 8 [(0, .ref q0), (3, .int p_2), (4, .int p_3), (5, .int p_4), (6, .int v6_36), (7, .int v7_36)] → W p l e (headSpec (.code y_Or_price b_Or_price 8 (some .int) :: TB) ({ frames := 2, cells := 0, slots := 0, locals := 44 })).room s m [.ref q0, .int p_0, .int p_1, .int p_2, .int p_3, .int p_4].toArray below meth c s.heap [] 0 0 (MQ below (vp_Si (fun r => (True) ∧ Q r)) [.ref q0, .int p_0, .int p_1, .int p_2, .int p_3, .int p_4].toArray s 0 0 (fun _ => False)) (F0 m 55 ls []) := by
          intro n_36
          induction n_36 using Nat.strongRecOn with
          | _ n_36 ih_36 =>
            intro v6_36 v7_36 ls iv0_36 iv1_36 hm_36 hQ hl
            rw [wpL_Or_price_w_55_36_eq] at hQ
            obtain ⟨rec_36, hrec_36⟩ : ∃ g, wpR_Or_price_w_55_36 L f q0 p_0 p_1 p_2 p_3 p_4 r_1 q_33 x_34 r_35 Q n_36 = g := ⟨_, rfl⟩
            rw [hrec_36] at hQ
            unfold wpB_Or_price_w_55_36 at hQ
            refine lv_iload hx hb d_Or_price_55 (lv_at hl 5 rfl) ?_
            refine lv_aload_n hx hb d_Or_price_57 rfl (lv_at hl 0 rfl) ?_
            refine tw_geti (D := (dC, dI)) (C := R_Or) (T := F_Or) (N := 9) (ci := 3) (kd := 15) (ct := ct) hx hb htb i_Or hown hK hP hO_0 m0 rfl rfl 6 (by decide) (htb (.fieldLink R_Or 27 "WaterMen$Order" "hourCount" "I") tw_247) (fun _ h9 => h9) rfl d_Or_price_58 (fun x_37 e_37 b_37 => ?_)
            have hQ := hQ x_37 e_37
            refine lv_icmp_ge (tgt := 102) hx hb d_Or_price_61 (by decide) (fun c_38 => ?_) (fun c_38 => ?_)
            · have hQ := hQ.1 c_38
              refine lv_iload_n hx hb d_Or_price_102 rfl (lv_at hl 1 rfl) ?_
              refine vp_callSi (va_Run.run (va_runSN (As := [.int p_2]) (rest := []) ⟨hx, hb, hml, hown, htb⟩ (c_WM_isSunday l p_2) ⟨va_cnB 1 htb (gd_I tw_208) rfl rfl rfl (hN.1 _ nw_6) (htb (.initialized R_WM) tw_26) (by decide +kernel) ⟨Nat.le_of_ble_eq_true rfl, Nat.le_of_ble_eq_true rfl⟩, (htb (.static y_WM_isSunday) tw_210), trivial⟩ ⟨fun _ _ _ _ h => h, fun U _ _ => ⟨rfl, trivial⟩⟩ rfl rfl hl.1 rfl (lv_room (Nat.le_of_ble_eq_true rfl)) d_Or_price_103 ⟨Nat.le_of_ble_eq_true rfl, Nat.le_of_ble_eq_true rfl⟩)) (fun r er => ?_)
              subst er
              by_cases c_40 : (p_2 - p_2 / 7 * 7) = 0
              · have hQ := hQ.1 c_40
                refine hb_ti 1 (by unfold f_WM_isSunday; rw [if_pos c_40]; first | done | rfl) ?_
                refine lv_if_eq (tgt := 122) hx hb d_Or_price_106 (by decide) (fun h => absurd h (by decide +kernel)) (fun _ => ?_)
                refine lv_iload hx hb d_Or_price_109 (lv_at hl 4 rfl) ?_
                refine lv_aload_n hx hb d_Or_price_111 rfl (lv_at hl 0 rfl) ?_
                refine tw_getR (D := (dC, dI)) (C := R_Or) (T := F_Or) (N := 9) (ci := 3) (kd := 15) (ct := ct) hx hb htb i_Or hown hK hP m0 rfl rfl 4 e_33 (by decide) (htb (.fieldLink R_Or 20 "WaterMen$Order" "single" "[I") tw_248) (fun _ h9 => h9) rfl d_Or_price_112 ?_
                refine hb_tv (.ref q_33) rfl ?_
                refine lv_iconst (v := 4) hx hb d_Or_price_115 (by decide +kernel) ?_
                refine tw_aldI (ct := ct) hx hb hK hP hO_0 m_33 rfl (by unfold vp_in; decide +kernel) d_Or_price_116 (fun x_41 e_41 b_41 => ?_)
                have hQ := hQ x_41 e_41
                refine vp_callSi (va_Run.run (va_runS (As := [.int v6_36, .int x_41]) (rest := []) ⟨hx, hb, hml, hown, htb⟩ (c_Or_scaled_w l dC dI ct L f hO_0 v6_36 x_41 _ hQ) (cwS 2 htb (gd_S tw_427 tw_428 tw_250 tw_426) rfl rfl rfl (by decide +kernel) ⟨Nat.le_of_ble_eq_true rfl, Nat.le_of_ble_eq_true rfl⟩) ⟨pr_blind, pr_pre hP hK hN⟩ rfl rfl hl.1 rfl (lv_room (Nat.le_of_ble_eq_true rfl)) d_Or_price_117 ⟨Nat.le_of_ble_eq_true rfl, Nat.le_of_ble_eq_true rfl⟩)) (fun r_42 er_42 => ?_)
                obtain ⟨er_42, hQ⟩ := er_42
                clear er_42
                refine lv_istore (lv' := [(6, .int r_42), (0, .ref q0), (3, .int p_2), (4, .int p_3), (5, .int p_4), (7, .int v7_36)]) hx hb d_Or_price_120 hl (by decide) rfl (fun ls hl => ?_)
                refine lv_iload hx hb d_Or_price_122 (lv_at hl 4 rfl) ?_
                refine lv_iconst (v := 2) hx hb d_Or_price_124 (by decide +kernel) ?_
                refine lv_icmp_ne (tgt := 142) hx hb d_Or_price_125 (by decide) (fun c_43 => ?_) (fun c_43 => ?_)
                · have hQ := hQ.2 c_43
                  refine lv_iload hx hb d_Or_price_142 (lv_at hl 0 rfl) ?_
                  refine lv_aload_n hx hb d_Or_price_144 rfl (lv_at hl 1 rfl) ?_
                  refine tw_getR (D := (dC, dI)) (C := R_Or) (T := F_Or) (N := 9) (ci := 3) (kd := 15) (ct := ct) hx hb htb i_Or hown hK hP m0 rfl rfl 4 e_33 (by decide) (htb (.fieldLink R_Or 20 "WaterMen$Order" "single" "[I") tw_248) (fun _ h9 => h9) rfl d_Or_price_145 ?_
                  refine hb_tv (.ref q_33) rfl ?_
                  refine lv_iconst (v := 5) hx hb d_Or_price_148 (by decide +kernel) ?_
                  refine tw_aldI (ct := ct) hx hb hK hP hO_0 m_33 rfl (by unfold vp_in; decide +kernel) d_Or_price_149 (fun x_44 e_44 b_44 => ?_)
                  have hQ := hQ x_44 e_44
                  refine va_mmax hx hb (hml.trans hl.1.symm) hown (htb (.methodLink R_Or 56 Lib.Math.max.name) tw_429) (htb (.static Lib.Math.max.name) tw_54) (htb (.initialized "java/lang/Math") tw_55) (htb (.code Lib.Math.max.name Lib.Math.max.code 2 (some .int)) tw_56) (Nat.le_of_ble_eq_true rfl) (Nat.le_of_ble_eq_true rfl) (Nat.le_of_ble_eq_true rfl) (Nat.le_of_ble_eq_true rfl) d_Or_price_150 ?_
                  refine hb_eqi (fun y_45 hy_45 => ?_)
                  have hQ := hQ y_45 hy_45
                  exact W.iret (v := y_45) hx hb hr (fun t ht hW => ⟨y_45, rfl, ⟨trivial, hQ⟩, ht⟩) t_nil d_Or_price_153
                · have hQ := hQ.1 c_43
                  refine lv_iload hx hb d_Or_price_128 (lv_at hl 0 rfl) ?_
                  refine lv_aload_n hx hb d_Or_price_130 rfl (lv_at hl 1 rfl) ?_
                  refine tw_getR (D := (dC, dI)) (C := R_Or) (T := F_Or) (N := 9) (ci := 3) (kd := 15) (ct := ct) hx hb htb i_Or hown hK hP m0 rfl rfl 4 e_33 (by decide) (htb (.fieldLink R_Or 20 "WaterMen$Order" "single" "[I") tw_248) (fun _ h9 => h9) rfl d_Or_price_131 ?_
                  refine hb_tv (.ref q_33) rfl ?_
                  refine lv_bipush (v := 8) hx hb d_Or_price_134 (by decide +kernel) ?_
                  refine tw_aldI (ct := ct) hx hb hK hP hO_0 m_33 rfl (by unfold vp_in; decide +kernel) d_Or_price_136 (fun x_46 e_46 b_46 => ?_)
                  have hQ := hQ x_46 e_46
                  refine vp_callSi (va_Run.run (va_runS (As := [.int r_42, .int x_46]) (rest := []) ⟨hx, hb, hml, hown, htb⟩ (c_Or_scaled_w l dC dI ct L f hO_0 r_42 x_46 _ hQ) (cwS 2 htb (gd_S tw_427 tw_428 tw_250 tw_426) rfl rfl rfl (by decide +kernel) ⟨Nat.le_of_ble_eq_true rfl, Nat.le_of_ble_eq_true rfl⟩) ⟨pr_blind, pr_pre hP hK hN⟩ rfl rfl hl.1 rfl (lv_room (Nat.le_of_ble_eq_true rfl)) d_Or_price_137 ⟨Nat.le_of_ble_eq_true rfl, Nat.le_of_ble_eq_true rfl⟩)) (fun r_47 er_47 => ?_)
                  obtain ⟨er_47, hQ⟩ := er_47
                  clear er_47
                  refine lv_istore (lv' := [(6, .int r_47), (0, .ref q0), (3, .int p_2), (4, .int p_3), (5, .int p_4), (7, .int v7_36)]) hx hb d_Or_price_140 hl (by decide) rfl (fun ls hl => ?_)
                  refine lv_iload hx hb d_Or_price_142 (lv_at hl 0 rfl) ?_
                  refine lv_aload_n hx hb d_Or_price_144 rfl (lv_at hl 1 rfl) ?_
                  refine tw_getR (D := (dC, dI)) (C := R_Or) (T := F_Or) (N := 9) (ci := 3) (kd := 15) (ct := ct) hx hb htb i_Or hown hK hP m0 rfl rfl 4 e_33 (by decide) (htb (.fieldLink R_Or 20 "WaterMen$Order" "single" "[I") tw_248) (fun _ h9 => h9) rfl d_Or_price_145 ?_
                  refine hb_tv (.ref q_33) rfl ?_
                  refine lv_iconst (v := 5) hx hb d_Or_price_148 (by decide +kernel) ?_
                  refine tw_aldI (ct := ct) hx hb hK hP hO_0 m_33 rfl (by unfold vp_in; decide +kernel) d_Or_price_149 (fun x_48 e_48 b_48 => ?_)
                  have hQ := hQ x_48 e_48
                  refine va_mmax hx hb (hml.trans hl.1.symm) hown (htb (.methodLink R_Or 56 Lib.Math.max.name) tw_429) (htb (.static Lib.Math.max.name) tw_54) (htb (.initialized "java/lang/Math") tw_55) (htb (.code Lib.Math.max.name Lib.Math.max.code 2 (some .int)) tw_56) (Nat.le_of_ble_eq_true rfl) (Nat.le_of_ble_eq_true rfl) (Nat.le_of_ble_eq_true rfl) (Nat.le_of_ble_eq_true rfl) d_Or_price_150 ?_
                  refine hb_eqi (fun y_49 hy_49 => ?_)
                  have hQ := hQ y_49 hy_49
                  exact W.iret (v := y_49) hx hb hr (fun t ht hW => ⟨y_49, rfl, ⟨trivial, hQ⟩, ht⟩) t_nil d_Or_price_153
              · have hQ := hQ.2 c_40
                refine hb_ti 0 (by unfold f_WM_isSunday; rw [if_neg c_40]; first | done | rfl) ?_
                refine lv_if_eq (tgt := 122) hx hb d_Or_price_106 (by decide) (fun _ => ?_) (fun h => absurd (by decide +kernel) h)
                refine lv_iload hx hb d_Or_price_122 (lv_at hl 3 rfl) ?_
                refine lv_iconst (v := 2) hx hb d_Or_price_124 (by decide +kernel) ?_
                refine lv_icmp_ne (tgt := 142) hx hb d_Or_price_125 (by decide) (fun c_50 => ?_) (fun c_50 => ?_)
                · have hQ := hQ.2 c_50
                  refine lv_iload hx hb d_Or_price_142 (lv_at hl 4 rfl) ?_
                  refine lv_aload_n hx hb d_Or_price_144 rfl (lv_at hl 0 rfl) ?_
                  refine tw_getR (D := (dC, dI)) (C := R_Or) (T := F_Or) (N := 9) (ci := 3) (kd := 15) (ct := ct) hx hb htb i_Or hown hK hP m0 rfl rfl 4 e_33 (by decide) (htb (.fieldLink R_Or 20 "WaterMen$Order" "single" "[I") tw_248) (fun _ h9 => h9) rfl d_Or_price_145 ?_
                  refine hb_tv (.ref q_33) rfl ?_
                  refine lv_iconst (v := 5) hx hb d_Or_price_148 (by decide +kernel) ?_
                  refine tw_aldI (ct := ct) hx hb hK hP hO_0 m_33 rfl (by unfold vp_in; decide +kernel) d_Or_price_149 (fun x_51 e_51 b_51 => ?_)
                  have hQ := hQ x_51 e_51
                  refine va_mmax hx hb (hml.trans hl.1.symm) hown (htb (.methodLink R_Or 56 Lib.Math.max.name) tw_429) (htb (.static Lib.Math.max.name) tw_54) (htb (.initialized "java/lang/Math") tw_55) (htb (.code Lib.Math.max.name Lib.Math.max.code 2 (some .int)) tw_56) (Nat.le_of_ble_eq_true rfl) (Nat.le_of_ble_eq_true rfl) (Nat.le_of_ble_eq_true rfl) (Nat.le_of_ble_eq_true rfl) d_Or_price_150 ?_
                  refine hb_eqi (fun y_52 hy_52 => ?_)
                  have hQ := hQ y_52 hy_52
                  exact W.iret (v := y_52) hx hb hr (fun t ht hW => ⟨y_52, rfl, ⟨trivial, hQ⟩, ht⟩) t_nil d_Or_price_153
                · have hQ := hQ.1 c_50
                  refine lv_iload hx hb d_Or_price_128 (lv_at hl 4 rfl) ?_
                  refine lv_aload_n hx hb d_Or_price_130 rfl (lv_at hl 0 rfl) ?_
                  refine tw_getR (D := (dC, dI)) (C := R_Or) (T := F_Or) (N := 9) (ci := 3) (kd := 15) (ct := ct) hx hb htb i_Or hown hK hP m0 rfl rfl 4 e_33 (by decide) (htb (.fieldLink R_Or 20 "WaterMen$Order" "single" "[I") tw_248) (fun _ h9 => h9) rfl d_Or_price_131 ?_
                  refine hb_tv (.ref q_33) rfl ?_
                  refine lv_bipush (v := 8) hx hb d_Or_price_134 (by decide +kernel) ?_
                  refine tw_aldI (ct := ct) hx hb hK hP hO_0 m_33 rfl (by unfold vp_in; decide +kernel) d_Or_price_136 (fun x_53 e_53 b_53 => ?_)
                  have hQ := hQ x_53 e_53
                  refine vp_callSi (va_Run.run (va_runS (As := [.int v6_36, .int x_53]) (rest := []) ⟨hx, hb, hml, hown, htb⟩ (c_Or_scaled_w l dC dI ct L f hO_0 v6_36 x_53 _ hQ) (cwS 2 htb (gd_S tw_427 tw_428 tw_250 tw_426) rfl rfl rfl (by decide +kernel) ⟨Nat.le_of_ble_eq_true rfl, Nat.le_of_ble_eq_true rfl⟩) ⟨pr_blind, pr_pre hP hK hN⟩ rfl rfl hl.1 rfl (lv_room (Nat.le_of_ble_eq_true rfl)) d_Or_price_137 ⟨Nat.le_of_ble_eq_true rfl, Nat.le_of_ble_eq_true rfl⟩)) (fun r_54 er_54 => ?_)
                  obtain ⟨er_54, hQ⟩ := er_54
                  clear er_54
                  refine lv_istore (lv' := [(6, .int r_54), (0, .ref q0), (3, .int p_2), (4, .int p_3), (5, .int p_4), (7, .int v7_36)]) hx hb d_Or_price_140 hl (by decide) rfl (fun ls hl => ?_)
                  refine lv_iload hx hb d_Or_price_142 (lv_at hl 0 rfl) ?_
                  refine lv_aload_n hx hb d_Or_price_144 rfl (lv_at hl 1 rfl) ?_
                  refine tw_getR (D := (dC, dI)) (C := R_Or) (T := F_Or) (N := 9) (ci := 3) (kd := 15) (ct := ct) hx hb htb i_Or hown hK hP m0 rfl rfl 4 e_33 (by decide) (htb (.fieldLink R_Or 20 "WaterMen$Order" "single" "[I") tw_248) (fun _ h9 => h9) rfl d_Or_price_145 ?_
                  refine hb_tv (.ref q_33) rfl ?_
                  refine lv_iconst (v := 5) hx hb d_Or_price_148 (by decide +kernel) ?_
                  refine tw_aldI (ct := ct) hx hb hK hP hO_0 m_33 rfl (by unfold vp_in; decide +kernel) d_Or_price_149 (fun x_55 e_55 b_55 => ?_)
                  have hQ := hQ x_55 e_55
                  refine va_mmax hx hb (hml.trans hl.1.symm) hown (htb (.methodLink R_Or 56 Lib.Math.max.name) tw_429) (htb (.static Lib.Math.max.name) tw_54) (htb (.initialized "java/lang/Math") tw_55) (htb (.code Lib.Math.max.name Lib.Math.max.code 2 (some .int)) tw_56) (Nat.le_of_ble_eq_true rfl) (Nat.le_of_ble_eq_true rfl) (Nat.le_of_ble_eq_true rfl) (Nat.le_of_ble_eq_true rfl) d_Or_price_150 ?_
                  refine hb_eqi (fun y_56 hy_56 => ?_)
                  have hQ := hQ y_56 hy_56
                  exact W.iret (v := y_56) hx hb hr (fun t ht hW => ⟨y_56, rfl, ⟨trivial, hQ⟩, ht⟩) t_nil d_Or_price_153
            · have hQ := hQ.2 c_38
              refine lv_aload_n hx hb d_Or_price_64 rfl (lv_at hl 0 rfl) ?_
              refine tw_getr (D := (dC, dI)) (C := R_Or) (T := F_Or) (N := 9) (ci := 3) (kd := 15) (ct := ct) hx hb htb i_Or hown hK hP hO_0 m0 rfl rfl 3 (by decide) (htb (.fieldLink R_Or 15 "WaterMen$Order" "hours" "[I") tw_312) (fun _ h9 => h9) rfl d_Or_price_65 (fun q_57 e_57 m_57 => ?_)
              have hQ := hQ q_57 e_57
              refine lv_iload hx hb d_Or_price_68 (lv_at hl 5 rfl) ?_
              refine lv_iload hx hb d_Or_price_70 (lv_at hl 2 rfl) ?_
              refine vp_callSi (va_Run.run (va_runS (As := [.ref q_57, .int v7_36, .int p_3]) (rest := []) ⟨hx, hb, hml, hown, htb⟩ (c_Or_lineHolds_k17_w l dC dI ct L f hO_0 q_57 m_57 v7_36 p_3 iv0_36 (show ¬ (11 < v7_36) from ((fun (a_0 : Int32) (a_1 : Int32) (k_0 : ¬ (a_1 ≤ a_0)) (k_1 : ¬ (12 < a_1)) => (show ¬ (11 < a_0) from by have z0 : (11 : Int32).toInt = 11 := (by decide +kernel); have z1 : (12 : Int32).toInt = 12 := (by decide +kernel); have r0 := fb_rng (a_0); have r1 := fb_rng (a_1); have e0 := k_0; rw [Int32.le_iff_toInt_le] at e0; have e1 := k_1; rw [Int32.lt_iff_toInt_lt, z1] at e1; rw [Int32.lt_iff_toInt_lt, z0]; omega)) v7_36 x_37 c_38 b_37.2)) _ hQ) (cwS 3 htb (gd_S tw_417 tw_418 tw_250 tw_416) rfl rfl rfl (by decide +kernel) ⟨Nat.le_of_ble_eq_true rfl, Nat.le_of_ble_eq_true rfl⟩) ⟨pr_blind, pr_pre hP hK hN⟩ rfl rfl hl.1 rfl (lv_room (Nat.le_of_ble_eq_true rfl)) d_Or_price_72 ⟨Nat.le_of_ble_eq_true rfl, Nat.le_of_ble_eq_true rfl⟩)) (fun r_58 er_58 => ?_)
              obtain ⟨er_58, hQ⟩ := er_58
              rcases er_58 with ⟨rfl, -⟩ | ⟨rfl, -⟩
              · have hQ := hQ.1 rfl
                refine lv_if_eq (tgt := 96) hx hb d_Or_price_75 (by decide) (fun _ => ?_) (fun h => absurd (by decide +kernel) h)
                refine lv_iinc (v := (v7_36 + 1)) (lv' := [(7, .int (v7_36 + 1)), (0, .ref q0), (3, .int p_2), (4, .int p_3), (5, .int p_4), (6, .int v6_36)]) hx hb d_Or_price_96 hl (k := 5) rfl rfl (by decide) rfl (fun ls hl => ?_)
                refine lv_goto (tgt := 55) hx hb d_Or_price_99 (by decide) ?_
                exact ih_36 (n_36 - 1) (ms_1 ((fun (a_0 : Int32) (a_1 : Int32) (k_0 : ¬ (a_1 ≤ a_0)) (k_1 : ¬ (12 < a_1)) => (show 1 ≤ (12 : Int32).toInt - (a_0).toInt ∧ (12 : Int32).toInt - ((a_0) + (1 : Int32)).toInt + 1 ≤ (12 : Int32).toInt - (a_0).toInt from by have z0 : (1 : Int32).toInt = 1 := (by decide +kernel); have z1 : (12 : Int32).toInt = 12 := (by decide +kernel); have r0 := fb_rng (a_0); have r1 := fb_rng (a_1); have e0 := k_0; rw [Int32.le_iff_toInt_le] at e0; have e1 := k_1; rw [Int32.lt_iff_toInt_lt, z1] at e1; obtain ⟨n_0, hn_0, s0⟩ := nd_add (x := (a_0)) (y := (1 : Int32)) (by (try rw [z0]); omega) (by (try rw [z0]); omega); rw [z0] at s0; rw [hn_0]; (try rw [z1]); omega)) v7_36 x_37 c_38 b_37.2) hm_36) v6_36 (v7_36 + 1) _ (show ¬ ((v7_36 + 1) < 0) from by have e0 := iv0_36; rw [Int32.lt_iff_toInt_lt] at e0; have e1 := iv1_36; rw [Int32.lt_iff_toInt_lt] at e1; have z0 : (0 : Int32).toInt = 0 := (by decide +kernel); have z1 : (1 : Int32).toInt = 1 := (by decide +kernel); have z2 : (12 : Int32).toInt = 12 := (by decide +kernel); have ss := fb_addI (x := v7_36) (y := 1) (by omega) (by omega); rw [Int32.lt_iff_toInt_lt]; omega) (show ¬ (12 < (v7_36 + 1)) from ((fun (a_0 : Int32) (a_1 : Int32) (k_0 : ¬ (a_1 ≤ a_0)) (k_1 : ¬ (12 < a_1)) => (show ¬ (12 < (a_0 + 1)) from by have z0 : (1 : Int32).toInt = 1 := (by decide +kernel); have z1 : (12 : Int32).toInt = 12 := (by decide +kernel); have r0 := fb_rng (a_0); have r1 := fb_rng (a_1); have e0 := k_0; rw [Int32.le_iff_toInt_le] at e0; have e1 := k_1; rw [Int32.lt_iff_toInt_lt, z1] at e1; obtain ⟨n_0, hn_0, s0⟩ := nd_add (x := (a_0)) (y := (1 : Int32)) (by (try rw [z0]); omega) (by (try rw [z0]); omega); rw [z0] at s0; rw [hn_0, Int32.lt_iff_toInt_lt, z1]; omega)) v7_36 x_37 c_38 b_37.2)) (by exact ms_2 ((fun (a_0 : Int32) (a_1 : Int32) (k_0 : ¬ (a_1 ≤ a_0)) (k_1 : ¬ (12 < a_1)) => (show 1 ≤ (12 : Int32).toInt - (a_0).toInt ∧ (12 : Int32).toInt - ((a_0) + (1 : Int32)).toInt + 1 ≤ (12 : Int32).toInt - (a_0).toInt from by have z0 : (1 : Int32).toInt = 1 := (by decide +kernel); have z1 : (12 : Int32).toInt = 12 := (by decide +kernel); have r0 := fb_rng (a_0); have r1 := fb_rng (a_1); have e0 := k_0; rw [Int32.le_iff_toInt_le] at e0; have e1 := k_1; rw [Int32.lt_iff_toInt_lt, z1] at e1; obtain ⟨n_0, hn_0, s0⟩ := nd_add (x := (a_0)) (y := (1 : Int32)) (by (try rw [z0]); omega) (by (try rw [z0]); omega); rw [z0] at s0; rw [hn_0]; (try rw [z1]); omega)) v7_36 x_37 c_38 b_37.2) hm_36) (by rw [← hrec_36, wpR_Or_price_w_55_36_pos (ms_3 ((fun (a_0 : Int32) (a_1 : Int32) (k_0 : ¬ (a_1 ≤ a_0)) (k_1 : ¬ (12 < a_1)) => (show 1 ≤ (12 : Int32).toInt - (a_0).toInt ∧ (12 : Int32).toInt - ((a_0) + (1 : Int32)).toInt + 1 ≤ (12 : Int32).toInt - (a_0).toInt from by have z0 : (1 : Int32).toInt = 1 := (by decide +kernel); have z1 : (12 : Int32).toInt = 12 := (by decide +kernel); have r0 := fb_rng (a_0); have r1 := fb_rng (a_1); have e0 := k_0; rw [Int32.le_iff_toInt_le] at e0; have e1 := k_1; rw [Int32.lt_iff_toInt_lt, z1] at e1; obtain ⟨n_0, hn_0, s0⟩ := nd_add (x := (a_0)) (y := (1 : Int32)) (by (try rw [z0]); omega) (by (try rw [z0]); omega); rw [z0] at s0; rw [hn_0]; (try rw [z1]); omega)) v7_36 x_37 c_38 b_37.2) hm_36)] at hQ; exact hQ) (lv_sub hl [1, 2, 3, 4, 5, 0] rfl)
              · have hQ := hQ.2 rfl
                refine lv_if_eq (tgt := 96) hx hb d_Or_price_75 (by decide) (fun h => absurd h (by decide +kernel)) (fun _ => ?_)
                refine lv_iload hx hb d_Or_price_78 (lv_at hl 4 rfl) ?_
                refine lv_aload_n hx hb d_Or_price_80 rfl (lv_at hl 0 rfl) ?_
                refine tw_getR (D := (dC, dI)) (C := R_Or) (T := F_Or) (N := 9) (ci := 3) (kd := 15) (ct := ct) hx hb htb i_Or hown hK hP m0 rfl rfl 3 e_57 (by decide) (htb (.fieldLink R_Or 15 "WaterMen$Order" "hours" "[I") tw_312) (fun _ h9 => h9) rfl d_Or_price_81 ?_
                refine hb_tv (.ref q_57) rfl ?_
                refine lv_iload hx hb d_Or_price_84 (lv_at hl 5 rfl) ?_
                refine lv_iconst (v := 3) hx hb d_Or_price_86 (by decide +kernel) ?_
                refine lv_imul hx hb d_Or_price_87 ?_
                refine lv_iconst (v := 2) hx hb d_Or_price_88 (by decide +kernel) ?_
                refine lv_iadd hx hb d_Or_price_89 ?_
                refine tw_aldI (ct := ct) hx hb hK hP hO_0 m_57 rfl ((fun (a_0 : Int32) (a_1 : Int32) (k_0 : ¬ (a_0 < 0)) (k_1 : ¬ (a_1 ≤ a_0)) (k_2 : ¬ (12 < a_1)) => (show vp_in (((a_0 * 3) + 2)) 36 from by have z0 : (0 : Int32).toInt = 0 := (by decide +kernel); have z1 : (2 : Int32).toInt = 2 := (by decide +kernel); have z2 : (3 : Int32).toInt = 3 := (by decide +kernel); have z3 : (12 : Int32).toInt = 12 := (by decide +kernel); have r0 := fb_rng (a_0); have r1 := fb_rng (a_1); have e0 := k_0; rw [Int32.lt_iff_toInt_lt, z0] at e0; have e1 := k_1; rw [Int32.le_iff_toInt_le] at e1; have e2 := k_2; rw [Int32.lt_iff_toInt_lt, z3] at e2; obtain ⟨n_0, hn_0, s0⟩ := nd_mul (x := (a_0)) (y := (3 : Int32)) (by (try rw [z2]); omega) (by (try rw [z2]); omega); rw [z2] at s0; obtain ⟨n_1, hn_1, s1⟩ := nd_add (x := n_0) (y := (2 : Int32)) (by (try rw [z1]); omega) (by (try rw [z1]); omega); rw [z1] at s1; rw [hn_0, hn_1, vp_in_iff]; omega)) v7_36 x_37 iv0_36 c_38 b_37.2) d_Or_price_90 (fun x_59 e_59 b_59 => ?_)
                have hQ := hQ x_59 e_59
                refine vp_callSi (va_Run.run (va_runS (As := [.int v6_36, .int x_59]) (rest := []) ⟨hx, hb, hml, hown, htb⟩ (c_Or_scaled_w l dC dI ct L f hO_0 v6_36 x_59 _ hQ) (cwS 2 htb (gd_S tw_427 tw_428 tw_250 tw_426) rfl rfl rfl (by decide +kernel) ⟨Nat.le_of_ble_eq_true rfl, Nat.le_of_ble_eq_true rfl⟩) ⟨pr_blind, pr_pre hP hK hN⟩ rfl rfl hl.1 rfl (lv_room (Nat.le_of_ble_eq_true rfl)) d_Or_price_91 ⟨Nat.le_of_ble_eq_true rfl, Nat.le_of_ble_eq_true rfl⟩)) (fun r_60 er_60 => ?_)
                obtain ⟨er_60, hQ⟩ := er_60
                clear er_60
                refine lv_istore (lv' := [(6, .int r_60), (0, .ref q0), (3, .int p_2), (4, .int p_3), (5, .int p_4), (7, .int v7_36)]) hx hb d_Or_price_94 hl (by decide) rfl (fun ls hl => ?_)
                refine lv_iinc (v := (v7_36 + 1)) (lv' := [(7, .int (v7_36 + 1)), (6, .int r_60), (0, .ref q0), (3, .int p_2), (4, .int p_3), (5, .int p_4)]) hx hb d_Or_price_96 hl (k := 5) rfl rfl (by decide) rfl (fun ls hl => ?_)
                refine lv_goto (tgt := 55) hx hb d_Or_price_99 (by decide) ?_
                exact ih_36 (n_36 - 1) (ms_1 ((fun (a_0 : Int32) (a_1 : Int32) (k_0 : ¬ (a_1 ≤ a_0)) (k_1 : ¬ (12 < a_1)) => (show 1 ≤ (12 : Int32).toInt - (a_0).toInt ∧ (12 : Int32).toInt - ((a_0) + (1 : Int32)).toInt + 1 ≤ (12 : Int32).toInt - (a_0).toInt from by have z0 : (1 : Int32).toInt = 1 := (by decide +kernel); have z1 : (12 : Int32).toInt = 12 := (by decide +kernel); have r0 := fb_rng (a_0); have r1 := fb_rng (a_1); have e0 := k_0; rw [Int32.le_iff_toInt_le] at e0; have e1 := k_1; rw [Int32.lt_iff_toInt_lt, z1] at e1; obtain ⟨n_0, hn_0, s0⟩ := nd_add (x := (a_0)) (y := (1 : Int32)) (by (try rw [z0]); omega) (by (try rw [z0]); omega); rw [z0] at s0; rw [hn_0]; (try rw [z1]); omega)) v7_36 x_37 c_38 b_37.2) hm_36) r_60 (v7_36 + 1) _ (show ¬ ((v7_36 + 1) < 0) from by have e0 := iv0_36; rw [Int32.lt_iff_toInt_lt] at e0; have e1 := iv1_36; rw [Int32.lt_iff_toInt_lt] at e1; have z0 : (0 : Int32).toInt = 0 := (by decide +kernel); have z1 : (1 : Int32).toInt = 1 := (by decide +kernel); have z2 : (12 : Int32).toInt = 12 := (by decide +kernel); have ss := fb_addI (x := v7_36) (y := 1) (by omega) (by omega); rw [Int32.lt_iff_toInt_lt]; omega) (show ¬ (12 < (v7_36 + 1)) from ((fun (a_0 : Int32) (a_1 : Int32) (k_0 : ¬ (a_1 ≤ a_0)) (k_1 : ¬ (12 < a_1)) => (show ¬ (12 < (a_0 + 1)) from by have z0 : (1 : Int32).toInt = 1 := (by decide +kernel); have z1 : (12 : Int32).toInt = 12 := (by decide +kernel); have r0 := fb_rng (a_0); have r1 := fb_rng (a_1); have e0 := k_0; rw [Int32.le_iff_toInt_le] at e0; have e1 := k_1; rw [Int32.lt_iff_toInt_lt, z1] at e1; obtain ⟨n_0, hn_0, s0⟩ := nd_add (x := (a_0)) (y := (1 : Int32)) (by (try rw [z0]); omega) (by (try rw [z0]); omega); rw [z0] at s0; rw [hn_0, Int32.lt_iff_toInt_lt, z1]; omega)) v7_36 x_37 c_38 b_37.2)) (by exact ms_2 ((fun (a_0 : Int32) (a_1 : Int32) (k_0 : ¬ (a_1 ≤ a_0)) (k_1 : ¬ (12 < a_1)) => (show 1 ≤ (12 : Int32).toInt - (a_0).toInt ∧ (12 : Int32).toInt - ((a_0) + (1 : Int32)).toInt + 1 ≤ (12 : Int32).toInt - (a_0).toInt from by have z0 : (1 : Int32).toInt = 1 := (by decide +kernel); have z1 : (12 : Int32).toInt = 12 := (by decide +kernel); have r0 := fb_rng (a_0); have r1 := fb_rng (a_1); have e0 := k_0; rw [Int32.le_iff_toInt_le] at e0; have e1 := k_1; rw [Int32.lt_iff_toInt_lt, z1] at e1; obtain ⟨n_0, hn_0, s0⟩ := nd_add (x := (a_0)) (y := (1 : Int32)) (by (try rw [z0]); omega) (by (try rw [z0]); omega); rw [z0] at s0; rw [hn_0]; (try rw [z1]); omega)) v7_36 x_37 c_38 b_37.2) hm_36) (by rw [← hrec_36, wpR_Or_price_w_55_36_pos (ms_3 ((fun (a_0 : Int32) (a_1 : Int32) (k_0 : ¬ (a_1 ≤ a_0)) (k_1 : ¬ (12 < a_1)) => (show 1 ≤ (12 : Int32).toInt - (a_0).toInt ∧ (12 : Int32).toInt - ((a_0) + (1 : Int32)).toInt + 1 ≤ (12 : Int32).toInt - (a_0).toInt from by have z0 : (1 : Int32).toInt = 1 := (by decide +kernel); have z1 : (12 : Int32).toInt = 12 := (by decide +kernel); have r0 := fb_rng (a_0); have r1 := fb_rng (a_1); have e0 := k_0; rw [Int32.le_iff_toInt_le] at e0; have e1 := k_1; rw [Int32.lt_iff_toInt_lt, z1] at e1; obtain ⟨n_0, hn_0, s0⟩ := nd_add (x := (a_0)) (y := (1 : Int32)) (by (try rw [z0]); omega) (by (try rw [z0]); omega); rw [z0] at s0; rw [hn_0]; (try rw [z1]); omega)) v7_36 x_37 c_38 b_37.2) hm_36)] at hQ; exact hQ) (lv_sub hl [2, 3, 4, 5, 1, 0] rfl)
        exact cut_36 ((12 : Int32).toInt - (0 : Int32).toInt).toNat r_35 (0 : Int32) _ (by decide +kernel) (by decide +kernel) (by exact ms_e _ _) hQ (lv_sub hl [2, 5, 6, 7, 1, 0] rfl)
    · have hQ := hQ.2 c_3
      refine lv_iload hx hb d_Or_price_19 (lv_at hl 0 rfl) ?_
      refine lv_aload_n hx hb d_Or_price_21 rfl (lv_at hl 1 rfl) ?_
      refine tw_getr (D := (dC, dI)) (C := R_Or) (T := F_Or) (N := 9) (ci := 3) (kd := 15) (ct := ct) hx hb htb i_Or hown hK hP hO_0 m0 rfl rfl 4 (by decide) (htb (.fieldLink R_Or 20 "WaterMen$Order" "single" "[I") tw_248) (fun _ h9 => h9) rfl d_Or_price_22 (fun q_61 e_61 m_61 => ?_)
      have hQ := hQ q_61 e_61
      refine lv_iconst (v := 2) hx hb d_Or_price_25 (by decide +kernel) ?_
      refine tw_aldI (ct := ct) hx hb hK hP hO_0 m_61 rfl (by unfold vp_in; decide +kernel) d_Or_price_26 (fun x_62 e_62 b_62 => ?_)
      have hQ := hQ x_62 e_62
      refine vp_callSi (va_Run.run (va_runS (As := [.int r_1, .int x_62]) (rest := []) ⟨hx, hb, hml, hown, htb⟩ (c_Or_scaled_w l dC dI ct L f hO_0 r_1 x_62 _ hQ) (cwS 2 htb (gd_S tw_427 tw_428 tw_250 tw_426) rfl rfl rfl (by decide +kernel) ⟨Nat.le_of_ble_eq_true rfl, Nat.le_of_ble_eq_true rfl⟩) ⟨pr_blind, pr_pre hP hK hN⟩ rfl rfl hl.1 rfl (lv_room (Nat.le_of_ble_eq_true rfl)) d_Or_price_27 ⟨Nat.le_of_ble_eq_true rfl, Nat.le_of_ble_eq_true rfl⟩)) (fun r_63 er_63 => ?_)
      obtain ⟨er_63, hQ⟩ := er_63
      clear er_63
      refine lv_istore (lv' := [(6, .int r_63), (0, .ref q0), (1, .int p_0), (2, .int p_1), (3, .int p_2), (4, .int p_3), (5, .int p_4)]) hx hb d_Or_price_30 hl (by decide) rfl (fun ls hl => ?_)
      refine lv_goto (tgt := 52) hx hb d_Or_price_32 (by decide) ?_
      refine lv_iconst (v := 0) hx hb d_Or_price_52 (by decide +kernel) ?_
      refine lv_istore (lv' := [(7, .int 0), (6, .int r_63), (0, .ref q0), (1, .int p_0), (2, .int p_1), (3, .int p_2), (4, .int p_3), (5, .int p_4)]) hx hb d_Or_price_53 hl (by decide) rfl (fun ls hl => ?_)
      have cut_64 : ∀ (n_64 : Nat) (v6_64 v7_64 : Int32) (ls : Array Slot), ¬ (v7_64 < 0) → ¬ (12 < v7_64) → (12 : Int32).toInt - (v7_64 : Int32).toInt ≤ (n_64 : Int) → wpL_Or_price_w_55_64 L f q0 p_0 p_1 p_2 p_3 p_4 r_1 q_61 x_62 r_63 Q n_64 v6_64 v7_64 → lv_has ls 8 [(0, .ref q0), (3, .int p_2), (4, .int p_3), (5, .int p_4), (6, .int v6_64), (7, .int v7_64)] → W p l e (headSpec (.code y_Or_price b_Or_price 8 (some .int) :: TB) ({ frames := 2, cells := 0, slots := 0, locals := 44 })).room s m [.ref q0, .int p_0, .int p_1, .int p_2, .int p_3, .int p_4].toArray below meth c s.heap [] 0 0 (MQ below (vp_Si (fun r => (True) ∧ Q r)) [.ref q0, .int p_0, .int p_1, .int p_2, .int p_3, .int p_4].toArray s 0 0 (fun _ => False)) (F0 m 55 ls []) := by
        intro n_64
        induction n_64 using Nat.strongRecOn with
        | _ n_64 ih_64 =>
          intro v6_64 v7_64 ls iv0_64 iv1_64 hm_64 hQ hl
          rw [wpL_Or_price_w_55_64_eq] at hQ
          obtain ⟨rec_64, hrec_64⟩ : ∃ g, wpR_Or_price_w_55_64 L f q0 p_0 p_1 p_2 p_3 p_4 r_1 q_61 x_62 r_63 Q n_64 = g := ⟨_, rfl⟩
          rw [hrec_64] at hQ
          unfold wpB_Or_price_w_55_64 at hQ
          refine lv_iload hx hb d_Or_price_55 (lv_at hl 5 rfl) ?_
          refine lv_aload_n hx hb d_Or_price_57 rfl (lv_at hl 0 rfl) ?_
          refine tw_geti (D := (dC, dI)) (C := R_Or) (T := F_Or) (N := 9) (ci := 3) (kd := 15) (ct := ct) hx hb htb i_Or hown hK hP hO_0 m0 rfl rfl 6 (by decide) (htb (.fieldLink R_Or 27 "WaterMen$Order" "hourCount" "I") tw_247) (fun _ h9 => h9) rfl d_Or_price_58 (fun x_65 e_65 b_65 => ?_)
          have hQ := hQ x_65 e_65
          refine lv_icmp_ge (tgt := 102) hx hb d_Or_price_61 (by decide) (fun c_66 => ?_) (fun c_66 => ?_)
          · have hQ := hQ.1 c_66
            refine lv_iload_n hx hb d_Or_price_102 rfl (lv_at hl 1 rfl) ?_
            refine vp_callSi (va_Run.run (va_runSN (As := [.int p_2]) (rest := []) ⟨hx, hb, hml, hown, htb⟩ (c_WM_isSunday l p_2) ⟨va_cnB 1 htb (gd_I tw_208) rfl rfl rfl (hN.1 _ nw_6) (htb (.initialized R_WM) tw_26) (by decide +kernel) ⟨Nat.le_of_ble_eq_true rfl, Nat.le_of_ble_eq_true rfl⟩, (htb (.static y_WM_isSunday) tw_210), trivial⟩ ⟨fun _ _ _ _ h => h, fun U _ _ => ⟨rfl, trivial⟩⟩ rfl rfl hl.1 rfl (lv_room (Nat.le_of_ble_eq_true rfl)) d_Or_price_103 ⟨Nat.le_of_ble_eq_true rfl, Nat.le_of_ble_eq_true rfl⟩)) (fun r er => ?_)
            subst er
            by_cases c_68 : (p_2 - p_2 / 7 * 7) = 0
            · have hQ := hQ.1 c_68
              refine hb_ti 1 (by unfold f_WM_isSunday; rw [if_pos c_68]; first | done | rfl) ?_
              refine lv_if_eq (tgt := 122) hx hb d_Or_price_106 (by decide) (fun h => absurd h (by decide +kernel)) (fun _ => ?_)
              refine lv_iload hx hb d_Or_price_109 (lv_at hl 4 rfl) ?_
              refine lv_aload_n hx hb d_Or_price_111 rfl (lv_at hl 0 rfl) ?_
              refine tw_getR (D := (dC, dI)) (C := R_Or) (T := F_Or) (N := 9) (ci := 3) (kd := 15) (ct := ct) hx hb htb i_Or hown hK hP m0 rfl rfl 4 e_61 (by decide) (htb (.fieldLink R_Or 20 "WaterMen$Order" "single" "[I") tw_248) (fun _ h9 => h9) rfl d_Or_price_112 ?_
              refine hb_tv (.ref q_61) rfl ?_
              refine lv_iconst (v := 4) hx hb d_Or_price_115 (by decide +kernel) ?_
              refine tw_aldI (ct := ct) hx hb hK hP hO_0 m_61 rfl (by unfold vp_in; decide +kernel) d_Or_price_116 (fun x_69 e_69 b_69 => ?_)
              have hQ := hQ x_69 e_69
              refine vp_callSi (va_Run.run (va_runS (As := [.int v6_64, .int x_69]) (rest := []) ⟨hx, hb, hml, hown, htb⟩ (c_Or_scaled_w l dC dI ct L f hO_0 v6_64 x_69 _ hQ) (cwS 2 htb (gd_S tw_427 tw_428 tw_250 tw_426) rfl rfl rfl (by decide +kernel) ⟨Nat.le_of_ble_eq_true rfl, Nat.le_of_ble_eq_true rfl⟩) ⟨pr_blind, pr_pre hP hK hN⟩ rfl rfl hl.1 rfl (lv_room (Nat.le_of_ble_eq_true rfl)) d_Or_price_117 ⟨Nat.le_of_ble_eq_true rfl, Nat.le_of_ble_eq_true rfl⟩)) (fun r_70 er_70 => ?_)
              obtain ⟨er_70, hQ⟩ := er_70
              clear er_70
              refine lv_istore (lv' := [(6, .int r_70), (0, .ref q0), (3, .int p_2), (4, .int p_3), (5, .int p_4), (7, .int v7_64)]) hx hb d_Or_price_120 hl (by decide) rfl (fun ls hl => ?_)
              refine lv_iload hx hb d_Or_price_122 (lv_at hl 4 rfl) ?_
              refine lv_iconst (v := 2) hx hb d_Or_price_124 (by decide +kernel) ?_
              refine lv_icmp_ne (tgt := 142) hx hb d_Or_price_125 (by decide) (fun c_71 => ?_) (fun c_71 => ?_)
              · have hQ := hQ.2 c_71
                refine lv_iload hx hb d_Or_price_142 (lv_at hl 0 rfl) ?_
                refine lv_aload_n hx hb d_Or_price_144 rfl (lv_at hl 1 rfl) ?_
                refine tw_getR (D := (dC, dI)) (C := R_Or) (T := F_Or) (N := 9) (ci := 3) (kd := 15) (ct := ct) hx hb htb i_Or hown hK hP m0 rfl rfl 4 e_61 (by decide) (htb (.fieldLink R_Or 20 "WaterMen$Order" "single" "[I") tw_248) (fun _ h9 => h9) rfl d_Or_price_145 ?_
                refine hb_tv (.ref q_61) rfl ?_
                refine lv_iconst (v := 5) hx hb d_Or_price_148 (by decide +kernel) ?_
                refine tw_aldI (ct := ct) hx hb hK hP hO_0 m_61 rfl (by unfold vp_in; decide +kernel) d_Or_price_149 (fun x_72 e_72 b_72 => ?_)
                have hQ := hQ x_72 e_72
                refine va_mmax hx hb (hml.trans hl.1.symm) hown (htb (.methodLink R_Or 56 Lib.Math.max.name) tw_429) (htb (.static Lib.Math.max.name) tw_54) (htb (.initialized "java/lang/Math") tw_55) (htb (.code Lib.Math.max.name Lib.Math.max.code 2 (some .int)) tw_56) (Nat.le_of_ble_eq_true rfl) (Nat.le_of_ble_eq_true rfl) (Nat.le_of_ble_eq_true rfl) (Nat.le_of_ble_eq_true rfl) d_Or_price_150 ?_
                refine hb_eqi (fun y_73 hy_73 => ?_)
                have hQ := hQ y_73 hy_73
                exact W.iret (v := y_73) hx hb hr (fun t ht hW => ⟨y_73, rfl, ⟨trivial, hQ⟩, ht⟩) t_nil d_Or_price_153
              · have hQ := hQ.1 c_71
                refine lv_iload hx hb d_Or_price_128 (lv_at hl 0 rfl) ?_
                refine lv_aload_n hx hb d_Or_price_130 rfl (lv_at hl 1 rfl) ?_
                refine tw_getR (D := (dC, dI)) (C := R_Or) (T := F_Or) (N := 9) (ci := 3) (kd := 15) (ct := ct) hx hb htb i_Or hown hK hP m0 rfl rfl 4 e_61 (by decide) (htb (.fieldLink R_Or 20 "WaterMen$Order" "single" "[I") tw_248) (fun _ h9 => h9) rfl d_Or_price_131 ?_
                refine hb_tv (.ref q_61) rfl ?_
                refine lv_bipush (v := 8) hx hb d_Or_price_134 (by decide +kernel) ?_
                refine tw_aldI (ct := ct) hx hb hK hP hO_0 m_61 rfl (by unfold vp_in; decide +kernel) d_Or_price_136 (fun x_74 e_74 b_74 => ?_)
                have hQ := hQ x_74 e_74
                refine vp_callSi (va_Run.run (va_runS (As := [.int r_70, .int x_74]) (rest := []) ⟨hx, hb, hml, hown, htb⟩ (c_Or_scaled_w l dC dI ct L f hO_0 r_70 x_74 _ hQ) (cwS 2 htb (gd_S tw_427 tw_428 tw_250 tw_426) rfl rfl rfl (by decide +kernel) ⟨Nat.le_of_ble_eq_true rfl, Nat.le_of_ble_eq_true rfl⟩) ⟨pr_blind, pr_pre hP hK hN⟩ rfl rfl hl.1 rfl (lv_room (Nat.le_of_ble_eq_true rfl)) d_Or_price_137 ⟨Nat.le_of_ble_eq_true rfl, Nat.le_of_ble_eq_true rfl⟩)) (fun r_75 er_75 => ?_)
                obtain ⟨er_75, hQ⟩ := er_75
                clear er_75
                refine lv_istore (lv' := [(6, .int r_75), (0, .ref q0), (3, .int p_2), (4, .int p_3), (5, .int p_4), (7, .int v7_64)]) hx hb d_Or_price_140 hl (by decide) rfl (fun ls hl => ?_)
                refine lv_iload hx hb d_Or_price_142 (lv_at hl 0 rfl) ?_
                refine lv_aload_n hx hb d_Or_price_144 rfl (lv_at hl 1 rfl) ?_
                refine tw_getR (D := (dC, dI)) (C := R_Or) (T := F_Or) (N := 9) (ci := 3) (kd := 15) (ct := ct) hx hb htb i_Or hown hK hP m0 rfl rfl 4 e_61 (by decide) (htb (.fieldLink R_Or 20 "WaterMen$Order" "single" "[I") tw_248) (fun _ h9 => h9) rfl d_Or_price_145 ?_
                refine hb_tv (.ref q_61) rfl ?_
                refine lv_iconst (v := 5) hx hb d_Or_price_148 (by decide +kernel) ?_
                refine tw_aldI (ct := ct) hx hb hK hP hO_0 m_61 rfl (by unfold vp_in; decide +kernel) d_Or_price_149 (fun x_76 e_76 b_76 => ?_)
                have hQ := hQ x_76 e_76
                refine va_mmax hx hb (hml.trans hl.1.symm) hown (htb (.methodLink R_Or 56 Lib.Math.max.name) tw_429) (htb (.static Lib.Math.max.name) tw_54) (htb (.initialized "java/lang/Math") tw_55) (htb (.code Lib.Math.max.name Lib.Math.max.code 2 (some .int)) tw_56) (Nat.le_of_ble_eq_true rfl) (Nat.le_of_ble_eq_true rfl) (Nat.le_of_ble_eq_true rfl) (Nat.le_of_ble_eq_true rfl) d_Or_price_150 ?_
                refine hb_eqi (fun y_77 hy_77 => ?_)
                have hQ := hQ y_77 hy_77
                exact W.iret (v := y_77) hx hb hr (fun t ht hW => ⟨y_77, rfl, ⟨trivial, hQ⟩, ht⟩) t_nil d_Or_price_153
            · have hQ := hQ.2 c_68
              refine hb_ti 0 (by unfold f_WM_isSunday; rw [if_neg c_68]; first | done | rfl) ?_
              refine lv_if_eq (tgt := 122) hx hb d_Or_price_106 (by decide) (fun _ => ?_) (fun h => absurd (by decide +kernel) h)
              refine lv_iload hx hb d_Or_price_122 (lv_at hl 3 rfl) ?_
              refine lv_iconst (v := 2) hx hb d_Or_price_124 (by decide +kernel) ?_
              refine lv_icmp_ne (tgt := 142) hx hb d_Or_price_125 (by decide) (fun c_78 => ?_) (fun c_78 => ?_)
              · have hQ := hQ.2 c_78
                refine lv_iload hx hb d_Or_price_142 (lv_at hl 4 rfl) ?_
                refine lv_aload_n hx hb d_Or_price_144 rfl (lv_at hl 0 rfl) ?_
                refine tw_getR (D := (dC, dI)) (C := R_Or) (T := F_Or) (N := 9) (ci := 3) (kd := 15) (ct := ct) hx hb htb i_Or hown hK hP m0 rfl rfl 4 e_61 (by decide) (htb (.fieldLink R_Or 20 "WaterMen$Order" "single" "[I") tw_248) (fun _ h9 => h9) rfl d_Or_price_145 ?_
                refine hb_tv (.ref q_61) rfl ?_
                refine lv_iconst (v := 5) hx hb d_Or_price_148 (by decide +kernel) ?_
                refine tw_aldI (ct := ct) hx hb hK hP hO_0 m_61 rfl (by unfold vp_in; decide +kernel) d_Or_price_149 (fun x_79 e_79 b_79 => ?_)
                have hQ := hQ x_79 e_79
                refine va_mmax hx hb (hml.trans hl.1.symm) hown (htb (.methodLink R_Or 56 Lib.Math.max.name) tw_429) (htb (.static Lib.Math.max.name) tw_54) (htb (.initialized "java/lang/Math") tw_55) (htb (.code Lib.Math.max.name Lib.Math.max.code 2 (some .int)) tw_56) (Nat.le_of_ble_eq_true rfl) (Nat.le_of_ble_eq_true rfl) (Nat.le_of_ble_eq_true rfl) (Nat.le_of_ble_eq_true rfl) d_Or_price_150 ?_
                refine hb_eqi (fun y_80 hy_80 => ?_)
                have hQ := hQ y_80 hy_80
                exact W.iret (v := y_80) hx hb hr (fun t ht hW => ⟨y_80, rfl, ⟨trivial, hQ⟩, ht⟩) t_nil d_Or_price_153
              · have hQ := hQ.1 c_78
                refine lv_iload hx hb d_Or_price_128 (lv_at hl 4 rfl) ?_
                refine lv_aload_n hx hb d_Or_price_130 rfl (lv_at hl 0 rfl) ?_
                refine tw_getR (D := (dC, dI)) (C := R_Or) (T := F_Or) (N := 9) (ci := 3) (kd := 15) (ct := ct) hx hb htb i_Or hown hK hP m0 rfl rfl 4 e_61 (by decide) (htb (.fieldLink R_Or 20 "WaterMen$Order" "single" "[I") tw_248) (fun _ h9 => h9) rfl d_Or_price_131 ?_
                refine hb_tv (.ref q_61) rfl ?_
                refine lv_bipush (v := 8) hx hb d_Or_price_134 (by decide +kernel) ?_
                refine tw_aldI (ct := ct) hx hb hK hP hO_0 m_61 rfl (by unfold vp_in; decide +kernel) d_Or_price_136 (fun x_81 e_81 b_81 => ?_)
                have hQ := hQ x_81 e_81
                refine vp_callSi (va_Run.run (va_runS (As := [.int v6_64, .int x_81]) (rest := []) ⟨hx, hb, hml, hown, htb⟩ (c_Or_scaled_w l dC dI ct L f hO_0 v6_64 x_81 _ hQ) (cwS 2 htb (gd_S tw_427 tw_428 tw_250 tw_426) rfl rfl rfl (by decide +kernel) ⟨Nat.le_of_ble_eq_true rfl, Nat.le_of_ble_eq_true rfl⟩) ⟨pr_blind, pr_pre hP hK hN⟩ rfl rfl hl.1 rfl (lv_room (Nat.le_of_ble_eq_true rfl)) d_Or_price_137 ⟨Nat.le_of_ble_eq_true rfl, Nat.le_of_ble_eq_true rfl⟩)) (fun r_82 er_82 => ?_)
                obtain ⟨er_82, hQ⟩ := er_82
                clear er_82
                refine lv_istore (lv' := [(6, .int r_82), (0, .ref q0), (3, .int p_2), (4, .int p_3), (5, .int p_4), (7, .int v7_64)]) hx hb d_Or_price_140 hl (by decide) rfl (fun ls hl => ?_)
                refine lv_iload hx hb d_Or_price_142 (lv_at hl 0 rfl) ?_
                refine lv_aload_n hx hb d_Or_price_144 rfl (lv_at hl 1 rfl) ?_
                refine tw_getR (D := (dC, dI)) (C := R_Or) (T := F_Or) (N := 9) (ci := 3) (kd := 15) (ct := ct) hx hb htb i_Or hown hK hP m0 rfl rfl 4 e_61 (by decide) (htb (.fieldLink R_Or 20 "WaterMen$Order" "single" "[I") tw_248) (fun _ h9 => h9) rfl d_Or_price_145 ?_
                refine hb_tv (.ref q_61) rfl ?_
                refine lv_iconst (v := 5) hx hb d_Or_price_148 (by decide +kernel) ?_
                refine tw_aldI (ct := ct) hx hb hK hP hO_0 m_61 rfl (by unfold vp_in; decide +kernel) d_Or_price_149 (fun x_83 e_83 b_83 => ?_)
                have hQ := hQ x_83 e_83
                refine va_mmax hx hb (hml.trans hl.1.symm) hown (htb (.methodLink R_Or 56 Lib.Math.max.name) tw_429) (htb (.static Lib.Math.max.name) tw_54) (htb (.initialized "java/lang/Math") tw_55) (htb (.code Lib.Math.max.name Lib.Math.max.code 2 (some .int)) tw_56) (Nat.le_of_ble_eq_true rfl) (Nat.le_of_ble_eq_true rfl) (Nat.le_of_ble_eq_true rfl) (Nat.le_of_ble_eq_true rfl) d_Or_price_150 ?_
                refine hb_eqi (fun y_84 hy_84 => ?_)
                have hQ := hQ y_84 hy_84
                exact W.iret (v := y_84) hx hb hr (fun t ht hW => ⟨y_84, rfl, ⟨trivial, hQ⟩, ht⟩) t_nil d_Or_price_153
          · have hQ := hQ.2 c_66
            refine lv_aload_n hx hb d_Or_price_64 rfl (lv_at hl 0 rfl) ?_
            refine tw_getr (D := (dC, dI)) (C := R_Or) (T := F_Or) (N := 9) (ci := 3) (kd := 15) (ct := ct) hx hb htb i_Or hown hK hP hO_0 m0 rfl rfl 3 (by decide) (htb (.fieldLink R_Or 15 "WaterMen$Order" "hours" "[I") tw_312) (fun _ h9 => h9) rfl d_Or_price_65 (fun q_85 e_85 m_85 => ?_)
            have hQ := hQ q_85 e_85
            refine lv_iload hx hb d_Or_price_68 (lv_at hl 5 rfl) ?_
            refine lv_iload hx hb d_Or_price_70 (lv_at hl 2 rfl) ?_
            refine vp_callSi (va_Run.run (va_runS (As := [.ref q_85, .int v7_64, .int p_3]) (rest := []) ⟨hx, hb, hml, hown, htb⟩ (c_Or_lineHolds_k17_w l dC dI ct L f hO_0 q_85 m_85 v7_64 p_3 iv0_64 (show ¬ (11 < v7_64) from ((fun (a_0 : Int32) (a_1 : Int32) (k_0 : ¬ (a_1 ≤ a_0)) (k_1 : ¬ (12 < a_1)) => (show ¬ (11 < a_0) from by have z0 : (11 : Int32).toInt = 11 := (by decide +kernel); have z1 : (12 : Int32).toInt = 12 := (by decide +kernel); have r0 := fb_rng (a_0); have r1 := fb_rng (a_1); have e0 := k_0; rw [Int32.le_iff_toInt_le] at e0; have e1 := k_1; rw [Int32.lt_iff_toInt_lt, z1] at e1; rw [Int32.lt_iff_toInt_lt, z0]; omega)) v7_64 x_65 c_66 b_65.2)) _ hQ) (cwS 3 htb (gd_S tw_417 tw_418 tw_250 tw_416) rfl rfl rfl (by decide +kernel) ⟨Nat.le_of_ble_eq_true rfl, Nat.le_of_ble_eq_true rfl⟩) ⟨pr_blind, pr_pre hP hK hN⟩ rfl rfl hl.1 rfl (lv_room (Nat.le_of_ble_eq_true rfl)) d_Or_price_72 ⟨Nat.le_of_ble_eq_true rfl, Nat.le_of_ble_eq_true rfl⟩)) (fun r_86 er_86 => ?_)
            obtain ⟨er_86, hQ⟩ := er_86
            rcases er_86 with ⟨rfl, -⟩ | ⟨rfl, -⟩
            · have hQ := hQ.1 rfl
              refine lv_if_eq (tgt := 96) hx hb d_Or_price_75 (by decide) (fun _ => ?_) (fun h => absurd (by decide +kernel) h)
              refine lv_iinc (v := (v7_64 + 1)) (lv' := [(7, .int (v7_64 + 1)), (0, .ref q0), (3, .int p_2), (4, .int p_3), (5, .int p_4), (6, .int v6_64)]) hx hb d_Or_price_96 hl (k := 5) rfl rfl (by decide) rfl (fun ls hl => ?_)
              refine lv_goto (tgt := 55) hx hb d_Or_price_99 (by decide) ?_
              exact ih_64 (n_64 - 1) (ms_1 ((fun (a_0 : Int32) (a_1 : Int32) (k_0 : ¬ (a_1 ≤ a_0)) (k_1 : ¬ (12 < a_1)) => (show 1 ≤ (12 : Int32).toInt - (a_0).toInt ∧ (12 : Int32).toInt - ((a_0) + (1 : Int32)).toInt + 1 ≤ (12 : Int32).toInt - (a_0).toInt from by have z0 : (1 : Int32).toInt = 1 := (by decide +kernel); have z1 : (12 : Int32).toInt = 12 := (by decide +kernel); have r0 := fb_rng (a_0); have r1 := fb_rng (a_1); have e0 := k_0; rw [Int32.le_iff_toInt_le] at e0; have e1 := k_1; rw [Int32.lt_iff_toInt_lt, z1] at e1; obtain ⟨n_0, hn_0, s0⟩ := nd_add (x := (a_0)) (y := (1 : Int32)) (by (try rw [z0]); omega) (by (try rw [z0]); omega); rw [z0] at s0; rw [hn_0]; (try rw [z1]); omega)) v7_64 x_65 c_66 b_65.2) hm_64) v6_64 (v7_64 + 1) _ (show ¬ ((v7_64 + 1) < 0) from by have e0 := iv0_64; rw [Int32.lt_iff_toInt_lt] at e0; have e1 := iv1_64; rw [Int32.lt_iff_toInt_lt] at e1; have z0 : (0 : Int32).toInt = 0 := (by decide +kernel); have z1 : (1 : Int32).toInt = 1 := (by decide +kernel); have z2 : (12 : Int32).toInt = 12 := (by decide +kernel); have ss := fb_addI (x := v7_64) (y := 1) (by omega) (by omega); rw [Int32.lt_iff_toInt_lt]; omega) (show ¬ (12 < (v7_64 + 1)) from ((fun (a_0 : Int32) (a_1 : Int32) (k_0 : ¬ (a_1 ≤ a_0)) (k_1 : ¬ (12 < a_1)) => (show ¬ (12 < (a_0 + 1)) from by have z0 : (1 : Int32).toInt = 1 := (by decide +kernel); have z1 : (12 : Int32).toInt = 12 := (by decide +kernel); have r0 := fb_rng (a_0); have r1 := fb_rng (a_1); have e0 := k_0; rw [Int32.le_iff_toInt_le] at e0; have e1 := k_1; rw [Int32.lt_iff_toInt_lt, z1] at e1; obtain ⟨n_0, hn_0, s0⟩ := nd_add (x := (a_0)) (y := (1 : Int32)) (by (try rw [z0]); omega) (by (try rw [z0]); omega); rw [z0] at s0; rw [hn_0, Int32.lt_iff_toInt_lt, z1]; omega)) v7_64 x_65 c_66 b_65.2)) (by exact ms_2 ((fun (a_0 : Int32) (a_1 : Int32) (k_0 : ¬ (a_1 ≤ a_0)) (k_1 : ¬ (12 < a_1)) => (show 1 ≤ (12 : Int32).toInt - (a_0).toInt ∧ (12 : Int32).toInt - ((a_0) + (1 : Int32)).toInt + 1 ≤ (12 : Int32).toInt - (a_0).toInt from by have z0 : (1 : Int32).toInt = 1 := (by decide +kernel); have z1 : (12 : Int32).toInt = 12 := (by decide +kernel); have r0 := fb_rng (a_0); have r1 := fb_rng (a_1); have e0 := k_0; rw [Int32.le_iff_toInt_le] at e0; have e1 := k_1; rw [Int32.lt_iff_toInt_lt, z1] at e1; obtain ⟨n_0, hn_0, s0⟩ := nd_add (x := (a_0)) (y := (1 : Int32)) (by (try rw [z0]); omega) (by (try rw [z0]); omega); rw [z0] at s0; rw [hn_0]; (try rw [z1]); omega)) v7_64 x_65 c_66 b_65.2) hm_64) (by rw [← hrec_64, wpR_Or_price_w_55_64_pos (ms_3 ((fun (a_0 : Int32) (a_1 : Int32) (k_0 : ¬ (a_1 ≤ a_0)) (k_1 : ¬ (12 < a_1)) => (show 1 ≤ (12 : Int32).toInt - (a_0).toInt ∧ (12 : Int32).toInt - ((a_0) + (1 : Int32)).toInt + 1 ≤ (12 : Int32).toInt - (a_0).toInt from by have z0 : (1 : Int32).toInt = 1 := (by decide +kernel); have z1 : (12 : Int32).toInt = 12 := (by decide +kernel); have r0 := fb_rng (a_0); have r1 := fb_rng (a_1); have e0 := k_0; rw [Int32.le_iff_toInt_le] at e0; have e1 := k_1; rw [Int32.lt_iff_toInt_lt, z1] at e1; obtain ⟨n_0, hn_0, s0⟩ := nd_add (x := (a_0)) (y := (1 : Int32)) (by (try rw [z0]); omega) (by (try rw [z0]); omega); rw [z0] at s0; rw [hn_0]; (try rw [z1]); omega)) v7_64 x_65 c_66 b_65.2) hm_64)] at hQ; exact hQ) (lv_sub hl [1, 2, 3, 4, 5, 0] rfl)
            · have hQ := hQ.2 rfl
              refine lv_if_eq (tgt := 96) hx hb d_Or_price_75 (by decide) (fun h => absurd h (by decide +kernel)) (fun _ => ?_)
              refine lv_iload hx hb d_Or_price_78 (lv_at hl 4 rfl) ?_
              refine lv_aload_n hx hb d_Or_price_80 rfl (lv_at hl 0 rfl) ?_
              refine tw_getR (D := (dC, dI)) (C := R_Or) (T := F_Or) (N := 9) (ci := 3) (kd := 15) (ct := ct) hx hb htb i_Or hown hK hP m0 rfl rfl 3 e_85 (by decide) (htb (.fieldLink R_Or 15 "WaterMen$Order" "hours" "[I") tw_312) (fun _ h9 => h9) rfl d_Or_price_81 ?_
              refine hb_tv (.ref q_85) rfl ?_
              refine lv_iload hx hb d_Or_price_84 (lv_at hl 5 rfl) ?_
              refine lv_iconst (v := 3) hx hb d_Or_price_86 (by decide +kernel) ?_
              refine lv_imul hx hb d_Or_price_87 ?_
              refine lv_iconst (v := 2) hx hb d_Or_price_88 (by decide +kernel) ?_
              refine lv_iadd hx hb d_Or_price_89 ?_
              refine tw_aldI (ct := ct) hx hb hK hP hO_0 m_85 rfl ((fun (a_0 : Int32) (a_1 : Int32) (k_0 : ¬ (a_0 < 0)) (k_1 : ¬ (a_1 ≤ a_0)) (k_2 : ¬ (12 < a_1)) => (show vp_in (((a_0 * 3) + 2)) 36 from by have z0 : (0 : Int32).toInt = 0 := (by decide +kernel); have z1 : (2 : Int32).toInt = 2 := (by decide +kernel); have z2 : (3 : Int32).toInt = 3 := (by decide +kernel); have z3 : (12 : Int32).toInt = 12 := (by decide +kernel); have r0 := fb_rng (a_0); have r1 := fb_rng (a_1); have e0 := k_0; rw [Int32.lt_iff_toInt_lt, z0] at e0; have e1 := k_1; rw [Int32.le_iff_toInt_le] at e1; have e2 := k_2; rw [Int32.lt_iff_toInt_lt, z3] at e2; obtain ⟨n_0, hn_0, s0⟩ := nd_mul (x := (a_0)) (y := (3 : Int32)) (by (try rw [z2]); omega) (by (try rw [z2]); omega); rw [z2] at s0; obtain ⟨n_1, hn_1, s1⟩ := nd_add (x := n_0) (y := (2 : Int32)) (by (try rw [z1]); omega) (by (try rw [z1]); omega); rw [z1] at s1; rw [hn_0, hn_1, vp_in_iff]; omega)) v7_64 x_65 iv0_64 c_66 b_65.2) d_Or_price_90 (fun x_87 e_87 b_87 => ?_)
              have hQ := hQ x_87 e_87
              refine vp_callSi (va_Run.run (va_runS (As := [.int v6_64, .int x_87]) (rest := []) ⟨hx, hb, hml, hown, htb⟩ (c_Or_scaled_w l dC dI ct L f hO_0 v6_64 x_87 _ hQ) (cwS 2 htb (gd_S tw_427 tw_428 tw_250 tw_426) rfl rfl rfl (by decide +kernel) ⟨Nat.le_of_ble_eq_true rfl, Nat.le_of_ble_eq_true rfl⟩) ⟨pr_blind, pr_pre hP hK hN⟩ rfl rfl hl.1 rfl (lv_room (Nat.le_of_ble_eq_true rfl)) d_Or_price_91 ⟨Nat.le_of_ble_eq_true rfl, Nat.le_of_ble_eq_true rfl⟩)) (fun r_88 er_88 => ?_)
              obtain ⟨er_88, hQ⟩ := er_88
              clear er_88
              refine lv_istore (lv' := [(6, .int r_88), (0, .ref q0), (3, .int p_2), (4, .int p_3), (5, .int p_4), (7, .int v7_64)]) hx hb d_Or_price_94 hl (by decide) rfl (fun ls hl => ?_)
              refine lv_iinc (v := (v7_64 + 1)) (lv' := [(7, .int (v7_64 + 1)), (6, .int r_88), (0, .ref q0), (3, .int p_2), (4, .int p_3), (5, .int p_4)]) hx hb d_Or_price_96 hl (k := 5) rfl rfl (by decide) rfl (fun ls hl => ?_)
              refine lv_goto (tgt := 55) hx hb d_Or_price_99 (by decide) ?_
              exact ih_64 (n_64 - 1) (ms_1 ((fun (a_0 : Int32) (a_1 : Int32) (k_0 : ¬ (a_1 ≤ a_0)) (k_1 : ¬ (12 < a_1)) => (show 1 ≤ (12 : Int32).toInt - (a_0).toInt ∧ (12 : Int32).toInt - ((a_0) + (1 : Int32)).toInt + 1 ≤ (12 : Int32).toInt - (a_0).toInt from by have z0 : (1 : Int32).toInt = 1 := (by decide +kernel); have z1 : (12 : Int32).toInt = 12 := (by decide +kernel); have r0 := fb_rng (a_0); have r1 := fb_rng (a_1); have e0 := k_0; rw [Int32.le_iff_toInt_le] at e0; have e1 := k_1; rw [Int32.lt_iff_toInt_lt, z1] at e1; obtain ⟨n_0, hn_0, s0⟩ := nd_add (x := (a_0)) (y := (1 : Int32)) (by (try rw [z0]); omega) (by (try rw [z0]); omega); rw [z0] at s0; rw [hn_0]; (try rw [z1]); omega)) v7_64 x_65 c_66 b_65.2) hm_64) r_88 (v7_64 + 1) _ (show ¬ ((v7_64 + 1) < 0) from by have e0 := iv0_64; rw [Int32.lt_iff_toInt_lt] at e0; have e1 := iv1_64; rw [Int32.lt_iff_toInt_lt] at e1; have z0 : (0 : Int32).toInt = 0 := (by decide +kernel); have z1 : (1 : Int32).toInt = 1 := (by decide +kernel); have z2 : (12 : Int32).toInt = 12 := (by decide +kernel); have ss := fb_addI (x := v7_64) (y := 1) (by omega) (by omega); rw [Int32.lt_iff_toInt_lt]; omega) (show ¬ (12 < (v7_64 + 1)) from ((fun (a_0 : Int32) (a_1 : Int32) (k_0 : ¬ (a_1 ≤ a_0)) (k_1 : ¬ (12 < a_1)) => (show ¬ (12 < (a_0 + 1)) from by have z0 : (1 : Int32).toInt = 1 := (by decide +kernel); have z1 : (12 : Int32).toInt = 12 := (by decide +kernel); have r0 := fb_rng (a_0); have r1 := fb_rng (a_1); have e0 := k_0; rw [Int32.le_iff_toInt_le] at e0; have e1 := k_1; rw [Int32.lt_iff_toInt_lt, z1] at e1; obtain ⟨n_0, hn_0, s0⟩ := nd_add (x := (a_0)) (y := (1 : Int32)) (by (try rw [z0]); omega) (by (try rw [z0]); omega); rw [z0] at s0; rw [hn_0, Int32.lt_iff_toInt_lt, z1]; omega)) v7_64 x_65 c_66 b_65.2)) (by exact ms_2 ((fun (a_0 : Int32) (a_1 : Int32) (k_0 : ¬ (a_1 ≤ a_0)) (k_1 : ¬ (12 < a_1)) => (show 1 ≤ (12 : Int32).toInt - (a_0).toInt ∧ (12 : Int32).toInt - ((a_0) + (1 : Int32)).toInt + 1 ≤ (12 : Int32).toInt - (a_0).toInt from by have z0 : (1 : Int32).toInt = 1 := (by decide +kernel); have z1 : (12 : Int32).toInt = 12 := (by decide +kernel); have r0 := fb_rng (a_0); have r1 := fb_rng (a_1); have e0 := k_0; rw [Int32.le_iff_toInt_le] at e0; have e1 := k_1; rw [Int32.lt_iff_toInt_lt, z1] at e1; obtain ⟨n_0, hn_0, s0⟩ := nd_add (x := (a_0)) (y := (1 : Int32)) (by (try rw [z0]); omega) (by (try rw [z0]); omega); rw [z0] at s0; rw [hn_0]; (try rw [z1]); omega)) v7_64 x_65 c_66 b_65.2) hm_64) (by rw [← hrec_64, wpR_Or_price_w_55_64_pos (ms_3 ((fun (a_0 : Int32) (a_1 : Int32) (k_0 : ¬ (a_1 ≤ a_0)) (k_1 : ¬ (12 < a_1)) => (show 1 ≤ (12 : Int32).toInt - (a_0).toInt ∧ (12 : Int32).toInt - ((a_0) + (1 : Int32)).toInt + 1 ≤ (12 : Int32).toInt - (a_0).toInt from by have z0 : (1 : Int32).toInt = 1 := (by decide +kernel); have z1 : (12 : Int32).toInt = 12 := (by decide +kernel); have r0 := fb_rng (a_0); have r1 := fb_rng (a_1); have e0 := k_0; rw [Int32.le_iff_toInt_le] at e0; have e1 := k_1; rw [Int32.lt_iff_toInt_lt, z1] at e1; obtain ⟨n_0, hn_0, s0⟩ := nd_add (x := (a_0)) (y := (1 : Int32)) (by (try rw [z0]); omega) (by (try rw [z0]); omega); rw [z0] at s0; rw [hn_0]; (try rw [z1]); omega)) v7_64 x_65 c_66 b_65.2) hm_64)] at hQ; exact hQ) (lv_sub hl [2, 3, 4, 5, 1, 0] rfl)
      exact cut_64 ((12 : Int32).toInt - (0 : Int32).toInt).toNat r_63 (0 : Int32) _ (by decide +kernel) (by decide +kernel) (by exact ms_e _ _) hQ (lv_sub hl [2, 5, 6, 7, 1, 0] rfl)
  · have hQ := hQ.1 c_2
    refine lv_iconst (v := (-1)) hx hb d_Or_price_13 (by decide +kernel) ?_
    exact W.iret (v := (-1)) hx hb hr (fun t ht hW => ⟨(-1), rfl, ⟨trivial, hQ⟩, ht⟩) t_nil d_Or_price_14
