def wpB_Tp_isWord_w_20_5 (L : List Nat) (f : TF) (q0 : Nat) (si : Nat) (x_1 : Int32) (x_2 : Int32) (Q : Int32 → Prop) (rec_5 : Int32 → Prop) (v2_5 : Int32) : Prop := (((sLn si) ≤ v2_5 → Q 1) ∧ (¬ ((sLn si) ≤ v2_5) → ∀ q_8 : Nat, tr f q0 0 = some q_8 → ∀ x_9 : Int32, ti f q_8 ((x_2 + v2_5) : Int32).toNatClampNeg = x_9 → ∀ r_10 : Int32, r_10 = sCh si (v2_5 : Int32).toNatClampNeg → ((x_9 = r_10 → rec_5 (v2_5 + 1)) ∧ (¬ (x_9 = r_10) → Q 0))))
def wpL_Tp_isWord_w_20_5 (L : List Nat) (f : TF) (q0 : Nat) (si : Nat) (x_1 : Int32) (x_2 : Int32) (Q : Int32 → Prop) : Nat → Int32 → Prop
  | 0 => fun v2_5 => wpB_Tp_isWord_w_20_5 L f q0 si x_1 x_2 Q (fun _ => True) v2_5
  | n + 1 => fun v2_5 => wpB_Tp_isWord_w_20_5 L f q0 si x_1 x_2 Q (wpL_Tp_isWord_w_20_5 L f q0 si x_1 x_2 Q n) v2_5
def wpR_Tp_isWord_w_20_5 (L : List Nat) (f : TF) (q0 : Nat) (si : Nat) (x_1 : Int32) (x_2 : Int32) (Q : Int32 → Prop) : Nat → Int32 → Prop
  | 0 => fun _ => True
  | n + 1 => wpL_Tp_isWord_w_20_5 L f q0 si x_1 x_2 Q n
theorem wpL_Tp_isWord_w_20_5_eq {L : List Nat} {f : TF} {q0 : Nat} {si : Nat} {x_1 : Int32} {x_2 : Int32} {Q : Int32 → Prop} {n : Nat} : wpL_Tp_isWord_w_20_5 L f q0 si x_1 x_2 Q n = wpB_Tp_isWord_w_20_5 L f q0 si x_1 x_2 Q (wpR_Tp_isWord_w_20_5 L f q0 si x_1 x_2 Q n) := by cases n <;> rfl
theorem wpR_Tp_isWord_w_20_5_pos {L : List Nat} {f : TF} {q0 : Nat} {si : Nat} {x_1 : Int32} {x_2 : Int32} {Q : Int32 → Prop} {n : Nat} (h : 0 < n) : wpR_Tp_isWord_w_20_5 L f q0 si x_1 x_2 Q n = wpL_Tp_isWord_w_20_5 L f q0 si x_1 x_2 Q (n - 1) := by
  cases n with
  | zero => omega
  | succ n => rfl
def wp_Tp_isWord_w (L : List Nat) (f : TF) (q0 : Nat) (si : Nat) (Q : Int32 → Prop) : Prop := ∀ x_1 : Int32, ti f q0 4 = x_1 → ∀ x_2 : Int32, ti f q0 3 = x_2 → (((x_1 - x_2) = (sLn si) → wpL_Tp_isWord_w_20_5 L f q0 si x_1 x_2 Q (((7 : Int32).toInt - (0 : Int32).toInt).toNat) (0 : Int32)) ∧ (¬ ((x_1 - x_2) = (sLn si)) → Q 0))
set_option maxHeartbeats 4000000 in
set_option maxRecDepth 100000 in
theorem c_Tp_isWord_w (l : Launch) (dC : Nat → ClassId) (dI : Nat → Nat → Nat) (ct : Nat → ClassId) (L : List Nat) (f : TF) (hO_0 : Ok L f) (q0 : Nat) (m0 : q0 ∈ L ∧ tk f q0 = 10) (adK adV : Nat → Nat) (A : Nat → Prop) (si : Nat) (hsi : si < 11)    (Q : Int32 → Prop) (hQ : wp_Tp_isWord_w L f q0 si Q) : Met l y_Tp_isWord (.code y_Tp_isWord b_Tp_isWord 3 (some .boolean) :: TB) ({ frames := 4, cells := 0, slots := 0, locals := 85 }) (va_Pc [.ref q0, .ref (adK si)] (PRs dC dI (TW ct L f) (TT ct) adK adV A)) (vp_Si (fun r => ((r = 0 ∧ True) ∨ (r = 1 ∧ True)) ∧ Q r)) 0 0 (fun _ => False) := by
  refine Met.ofW (cc := b_Tp_isWord) (maxL := 3) (ret := (some .boolean)) (by decide) rfl ?_
  intro p e s m args below meth c s₁ B hml hv
  obtain ⟨rfl, ⟨hP, hK, hN⟩, hW0⟩ := hv
  have hx := B.exec
  have hb := B.bytes
  have hr := B.returns
  have hts := atoms_spec (ws := (.code y_Tp_isWord b_Tp_isWord 3 (some .boolean) :: TB)) B.pre
  have htb := fun w (h : w ∈ TB) => hts w (List.mem_cons_of_mem _ h)
  have hown : s.vm.findClass R_Tp = some m.cls := findClass_of_methodNamed B.named
  have hlocks := B.notSynchronized
  have hl := lv_entry ([.ref q0, .ref (adK si)]) (n := 3) (Nat.le_of_ble_eq_true rfl)
  rw [lg_entry_eq]
  generalize (lg_sl ([.ref q0, .ref (adK si)]) ++ List.replicate (3 - (lg_sl ([.ref q0, .ref (adK si)])).length) Slot.unset).toArray = ls at hl ⊢
  have hl : lv_has ls 3 [(0, .ref q0), (1, .ref (adK si))] := hl
  have hS : va_S A s.heap s.heap [] := va_S.rf
  unfold wp_Tp_isWord_w at hQ
  refine lv_aload_n hx hb d_Tp_isWord_0 rfl (lv_at hl 0 rfl) ?_
  refine tw_geti (D := (dC, dI)) (C := R_Tp) (T := F_Tp) (N := 6) (ci := 4) (kd := 10) (ct := ct) hx hb htb i_Tp hown hK hP hO_0 m0 rfl rfl 4 (by decide) (htb (.fieldLink R_Tp 24 "WaterMen$Tape" "behind" "I") tw_254) (fun _ h9 => h9) rfl d_Tp_isWord_1 (fun x_1 e_1 b_1 => ?_)
  have hQ := hQ x_1 e_1
  refine lv_aload_n hx hb d_Tp_isWord_4 rfl (lv_at hl 0 rfl) ?_
  refine tw_geti (D := (dC, dI)) (C := R_Tp) (T := F_Tp) (N := 6) (ci := 4) (kd := 10) (ct := ct) hx hb htb i_Tp hown hK hP hO_0 m0 rfl rfl 3 (by decide) (htb (.fieldLink R_Tp 34 "WaterMen$Tape" "start" "I") tw_255) (fun _ h9 => h9) rfl d_Tp_isWord_5 (fun x_2 e_2 b_2 => ?_)
  have hQ := hQ x_2 e_2
  refine lv_isub hx hb d_Tp_isWord_8 ?_
  refine lv_aload_n hx hb d_Tp_isWord_9 rfl (lv_at hl 1 rfl) ?_
  refine vp_callSi (va_Run.run (va_runV (As := []) (rest := [.int (x_1 - x_2)]) ⟨hx, hb, hml, hown, htb⟩ (c_St_length l adK adV A si hsi) (cwV 0 htb (gd_V tw_276 tw_277 tw_278 tw_6 tw_279) rfl rfl rfl (by decide +kernel) ⟨Nat.le_of_ble_eq_true rfl, Nat.le_of_ble_eq_true rfl⟩) ⟨sw_blind, vk_recv hW0.1 hsi hS, sw_pre hS hW0⟩ rfl rfl hl.1 rfl (lv_room (Nat.le_of_ble_eq_true rfl)) d_Tp_isWord_10 ⟨Nat.le_of_ble_eq_true rfl, Nat.le_of_ble_eq_true rfl⟩)) (fun r_3 er_3 => ?_)
  subst er_3
  refine lv_icmp_eq (tgt := 18) hx hb d_Tp_isWord_13 (by decide) (fun c_4 => ?_) (fun c_4 => ?_)
  · have hQ := hQ.1 c_4
    refine lv_iconst (v := 0) hx hb d_Tp_isWord_18 (by decide +kernel) ?_
    refine lv_istore_n (lv' := [(2, .int 0), (0, .ref q0), (1, .ref (adK si))]) hx hb d_Tp_isWord_19 rfl hl (by decide) rfl (fun ls hl => ?_)
    have cut_5 : ∀ (n_5 : Nat) (v2_5 : Int32) (ls : Array Slot), ¬ (v2_5 < 0) → ¬ (7 < v2_5) → (7 : Int32).toInt - (v2_5 : Int32).toInt ≤ (n_5 : Int) → wpL_Tp_isWord_w_20_5 L f q0 si x_1 x_2 Q n_5 v2_5 → lv_has ls 3 [(0, .ref q0), (1, .ref (adK si)), (2, .int v2_5)] → W p l e (headSpec (.code y_Tp_isWord b_Tp_isWord 3 (some .boolean) :: TB) ({ frames := 4, cells := 0, slots := 0, locals := 85 })).room s m [.ref q0, .ref (adK si)].toArray below meth c s.heap [] 0 0 (MQ below (vp_Si (fun r => ((r = 0 ∧ True) ∨ (r = 1 ∧ True)) ∧ Q r)) [.ref q0, .ref (adK si)].toArray s 0 0 (fun _ => False)) (F0 m 20 ls []) := by
      intro n_5
      induction n_5 using Nat.strongRecOn with
      | _ n_5 ih_5 =>
        intro v2_5 ls iv0_5 iv1_5 hm_5 hQ hl
        rw [wpL_Tp_isWord_w_20_5_eq] at hQ
        obtain ⟨rec_5, hrec_5⟩ : ∃ g, wpR_Tp_isWord_w_20_5 L f q0 si x_1 x_2 Q n_5 = g := ⟨_, rfl⟩
        rw [hrec_5] at hQ
        unfold wpB_Tp_isWord_w_20_5 at hQ
        refine lv_iload_n hx hb d_Tp_isWord_20 rfl (lv_at hl 2 rfl) ?_
        refine lv_aload_n hx hb d_Tp_isWord_21 rfl (lv_at hl 1 rfl) ?_
        refine vp_callSi (va_Run.run (va_runV (As := []) (rest := [.int v2_5]) ⟨hx, hb, hml, hown, htb⟩ (c_St_length l adK adV A si hsi) (cwV 0 htb (gd_V tw_276 tw_277 tw_278 tw_6 tw_279) rfl rfl rfl (by decide +kernel) ⟨Nat.le_of_ble_eq_true rfl, Nat.le_of_ble_eq_true rfl⟩) ⟨sw_blind, vk_recv hW0.1 hsi hS, sw_pre hS hW0⟩ rfl rfl hl.1 rfl (lv_room (Nat.le_of_ble_eq_true rfl)) d_Tp_isWord_22 ⟨Nat.le_of_ble_eq_true rfl, Nat.le_of_ble_eq_true rfl⟩)) (fun r_6 er_6 => ?_)
        subst er_6
        refine lv_icmp_ge (tgt := 55) hx hb d_Tp_isWord_25 (by decide) (fun c_7 => ?_) (fun c_7 => ?_)
        · have hQ := hQ.1 c_7
          refine lv_iconst (v := 1) hx hb d_Tp_isWord_55 (by decide +kernel) ?_
          exact W.zret (v := 1) hx hb hr (by decide +kernel) (fun t ht hW => ⟨1, rfl, ⟨(Or.inr ⟨rfl, trivial⟩), hQ⟩, ht⟩) t_nil d_Tp_isWord_56
        · have hQ := hQ.2 c_7
          refine lv_aload_n hx hb d_Tp_isWord_28 rfl (lv_at hl 0 rfl) ?_
          refine tw_getr (D := (dC, dI)) (C := R_Tp) (T := F_Tp) (N := 6) (ci := 4) (kd := 10) (ct := ct) hx hb htb i_Tp hown hK hP hO_0 m0 rfl rfl 0 (by decide) (htb (.fieldLink R_Tp 9 "WaterMen$Tape" "bytes" "[B") tw_181) (fun _ h9 => h9) rfl d_Tp_isWord_29 (fun q_8 e_8 m_8 => ?_)
          have hQ := hQ q_8 e_8
          refine lv_aload_n hx hb d_Tp_isWord_32 rfl (lv_at hl 0 rfl) ?_
          refine tw_getI (x := x_2) (D := (dC, dI)) (C := R_Tp) (T := F_Tp) (N := 6) (ci := 4) (kd := 10) (ct := ct) hx hb htb i_Tp hown hK hP m0 rfl rfl 3 e_2 (by decide) (htb (.fieldLink R_Tp 34 "WaterMen$Tape" "start" "I") tw_255) (fun _ h9 => h9) rfl d_Tp_isWord_33 ?_
          refine lv_iload_n hx hb d_Tp_isWord_36 rfl (lv_at hl 2 rfl) ?_
          refine lv_iadd hx hb d_Tp_isWord_37 ?_
          refine tw_aldB (ct := ct) hx hb hK hP hO_0 m_8 rfl ((fun (a_0 : Int32) (a_1 : Int32) (a_2 : Int32) (a_3 : Int32) (k_0 : ¬ (a_3 < 0)) (k_1 : ¬ (a_1 < 0)) (k_2 : ¬ (a_0 ≤ a_1)) (k_3 : ¬ (a_2 < 0)) (k_4 : ¬ (400 < a_2)) (k_5 : (a_2 - a_3) = a_0) => (show vp_in ((a_3 + a_1)) 400 from by have z0 : (0 : Int32).toInt = 0 := (by decide +kernel); have z1 : (400 : Int32).toInt = 400 := (by decide +kernel); have r0 := fb_rng (a_0); have r1 := fb_rng (a_1); have r2 := fb_rng (a_2); have r3 := fb_rng (a_3); have e0 := k_0; rw [Int32.lt_iff_toInt_lt, z0] at e0; have e1 := k_1; rw [Int32.lt_iff_toInt_lt, z0] at e1; have e2 := k_2; rw [Int32.le_iff_toInt_le] at e2; have e3 := k_3; rw [Int32.lt_iff_toInt_lt, z0] at e3; have e4 := k_4; rw [Int32.lt_iff_toInt_lt, z1] at e4; obtain ⟨n_0, hn_0, s0⟩ := nd_sub (x := (a_2)) (y := (a_3)) (by omega) (by omega); have e5 := k_5; rw [hn_0, ← Int32.toInt_inj] at e5; obtain ⟨n_1, hn_1, s1⟩ := nd_add (x := (a_3)) (y := (a_1)) (by omega) (by omega); rw [hn_1, vp_in_iff]; omega)) (sLn si) v2_5 x_1 x_2 b_2.1 iv0_5 c_7 b_1.1 b_1.2 c_4) d_Tp_isWord_38 (fun x_9 e_9 b_9 => ?_)
          have hQ := hQ x_9 e_9
          refine lv_aload_n hx hb d_Tp_isWord_39 rfl (lv_at hl 1 rfl) ?_
          refine lv_iload_n hx hb d_Tp_isWord_40 rfl (lv_at hl 2 rfl) ?_
          refine vp_callSi (va_Run.run (va_runV (As := [.int v2_5]) (rest := [.int x_9]) ⟨hx, hb, hml, hown, htb⟩ (c_St_charAt l adK adV A si hsi v2_5 iv0_5 c_7) (cwV 1 htb (gd_V tw_280 tw_281 tw_282 tw_6 tw_283) rfl rfl rfl (by decide +kernel) ⟨Nat.le_of_ble_eq_true rfl, Nat.le_of_ble_eq_true rfl⟩) ⟨sw_blind, vk_recv hW0.1 hsi hS, sw_pre hS hW0⟩ rfl rfl hl.1 rfl (lv_room (Nat.le_of_ble_eq_true rfl)) d_Tp_isWord_41 ⟨Nat.le_of_ble_eq_true rfl, Nat.le_of_ble_eq_true rfl⟩)) (fun r_10 er_10 => ?_)
          have hQ := hQ r_10 er_10
          clear er_10
          refine lv_icmp_eq (tgt := 49) hx hb d_Tp_isWord_44 (by decide) (fun c_11 => ?_) (fun c_11 => ?_)
          · have hQ := hQ.1 c_11
            refine lv_iinc (v := (v2_5 + 1)) (lv' := [(2, .int (v2_5 + 1)), (0, .ref q0), (1, .ref (adK si))]) hx hb d_Tp_isWord_49 hl (k := 2) rfl rfl (by decide) rfl (fun ls hl => ?_)
            refine lv_goto (tgt := 20) hx hb d_Tp_isWord_52 (by decide) ?_
            exact ih_5 (n_5 - 1) (ms_1 ((fun (a_0 : Int32) (a_1 : Int32) (k_0 : ¬ (a_0 ≤ a_1)) (k_1 : ¬ (7 < a_0)) => (show 1 ≤ (7 : Int32).toInt - (a_1).toInt ∧ (7 : Int32).toInt - ((a_1) + (1 : Int32)).toInt + 1 ≤ (7 : Int32).toInt - (a_1).toInt from by have z0 : (1 : Int32).toInt = 1 := (by decide +kernel); have z1 : (7 : Int32).toInt = 7 := (by decide +kernel); have r0 := fb_rng (a_0); have r1 := fb_rng (a_1); have e0 := k_0; rw [Int32.le_iff_toInt_le] at e0; have e1 := k_1; rw [Int32.lt_iff_toInt_lt, z1] at e1; obtain ⟨n_0, hn_0, s0⟩ := nd_add (x := (a_1)) (y := (1 : Int32)) (by (try rw [z0]); omega) (by (try rw [z0]); omega); rw [z0] at s0; rw [hn_0]; (try rw [z1]); omega)) (sLn si) v2_5 c_7 (sLn_b si hsi).2) hm_5) (v2_5 + 1) _ (show ¬ ((v2_5 + 1) < 0) from by have e0 := iv0_5; rw [Int32.lt_iff_toInt_lt] at e0; have e1 := iv1_5; rw [Int32.lt_iff_toInt_lt] at e1; have z0 : (0 : Int32).toInt = 0 := (by decide +kernel); have z1 : (1 : Int32).toInt = 1 := (by decide +kernel); have z2 : (7 : Int32).toInt = 7 := (by decide +kernel); have ss := fb_addI (x := v2_5) (y := 1) (by omega) (by omega); rw [Int32.lt_iff_toInt_lt]; omega) (show ¬ (7 < (v2_5 + 1)) from ((fun (a_0 : Int32) (a_1 : Int32) (k_0 : ¬ (a_0 ≤ a_1)) (k_1 : ¬ (7 < a_0)) => (show ¬ (7 < (a_1 + 1)) from by have z0 : (1 : Int32).toInt = 1 := (by decide +kernel); have z1 : (7 : Int32).toInt = 7 := (by decide +kernel); have r0 := fb_rng (a_0); have r1 := fb_rng (a_1); have e0 := k_0; rw [Int32.le_iff_toInt_le] at e0; have e1 := k_1; rw [Int32.lt_iff_toInt_lt, z1] at e1; obtain ⟨n_0, hn_0, s0⟩ := nd_add (x := (a_1)) (y := (1 : Int32)) (by (try rw [z0]); omega) (by (try rw [z0]); omega); rw [z0] at s0; rw [hn_0, Int32.lt_iff_toInt_lt, z1]; omega)) (sLn si) v2_5 c_7 (sLn_b si hsi).2)) (by exact ms_2 ((fun (a_0 : Int32) (a_1 : Int32) (k_0 : ¬ (a_0 ≤ a_1)) (k_1 : ¬ (7 < a_0)) => (show 1 ≤ (7 : Int32).toInt - (a_1).toInt ∧ (7 : Int32).toInt - ((a_1) + (1 : Int32)).toInt + 1 ≤ (7 : Int32).toInt - (a_1).toInt from by have z0 : (1 : Int32).toInt = 1 := (by decide +kernel); have z1 : (7 : Int32).toInt = 7 := (by decide +kernel); have r0 := fb_rng (a_0); have r1 := fb_rng (a_1); have e0 := k_0; rw [Int32.le_iff_toInt_le] at e0; have e1 := k_1; rw [Int32.lt_iff_toInt_lt, z1] at e1; obtain ⟨n_0, hn_0, s0⟩ := nd_add (x := (a_1)) (y := (1 : Int32)) (by (try rw [z0]); omega) (by (try rw [z0]); omega); rw [z0] at s0; rw [hn_0]; (try rw [z1]); omega)) (sLn si) v2_5 c_7 (sLn_b si hsi).2) hm_5) (by rw [← hrec_5, wpR_Tp_isWord_w_20_5_pos (ms_3 ((fun (a_0 : Int32) (a_1 : Int32) (k_0 : ¬ (a_0 ≤ a_1)) (k_1 : ¬ (7 < a_0)) => (show 1 ≤ (7 : Int32).toInt - (a_1).toInt ∧ (7 : Int32).toInt - ((a_1) + (1 : Int32)).toInt + 1 ≤ (7 : Int32).toInt - (a_1).toInt from by have z0 : (1 : Int32).toInt = 1 := (by decide +kernel); have z1 : (7 : Int32).toInt = 7 := (by decide +kernel); have r0 := fb_rng (a_0); have r1 := fb_rng (a_1); have e0 := k_0; rw [Int32.le_iff_toInt_le] at e0; have e1 := k_1; rw [Int32.lt_iff_toInt_lt, z1] at e1; obtain ⟨n_0, hn_0, s0⟩ := nd_add (x := (a_1)) (y := (1 : Int32)) (by (try rw [z0]); omega) (by (try rw [z0]); omega); rw [z0] at s0; rw [hn_0]; (try rw [z1]); omega)) (sLn si) v2_5 c_7 (sLn_b si hsi).2) hm_5)] at hQ; exact hQ) (lv_sub hl [1, 2, 0] rfl)
          · have hQ := hQ.2 c_11
            refine lv_iconst (v := 0) hx hb d_Tp_isWord_47 (by decide +kernel) ?_
            exact W.zret (v := 0) hx hb hr (by decide +kernel) (fun t ht hW => ⟨0, rfl, ⟨(Or.inl ⟨rfl, trivial⟩), hQ⟩, ht⟩) t_nil d_Tp_isWord_48
    exact cut_5 ((7 : Int32).toInt - (0 : Int32).toInt).toNat (0 : Int32) _ (by decide +kernel) (by decide +kernel) (by exact ms_e _ _) hQ (lv_sub hl [1, 2, 0] rfl)
  · have hQ := hQ.2 c_4
    refine lv_iconst (v := 0) hx hb d_Tp_isWord_16 (by decide +kernel) ?_
    exact W.zret (v := 0) hx hb hr (by decide +kernel) (fun t ht hW => ⟨0, rfl, ⟨(Or.inl ⟨rfl, trivial⟩), hQ⟩, ht⟩) t_nil d_Tp_isWord_17
def wp_Tp_kindOfLine_w (L : List Nat) (f : TF) (q0 : Nat) (Q : Int32 → Prop) : Prop := wp_Tp_isWord_w L f q0 0 (fun (r_1 : Int32) => ((r_1 = 0 → wp_Tp_isWord_w L f q0 1 (fun (r_2 : Int32) => ((r_2 = 0 → wp_Tp_isWord_w L f q0 2 (fun (r_3 : Int32) => ((r_3 = 0 → wp_Tp_isWord_w L f q0 3 (fun (r_4 : Int32) => ((r_4 = 0 → wp_Tp_isWord_w L f q0 4 (fun (r_5 : Int32) => ((r_5 = 0 → wp_Tp_isWord_w L f q0 5 (fun (r_6 : Int32) => ((r_6 = 0 → wp_Tp_isWord_w L f q0 6 (fun (r_7 : Int32) => ((r_7 = 0 → wp_Tp_isWord_w L f q0 7 (fun (r_8 : Int32) => ((r_8 = 0 → wp_Tp_isWord_w L f q0 8 (fun (r_9 : Int32) => ((r_9 = 0 → Q (-1)) ∧ (r_9 = 1 → Q 8)))) ∧ (r_8 = 1 → Q 7)))) ∧ (r_7 = 1 → Q 6)))) ∧ (r_6 = 1 → Q 5)))) ∧ (r_5 = 1 → Q 4)))) ∧ (r_4 = 1 → Q 3)))) ∧ (r_3 = 1 → Q 2)))) ∧ (r_2 = 1 → Q 1)))) ∧ (r_1 = 1 → Q 0)))
set_option maxHeartbeats 4000000 in
set_option maxRecDepth 100000 in
theorem c_Tp_kindOfLine_w (l : Launch) (dC : Nat → ClassId) (dI : Nat → Nat → Nat) (ct : Nat → ClassId) (L : List Nat) (f : TF) (hO_0 : Ok L f) (q0 : Nat) (m0 : q0 ∈ L ∧ tk f q0 = 10) (adK adV : Nat → Nat) (A : Nat → Prop)    (Q : Int32 → Prop) (hQ : wp_Tp_kindOfLine_w L f q0 Q) : Met l y_Tp_kindOfLine (.code y_Tp_kindOfLine b_Tp_kindOfLine 1 (some .int) :: TB) ({ frames := 5, cells := 0, slots := 0, locals := 107 }) (va_Pc [.ref q0] (PRs dC dI (TW ct L f) (TT ct) adK adV A)) (vp_Si (fun r => ((r = (-1) ∧ True) ∨ (r = 0 ∧ True) ∨ (r = 1 ∧ True) ∨ (r = 2 ∧ True) ∨ (r = 3 ∧ True) ∨ (r = 4 ∧ True) ∨ (r = 5 ∧ True) ∨ (r = 6 ∧ True) ∨ (r = 7 ∧ True) ∨ (r = 8 ∧ True)) ∧ Q r)) 0 0 (fun _ => False) := by
  refine Met.ofW (cc := b_Tp_kindOfLine) (maxL := 1) (ret := (some .int)) (by decide) rfl ?_
  intro p e s m args below meth c s₁ B hml hv
  obtain ⟨rfl, ⟨hP, hK, hN⟩, hW0⟩ := hv
  have hx := B.exec
  have hb := B.bytes
  have hr := B.returns
  have hts := atoms_spec (ws := (.code y_Tp_kindOfLine b_Tp_kindOfLine 1 (some .int) :: TB)) B.pre
  have htb := fun w (h : w ∈ TB) => hts w (List.mem_cons_of_mem _ h)
  have hown : s.vm.findClass R_Tp = some m.cls := findClass_of_methodNamed B.named
  have hlocks := B.notSynchronized
  have hl := lv_entry ([.ref q0]) (n := 1) (Nat.le_of_ble_eq_true rfl)
  rw [lg_entry_eq]
  generalize (lg_sl ([.ref q0]) ++ List.replicate (1 - (lg_sl ([.ref q0])).length) Slot.unset).toArray = ls at hl ⊢
  have hl : lv_has ls 1 [(0, .ref q0)] := hl
  have hS : va_S A s.heap s.heap [] := va_S.rf
  unfold wp_Tp_kindOfLine_w at hQ
  refine lv_aload_n hx hb d_Tp_kindOfLine_0 rfl (lv_at hl 0 rfl) ?_
  refine va_ldcS hx hb hown (show vk_R R_Tp 70 "fare" (adK 0) s from hW0.2.1 0 (by decide)) d_Tp_kindOfLine_1 ?_
  refine vp_callSi (va_Run.run (va_runV (As := [.ref (adK 0)]) (rest := []) ⟨hx, hb, hml, hown, htb⟩ (c_Tp_isWord_w l dC dI ct L f hO_0 q0 m0 adK adV A 0 (by decide) _ hQ) (cwV 1 htb (gd_V tw_285 tw_286 tw_287 tw_177 tw_284) rfl rfl rfl (by decide +kernel) ⟨Nat.le_of_ble_eq_true rfl, Nat.le_of_ble_eq_true rfl⟩) ⟨prs_blind, tw_recv hK hP m0 rfl rfl, prs_pre hP hK hN hS hW0⟩ rfl rfl hl.1 rfl (lv_room (Nat.le_of_ble_eq_true rfl)) d_Tp_kindOfLine_3 ⟨Nat.le_of_ble_eq_true rfl, Nat.le_of_ble_eq_true rfl⟩)) (fun r_1 er_1 => ?_)
  obtain ⟨er_1, hQ⟩ := er_1
  rcases er_1 with ⟨rfl, -⟩ | ⟨rfl, -⟩
  · have hQ := hQ.1 rfl
    refine lv_if_eq (tgt := 11) hx hb d_Tp_kindOfLine_6 (by decide) (fun _ => ?_) (fun h => absurd (by decide +kernel) h)
    refine lv_aload_n hx hb d_Tp_kindOfLine_11 rfl (lv_at hl 0 rfl) ?_
    refine va_ldcS hx hb hown (show vk_R R_Tp 72 "hour" (adK 1) s from hW0.2.1 1 (by decide)) d_Tp_kindOfLine_12 ?_
    refine vp_callSi (va_Run.run (va_runV (As := [.ref (adK 1)]) (rest := []) ⟨hx, hb, hml, hown, htb⟩ (c_Tp_isWord_w l dC dI ct L f hO_0 q0 m0 adK adV A 1 (by decide) _ hQ) (cwV 1 htb (gd_V tw_285 tw_286 tw_287 tw_177 tw_284) rfl rfl rfl (by decide +kernel) ⟨Nat.le_of_ble_eq_true rfl, Nat.le_of_ble_eq_true rfl⟩) ⟨prs_blind, tw_recv hK hP m0 rfl rfl, prs_pre hP hK hN hS hW0⟩ rfl rfl hl.1 rfl (lv_room (Nat.le_of_ble_eq_true rfl)) d_Tp_kindOfLine_14 ⟨Nat.le_of_ble_eq_true rfl, Nat.le_of_ble_eq_true rfl⟩)) (fun r_2 er_2 => ?_)
    obtain ⟨er_2, hQ⟩ := er_2
    rcases er_2 with ⟨rfl, -⟩ | ⟨rfl, -⟩
    · have hQ := hQ.1 rfl
      refine lv_if_eq (tgt := 22) hx hb d_Tp_kindOfLine_17 (by decide) (fun _ => ?_) (fun h => absurd (by decide +kernel) h)
      refine lv_aload_n hx hb d_Tp_kindOfLine_22 rfl (lv_at hl 0 rfl) ?_
      refine va_ldcS hx hb hown (show vk_R R_Tp 74 "with" (adK 2) s from hW0.2.1 2 (by decide)) d_Tp_kindOfLine_23 ?_
      refine vp_callSi (va_Run.run (va_runV (As := [.ref (adK 2)]) (rest := []) ⟨hx, hb, hml, hown, htb⟩ (c_Tp_isWord_w l dC dI ct L f hO_0 q0 m0 adK adV A 2 (by decide) _ hQ) (cwV 1 htb (gd_V tw_285 tw_286 tw_287 tw_177 tw_284) rfl rfl rfl (by decide +kernel) ⟨Nat.le_of_ble_eq_true rfl, Nat.le_of_ble_eq_true rfl⟩) ⟨prs_blind, tw_recv hK hP m0 rfl rfl, prs_pre hP hK hN hS hW0⟩ rfl rfl hl.1 rfl (lv_room (Nat.le_of_ble_eq_true rfl)) d_Tp_kindOfLine_25 ⟨Nat.le_of_ble_eq_true rfl, Nat.le_of_ble_eq_true rfl⟩)) (fun r_3 er_3 => ?_)
      obtain ⟨er_3, hQ⟩ := er_3
      rcases er_3 with ⟨rfl, -⟩ | ⟨rfl, -⟩
      · have hQ := hQ.1 rfl
        refine lv_if_eq (tgt := 33) hx hb d_Tp_kindOfLine_28 (by decide) (fun _ => ?_) (fun h => absurd (by decide +kernel) h)
        refine lv_aload_n hx hb d_Tp_kindOfLine_33 rfl (lv_at hl 0 rfl) ?_
        refine va_ldcS hx hb hown (show vk_R R_Tp 76 "against" (adK 3) s from hW0.2.1 3 (by decide)) d_Tp_kindOfLine_34 ?_
        refine vp_callSi (va_Run.run (va_runV (As := [.ref (adK 3)]) (rest := []) ⟨hx, hb, hml, hown, htb⟩ (c_Tp_isWord_w l dC dI ct L f hO_0 q0 m0 adK adV A 3 (by decide) _ hQ) (cwV 1 htb (gd_V tw_285 tw_286 tw_287 tw_177 tw_284) rfl rfl rfl (by decide +kernel) ⟨Nat.le_of_ble_eq_true rfl, Nat.le_of_ble_eq_true rfl⟩) ⟨prs_blind, tw_recv hK hP m0 rfl rfl, prs_pre hP hK hN hS hW0⟩ rfl rfl hl.1 rfl (lv_room (Nat.le_of_ble_eq_true rfl)) d_Tp_kindOfLine_36 ⟨Nat.le_of_ble_eq_true rfl, Nat.le_of_ble_eq_true rfl⟩)) (fun r_4 er_4 => ?_)
        obtain ⟨er_4, hQ⟩ := er_4
        rcases er_4 with ⟨rfl, -⟩ | ⟨rfl, -⟩
        · have hQ := hQ.1 rfl
          refine lv_if_eq (tgt := 44) hx hb d_Tp_kindOfLine_39 (by decide) (fun _ => ?_) (fun h => absurd (by decide +kernel) h)
          refine lv_aload_n hx hb d_Tp_kindOfLine_44 rfl (lv_at hl 0 rfl) ?_
          refine va_ldcS hx hb hown (show vk_R R_Tp 78 "sunday" (adK 4) s from hW0.2.1 4 (by decide)) d_Tp_kindOfLine_45 ?_
          refine vp_callSi (va_Run.run (va_runV (As := [.ref (adK 4)]) (rest := []) ⟨hx, hb, hml, hown, htb⟩ (c_Tp_isWord_w l dC dI ct L f hO_0 q0 m0 adK adV A 4 (by decide) _ hQ) (cwV 1 htb (gd_V tw_285 tw_286 tw_287 tw_177 tw_284) rfl rfl rfl (by decide +kernel) ⟨Nat.le_of_ble_eq_true rfl, Nat.le_of_ble_eq_true rfl⟩) ⟨prs_blind, tw_recv hK hP m0 rfl rfl, prs_pre hP hK hN hS hW0⟩ rfl rfl hl.1 rfl (lv_room (Nat.le_of_ble_eq_true rfl)) d_Tp_kindOfLine_47 ⟨Nat.le_of_ble_eq_true rfl, Nat.le_of_ble_eq_true rfl⟩)) (fun r_5 er_5 => ?_)
          obtain ⟨er_5, hQ⟩ := er_5
          rcases er_5 with ⟨rfl, -⟩ | ⟨rfl, -⟩
          · have hQ := hQ.1 rfl
            refine lv_if_eq (tgt := 55) hx hb d_Tp_kindOfLine_50 (by decide) (fun _ => ?_) (fun h => absurd (by decide +kernel) h)
            refine lv_aload_n hx hb d_Tp_kindOfLine_55 rfl (lv_at hl 0 rfl) ?_
            refine va_ldcS hx hb hown (show vk_R R_Tp 80 "least" (adK 5) s from hW0.2.1 5 (by decide)) d_Tp_kindOfLine_56 ?_
            refine vp_callSi (va_Run.run (va_runV (As := [.ref (adK 5)]) (rest := []) ⟨hx, hb, hml, hown, htb⟩ (c_Tp_isWord_w l dC dI ct L f hO_0 q0 m0 adK adV A 5 (by decide) _ hQ) (cwV 1 htb (gd_V tw_285 tw_286 tw_287 tw_177 tw_284) rfl rfl rfl (by decide +kernel) ⟨Nat.le_of_ble_eq_true rfl, Nat.le_of_ble_eq_true rfl⟩) ⟨prs_blind, tw_recv hK hP m0 rfl rfl, prs_pre hP hK hN hS hW0⟩ rfl rfl hl.1 rfl (lv_room (Nat.le_of_ble_eq_true rfl)) d_Tp_kindOfLine_58 ⟨Nat.le_of_ble_eq_true rfl, Nat.le_of_ble_eq_true rfl⟩)) (fun r_6 er_6 => ?_)
            obtain ⟨er_6, hQ⟩ := er_6
            rcases er_6 with ⟨rfl, -⟩ | ⟨rfl, -⟩
            · have hQ := hQ.1 rfl
              refine lv_if_eq (tgt := 66) hx hb d_Tp_kindOfLine_61 (by decide) (fun _ => ?_) (fun h => absurd (by decide +kernel) h)
              refine lv_aload_n hx hb d_Tp_kindOfLine_66 rfl (lv_at hl 0 rfl) ?_
              refine va_ldcS hx hb hown (show vk_R R_Tp 82 "bridge" (adK 6) s from hW0.2.1 6 (by decide)) d_Tp_kindOfLine_67 ?_
              refine vp_callSi (va_Run.run (va_runV (As := [.ref (adK 6)]) (rest := []) ⟨hx, hb, hml, hown, htb⟩ (c_Tp_isWord_w l dC dI ct L f hO_0 q0 m0 adK adV A 6 (by decide) _ hQ) (cwV 1 htb (gd_V tw_285 tw_286 tw_287 tw_177 tw_284) rfl rfl rfl (by decide +kernel) ⟨Nat.le_of_ble_eq_true rfl, Nat.le_of_ble_eq_true rfl⟩) ⟨prs_blind, tw_recv hK hP m0 rfl rfl, prs_pre hP hK hN hS hW0⟩ rfl rfl hl.1 rfl (lv_room (Nat.le_of_ble_eq_true rfl)) d_Tp_kindOfLine_69 ⟨Nat.le_of_ble_eq_true rfl, Nat.le_of_ble_eq_true rfl⟩)) (fun r_7 er_7 => ?_)
              obtain ⟨er_7, hQ⟩ := er_7
              rcases er_7 with ⟨rfl, -⟩ | ⟨rfl, -⟩
              · have hQ := hQ.1 rfl
                refine lv_if_eq (tgt := 78) hx hb d_Tp_kindOfLine_72 (by decide) (fun _ => ?_) (fun h => absurd (by decide +kernel) h)
                refine lv_aload_n hx hb d_Tp_kindOfLine_78 rfl (lv_at hl 0 rfl) ?_
                refine va_ldcS hx hb hown (show vk_R R_Tp 84 "head" (adK 7) s from hW0.2.1 7 (by decide)) d_Tp_kindOfLine_79 ?_
                refine vp_callSi (va_Run.run (va_runV (As := [.ref (adK 7)]) (rest := []) ⟨hx, hb, hml, hown, htb⟩ (c_Tp_isWord_w l dC dI ct L f hO_0 q0 m0 adK adV A 7 (by decide) _ hQ) (cwV 1 htb (gd_V tw_285 tw_286 tw_287 tw_177 tw_284) rfl rfl rfl (by decide +kernel) ⟨Nat.le_of_ble_eq_true rfl, Nat.le_of_ble_eq_true rfl⟩) ⟨prs_blind, tw_recv hK hP m0 rfl rfl, prs_pre hP hK hN hS hW0⟩ rfl rfl hl.1 rfl (lv_room (Nat.le_of_ble_eq_true rfl)) d_Tp_kindOfLine_81 ⟨Nat.le_of_ble_eq_true rfl, Nat.le_of_ble_eq_true rfl⟩)) (fun r_8 er_8 => ?_)
                obtain ⟨er_8, hQ⟩ := er_8
                rcases er_8 with ⟨rfl, -⟩ | ⟨rfl, -⟩
                · have hQ := hQ.1 rfl
                  refine lv_if_eq (tgt := 90) hx hb d_Tp_kindOfLine_84 (by decide) (fun _ => ?_) (fun h => absurd (by decide +kernel) h)
                  refine lv_aload_n hx hb d_Tp_kindOfLine_90 rfl (lv_at hl 0 rfl) ?_
                  refine va_ldcS hx hb hown (show vk_R R_Tp 86 "oars" (adK 8) s from hW0.2.1 8 (by decide)) d_Tp_kindOfLine_91 ?_
                  refine vp_callSi (va_Run.run (va_runV (As := [.ref (adK 8)]) (rest := []) ⟨hx, hb, hml, hown, htb⟩ (c_Tp_isWord_w l dC dI ct L f hO_0 q0 m0 adK adV A 8 (by decide) _ hQ) (cwV 1 htb (gd_V tw_285 tw_286 tw_287 tw_177 tw_284) rfl rfl rfl (by decide +kernel) ⟨Nat.le_of_ble_eq_true rfl, Nat.le_of_ble_eq_true rfl⟩) ⟨prs_blind, tw_recv hK hP m0 rfl rfl, prs_pre hP hK hN hS hW0⟩ rfl rfl hl.1 rfl (lv_room (Nat.le_of_ble_eq_true rfl)) d_Tp_kindOfLine_93 ⟨Nat.le_of_ble_eq_true rfl, Nat.le_of_ble_eq_true rfl⟩)) (fun r_9 er_9 => ?_)
                  obtain ⟨er_9, hQ⟩ := er_9
                  rcases er_9 with ⟨rfl, -⟩ | ⟨rfl, -⟩
                  · have hQ := hQ.1 rfl
                    refine lv_if_eq (tgt := 104) hx hb d_Tp_kindOfLine_96 (by decide) (fun _ => ?_) (fun h => absurd (by decide +kernel) h)
                    refine lv_iconst (v := (-1)) hx hb d_Tp_kindOfLine_104 (by decide +kernel) ?_
                    exact W.iret (v := (-1)) hx hb hr (fun t ht hW => ⟨(-1), rfl, ⟨(Or.inl ⟨rfl, trivial⟩), hQ⟩, ht⟩) t_nil d_Tp_kindOfLine_105
                  · have hQ := hQ.2 rfl
                    refine lv_if_eq (tgt := 104) hx hb d_Tp_kindOfLine_96 (by decide) (fun h => absurd h (by decide +kernel)) (fun _ => ?_)
                    refine lv_bipush (v := 8) hx hb d_Tp_kindOfLine_99 (by decide +kernel) ?_
                    refine lv_goto (tgt := 105) hx hb d_Tp_kindOfLine_101 (by decide) ?_
                    exact W.iret (v := 8) hx hb hr (fun t ht hW => ⟨8, rfl, ⟨(Or.inr (Or.inr (Or.inr (Or.inr (Or.inr (Or.inr (Or.inr (Or.inr (Or.inr ⟨rfl, trivial⟩))))))))), hQ⟩, ht⟩) t_nil d_Tp_kindOfLine_105
                · have hQ := hQ.2 rfl
                  refine lv_if_eq (tgt := 90) hx hb d_Tp_kindOfLine_84 (by decide) (fun h => absurd h (by decide +kernel)) (fun _ => ?_)
                  refine lv_bipush (v := 7) hx hb d_Tp_kindOfLine_87 (by decide +kernel) ?_
                  exact W.iret (v := 7) hx hb hr (fun t ht hW => ⟨7, rfl, ⟨(Or.inr (Or.inr (Or.inr (Or.inr (Or.inr (Or.inr (Or.inr (Or.inr (Or.inl ⟨rfl, trivial⟩))))))))), hQ⟩, ht⟩) t_nil d_Tp_kindOfLine_89
              · have hQ := hQ.2 rfl
                refine lv_if_eq (tgt := 78) hx hb d_Tp_kindOfLine_72 (by decide) (fun h => absurd h (by decide +kernel)) (fun _ => ?_)
                refine lv_bipush (v := 6) hx hb d_Tp_kindOfLine_75 (by decide +kernel) ?_
                exact W.iret (v := 6) hx hb hr (fun t ht hW => ⟨6, rfl, ⟨(Or.inr (Or.inr (Or.inr (Or.inr (Or.inr (Or.inr (Or.inr (Or.inl ⟨rfl, trivial⟩)))))))), hQ⟩, ht⟩) t_nil d_Tp_kindOfLine_77
            · have hQ := hQ.2 rfl
              refine lv_if_eq (tgt := 66) hx hb d_Tp_kindOfLine_61 (by decide) (fun h => absurd h (by decide +kernel)) (fun _ => ?_)
              refine lv_iconst (v := 5) hx hb d_Tp_kindOfLine_64 (by decide +kernel) ?_
              exact W.iret (v := 5) hx hb hr (fun t ht hW => ⟨5, rfl, ⟨(Or.inr (Or.inr (Or.inr (Or.inr (Or.inr (Or.inr (Or.inl ⟨rfl, trivial⟩))))))), hQ⟩, ht⟩) t_nil d_Tp_kindOfLine_65
          · have hQ := hQ.2 rfl
            refine lv_if_eq (tgt := 55) hx hb d_Tp_kindOfLine_50 (by decide) (fun h => absurd h (by decide +kernel)) (fun _ => ?_)
            refine lv_iconst (v := 4) hx hb d_Tp_kindOfLine_53 (by decide +kernel) ?_
            exact W.iret (v := 4) hx hb hr (fun t ht hW => ⟨4, rfl, ⟨(Or.inr (Or.inr (Or.inr (Or.inr (Or.inr (Or.inl ⟨rfl, trivial⟩)))))), hQ⟩, ht⟩) t_nil d_Tp_kindOfLine_54
        · have hQ := hQ.2 rfl
          refine lv_if_eq (tgt := 44) hx hb d_Tp_kindOfLine_39 (by decide) (fun h => absurd h (by decide +kernel)) (fun _ => ?_)
          refine lv_iconst (v := 3) hx hb d_Tp_kindOfLine_42 (by decide +kernel) ?_
          exact W.iret (v := 3) hx hb hr (fun t ht hW => ⟨3, rfl, ⟨(Or.inr (Or.inr (Or.inr (Or.inr (Or.inl ⟨rfl, trivial⟩))))), hQ⟩, ht⟩) t_nil d_Tp_kindOfLine_43
      · have hQ := hQ.2 rfl
        refine lv_if_eq (tgt := 33) hx hb d_Tp_kindOfLine_28 (by decide) (fun h => absurd h (by decide +kernel)) (fun _ => ?_)
        refine lv_iconst (v := 2) hx hb d_Tp_kindOfLine_31 (by decide +kernel) ?_
        exact W.iret (v := 2) hx hb hr (fun t ht hW => ⟨2, rfl, ⟨(Or.inr (Or.inr (Or.inr (Or.inl ⟨rfl, trivial⟩)))), hQ⟩, ht⟩) t_nil d_Tp_kindOfLine_32
    · have hQ := hQ.2 rfl
      refine lv_if_eq (tgt := 22) hx hb d_Tp_kindOfLine_17 (by decide) (fun h => absurd h (by decide +kernel)) (fun _ => ?_)
      refine lv_iconst (v := 1) hx hb d_Tp_kindOfLine_20 (by decide +kernel) ?_
      exact W.iret (v := 1) hx hb hr (fun t ht hW => ⟨1, rfl, ⟨(Or.inr (Or.inr (Or.inl ⟨rfl, trivial⟩))), hQ⟩, ht⟩) t_nil d_Tp_kindOfLine_21
  · have hQ := hQ.2 rfl
    refine lv_if_eq (tgt := 11) hx hb d_Tp_kindOfLine_6 (by decide) (fun h => absurd h (by decide +kernel)) (fun _ => ?_)
    refine lv_iconst (v := 0) hx hb d_Tp_kindOfLine_9 (by decide +kernel) ?_
    exact W.iret (v := 0) hx hb hr (fun t ht hW => ⟨0, rfl, ⟨(Or.inr (Or.inl ⟨rfl, trivial⟩)), hQ⟩, ht⟩) t_nil d_Tp_kindOfLine_10
def wp_Or_takesLine_0_w (L : List Nat) (f : TF) (q0 : Nat) (Q : Int32 → Prop) : Prop := ((12 ≤ (ti f q0 5) → Q 0) ∧ (¬ (12 ≤ (ti f q0 5)) → Q 1))
set_option maxHeartbeats 4000000 in
set_option maxRecDepth 100000 in
theorem c_Or_takesLine_0_w (l : Launch) (dC : Nat → ClassId) (dI : Nat → Nat → Nat) (ct : Nat → ClassId) (L : List Nat) (f : TF) (hO_0 : Ok L f) (q0 : Nat) (m0 : q0 ∈ L ∧ tk f q0 = 15)    (Q : Int32 → Prop) (hQ : wp_Or_takesLine_0_w L f q0 Q) : Met l y_Or_takesLine (.code y_Or_takesLine b_Or_takesLine 2 (some .boolean) :: TB) ({ frames := 0, cells := 0, slots := 0, locals := 0 }) (va_Pc [.ref q0, .int 0] (PR dC dI (TW ct L f) (TT ct))) (vp_Si (fun r => ((r = 0 ∧ True) ∨ (r = 1 ∧ ¬ (11 < (ti f q0 5)) ∧ True)) ∧ Q r)) 0 0 (fun _ => False) := by
  refine Met.ofW (cc := b_Or_takesLine) (maxL := 2) (ret := (some .boolean)) (by decide) rfl ?_
  intro p e s m args below meth c s₁ B hml hv
  obtain ⟨rfl, hP, hK, hN⟩ := hv
  have hx := B.exec
  have hb := B.bytes
  have hr := B.returns
  have hts := atoms_spec (ws := (.code y_Or_takesLine b_Or_takesLine 2 (some .boolean) :: TB)) B.pre
  have htb := fun w (h : w ∈ TB) => hts w (List.mem_cons_of_mem _ h)
  have hown : s.vm.findClass R_Or = some m.cls := findClass_of_methodNamed B.named
  have hlocks := B.notSynchronized
  have hl := lv_entry ([.ref q0, .int 0]) (n := 2) (Nat.le_of_ble_eq_true rfl)
  rw [lg_entry_eq]
  generalize (lg_sl ([.ref q0, .int 0]) ++ List.replicate (2 - (lg_sl ([.ref q0, .int 0])).length) Slot.unset).toArray = ls at hl ⊢
  have hl : lv_has ls 2 [(0, .ref q0), (1, .int 0)] := hl
  unfold wp_Or_takesLine_0_w at hQ
  have bs_1 := hO_0.i m0 (show slotD 15 5 = some (.inl (0, 12)) from rfl)
  have bs_2 := hO_0.i m0 (show slotD 15 6 = some (.inl (0, 12)) from rfl)
  refine lv_iload_n hx hb d_Or_takesLine_0 rfl (lv_at hl 1 rfl) ?_
  refine lv_if_ne (tgt := 19) hx hb d_Or_takesLine_1 (by decide) (fun h => absurd (by decide +kernel) h) (fun _ => ?_)
  refine lv_aload_n hx hb d_Or_takesLine_4 rfl (lv_at hl 0 rfl) ?_
  refine tw_getI (x := (ti f q0 5)) (D := (dC, dI)) (C := R_Or) (T := F_Or) (N := 9) (ci := 3) (kd := 15) (ct := ct) hx hb htb i_Or hown hK hP m0 rfl rfl 5 rfl (by decide) (htb (.fieldLink R_Or 23 "WaterMen$Order" "fareCount" "I") tw_246) (fun _ h9 => h9) rfl d_Or_takesLine_5 ?_
  refine lv_bipush (v := 12) hx hb d_Or_takesLine_8 (by decide +kernel) ?_
  refine lv_icmp_ge (tgt := 17) hx hb d_Or_takesLine_10 (by decide) (fun c_3 => ?_) (fun c_3 => ?_)
  · have hQ := hQ.1 c_3
    refine lv_iconst (v := 0) hx hb d_Or_takesLine_17 (by decide +kernel) ?_
    exact W.zret (v := 0) hx hb hr (by decide +kernel) (fun t ht hW => ⟨0, rfl, ⟨(Or.inl ⟨rfl, trivial⟩), hQ⟩, ht⟩) t_nil d_Or_takesLine_18
  · have hQ := hQ.2 c_3
    refine lv_iconst (v := 1) hx hb d_Or_takesLine_13 (by decide +kernel) ?_
    refine lv_goto (tgt := 18) hx hb d_Or_takesLine_14 (by decide) ?_
    exact W.zret (v := 1) hx hb hr (by decide +kernel) (fun t ht hW => ⟨1, rfl, ⟨(Or.inr ⟨rfl, (show ¬ (11 < (ti f q0 5)) from ((fun (a_0 : Int32) (k_0 : ¬ (12 ≤ a_0)) => (show ¬ (11 < a_0) from by have z0 : (11 : Int32).toInt = 11 := (by decide +kernel); have z1 : (12 : Int32).toInt = 12 := (by decide +kernel); have r0 := fb_rng (a_0); have e0 := k_0; rw [Int32.le_iff_toInt_le, z1] at e0; rw [Int32.lt_iff_toInt_lt, z0]; omega)) (ti f q0 5) c_3)), trivial⟩), hQ⟩, ht⟩) t_nil d_Or_takesLine_18
def W_Tp_stepOverNumber_w : List (Nat × Nat) := [(10, 2), (10, 3), (10, 4), (10, 5)]
def wp_Tp_stepOverNumber_w (L : List Nat) (f : TF) (q0 : Nat) (Q : Int32 → List Nat → TF → Prop) : Prop := ∀ x_1 : Int32, ti f q0 2 = x_1 → ((x_1 = 2 → wp_Tp_step_w L f q0 (fun (L_1 : List Nat) (f_1 : TF) => Ok L_1 f_1 → Ext W_Tp_step_w L f L_1 f_1 → Q 1 L_1 f_1)) ∧ (¬ (x_1 = 2) → Q 0 L f))
set_option maxHeartbeats 4000000 in
set_option maxRecDepth 100000 in
theorem c_Tp_stepOverNumber_w (l : Launch) (dC : Nat → ClassId) (dI : Nat → Nat → Nat) (ct : Nat → ClassId) (L : List Nat) (f : TF) (hO_0 : Ok L f) (q0 : Nat) (m0 : q0 ∈ L ∧ tk f q0 = 10) (sz : Nat)    (Q : Int32 → List Nat → TF → Prop) (hQ : wp_Tp_stepOverNumber_w L f q0 Q) : Met l y_Tp_stepOverNumber (.code y_Tp_stepOverNumber b_Tp_stepOverNumber 1 (some .boolean) :: TB) ({ frames := 3, cells := 0, slots := 0, locals := 60 }) (va_Pc [.ref q0] (PC dC dI (TW ct L f) (TT ct) sz)) (va_Qi (fun r (u : TSt) => Ok u.1 u.2 ∧ Ext W_Tp_stepOverNumber_w L f u.1 u.2 ∧ ((r = 0 ∧ True) ∨ (r = 1 ∧ True)) ∧ Q r u.1 u.2) (fun (u : TSt) t => va_P (dC, dI) vwCl (TW ct u.1 u.2) t.heap ∧ va_K (dC, dI) vwCl (TT ct) t ∧ va_D (va_A (TW ct L f) sz) (TW ct u.1 u.2)) (va_A (TW ct L f) sz)) 0 0 (va_A (TW ct L f) sz) := by
  refine Met.ofW (cc := b_Tp_stepOverNumber) (maxL := 1) (ret := (some .boolean)) (by decide) rfl ?_
  intro p e s m args below meth c s₁ B hml hv
  obtain ⟨rfl, hsz, hP, hK, hD0, hN⟩ := hv
  have hx := B.exec
  have hb := B.bytes
  have hr := B.returns
  have hts := atoms_spec (ws := (.code y_Tp_stepOverNumber b_Tp_stepOverNumber 1 (some .boolean) :: TB)) B.pre
  have htb := fun w (h : w ∈ TB) => hts w (List.mem_cons_of_mem _ h)
  have hown : s.vm.findClass R_Tp = some m.cls := findClass_of_methodNamed B.named
  have hlocks := B.notSynchronized
  have hl := lv_entry ([.ref q0]) (n := 1) (Nat.le_of_ble_eq_true rfl)
  rw [lg_entry_eq]
  generalize (lg_sl ([.ref q0]) ++ List.replicate (1 - (lg_sl ([.ref q0])).length) Slot.unset).toArray = ls at hl ⊢
  have hl : lv_has ls 1 [(0, .ref q0)] := hl
  subst hsz
  have hD := hD0.self (sz := s.heap.size)
  obtain ⟨A, hAe⟩ : ∃ A, va_A (TW ct L f) s.heap.size = A := ⟨_, rfl⟩
  rw [hAe] at hD
  have hA : ∀ q : Nat, s.heap.size ≤ q → A q := fun q h => by rw [← hAe]; exact Or.inr h
  have hS : va_S A s.heap s.heap [] := va_S.rf
  have hA_0 : Ext [] L f L f := Ext.rf
  suffices hGo : ∀ (H : Heap) (locs : List Loc), va_P (dC, dI) vwCl (TW ct L f) H → va_S A s.heap H locs → W p l e (headSpec (.code y_Tp_stepOverNumber b_Tp_stepOverNumber 1 (some .boolean) :: TB) ({ frames := 3, cells := 0, slots := 0, locals := 60 })).room s m [.ref q0].toArray below meth c H locs 0 0 (MQ below (va_Qi (fun r (u : TSt) => Ok u.1 u.2 ∧ Ext W_Tp_stepOverNumber_w L f u.1 u.2 ∧ ((r = 0 ∧ True) ∨ (r = 1 ∧ True)) ∧ Q r u.1 u.2) (fun (u : TSt) t => va_P (dC, dI) vwCl (TW ct u.1 u.2) t.heap ∧ va_K (dC, dI) vwCl (TT ct) t ∧ va_D (va_A (TW ct L f) s.heap.size) (TW ct u.1 u.2)) (va_A (TW ct L f) s.heap.size)) [.ref q0].toArray s 0 0 (va_A (TW ct L f) s.heap.size)) (F0 m 0 ls []) from hGo _ _ hP hS
  clear hP hS
  intro H locs hP hS
  unfold wp_Tp_stepOverNumber_w at hQ
  refine lv_aload_n hx hb d_Tp_stepOverNumber_0 rfl (lv_at hl 0 rfl) ?_
  refine tw_geti (D := (dC, dI)) (C := R_Tp) (T := F_Tp) (N := 6) (ci := 4) (kd := 10) (ct := ct) hx hb htb i_Tp hown hK hP hO_0 m0 rfl rfl 2 (by decide) (htb (.fieldLink R_Tp 37 "WaterMen$Tape" "sort" "I") tw_257) (fun _ h9 => h9) rfl d_Tp_stepOverNumber_1 (fun x_1 e_1 b_1 => ?_)
  have hQ := hQ x_1 e_1
  refine lv_iconst (v := 2) hx hb d_Tp_stepOverNumber_4 (by decide +kernel) ?_
  refine lv_icmp_eq (tgt := 10) hx hb d_Tp_stepOverNumber_5 (by decide) (fun c_2 => ?_) (fun c_2 => ?_)
  · have hQ := hQ.1 c_2
    refine lv_aload_n hx hb d_Tp_stepOverNumber_10 rfl (lv_at hl 0 rfl) ?_
    have hFc := hb_free hD hS hA
    refine va_callv (va_runV (As := []) (rest := []) ⟨hx, hb, hml, hown, htb⟩ (c_Tp_step_w l dC dI ct L f hO_0 q0 m0 _ _ hQ) (cwV 0 htb (gd_V tw_273 tw_274 tw_275 tw_177 tw_272) rfl rfl rfl (by decide +kernel) ⟨Nat.le_of_ble_eq_true rfl, Nat.le_of_ble_eq_true rfl⟩) ⟨pc_blind, tw_recv hK hP m0 rfl rfl, pc_pre hP hK hD hN⟩ rfl rfl hl.1 rfl (lv_room (Nat.le_of_ble_eq_true rfl)) d_Tp_stepOverNumber_11 ⟨Nat.le_of_ble_eq_true rfl, Nat.le_of_ble_eq_true rfl⟩) hS (fun q _ h => hFc q h) hFc (fun u t H locs ht hvm er hB hz1 hk1 hS => ?_)
    obtain ⟨L_1, f_1⟩ := u
    obtain ⟨hO_1, hE_1, er, hQ⟩ := er
    obtain ⟨hP, hK1, hD1⟩ := hB
    rw [ht] at hP
    have hP : va_P (dC, dI) vwCl (TW ct L_1 f_1) H := hP
    have hD : va_D A (TW ct L_1 f_1) := hD1.weaken (fun _ q _ h => hFc q.1 h)
    have hO_1 : Ok L_1 f_1 := hO_1
    have hE_1 : Ext W_Tp_step_w L f L_1 f_1 := hE_1
    clear hK1 hD1 ht hvm hz1 hk1
    have hA_1 := hA_0.trans hE_1
    have hQ := hQ hO_1 hE_1
    clear er
    refine lv_iconst (v := 1) hx hb d_Tp_stepOverNumber_14 (by decide +kernel) ?_
    refine W.widen (k := 0) (n := 0) (Nat.le_of_ble_eq_true rfl) (Nat.le_of_ble_eq_true rfl) ?_
    exact W.zret (v := 1) hx hb hr (by decide +kernel) (fun t ht hW => ⟨⟨1, (L_1, f_1), rfl, ⟨hO_1, hA_1.mono (by decide +kernel), (Or.inr ⟨rfl, trivial⟩), hQ⟩, by rw [ht]; exact hP, va_K.moved hW.alike hK, by rw [hAe]; exact hD⟩, by rw [hAe]; exact hS.F ht⟩) (by rw [hAe]; exact hS.2.2) d_Tp_stepOverNumber_15
  · have hQ := hQ.2 c_2
    refine lv_iconst (v := 0) hx hb d_Tp_stepOverNumber_8 (by decide +kernel) ?_
    refine W.widen (k := 0) (n := 0) (Nat.le_of_ble_eq_true rfl) (Nat.le_of_ble_eq_true rfl) ?_
    exact W.zret (v := 0) hx hb hr (by decide +kernel) (fun t ht hW => ⟨⟨0, (L, f), rfl, ⟨hO_0, hA_0.mono (by decide +kernel), (Or.inl ⟨rfl, trivial⟩), hQ⟩, by rw [ht]; exact hP, va_K.moved hW.alike hK, by rw [hAe]; exact hD⟩, by rw [hAe]; exact hS.F ht⟩) (by rw [hAe]; exact hS.2.2) d_Tp_stepOverNumber_9
def W_Tp_stepOverWord_w : List (Nat × Nat) := [(10, 2), (10, 3), (10, 4), (10, 5)]
def wp_Tp_stepOverWord_w (L : List Nat) (f : TF) (q0 : Nat) (si : Nat) (Q : Int32 → List Nat → TF → Prop) : Prop := ∀ x_1 : Int32, ti f q0 2 = x_1 → ((x_1 = 1 → wp_Tp_isWord_w L f q0 si (fun (r_3 : Int32) => ((r_3 = 0 → Q 0 L f) ∧ (r_3 = 1 → wp_Tp_step_w L f q0 (fun (L_1 : List Nat) (f_1 : TF) => Ok L_1 f_1 → Ext W_Tp_step_w L f L_1 f_1 → Q 1 L_1 f_1))))) ∧ (¬ (x_1 = 1) → Q 0 L f))
set_option maxHeartbeats 4000000 in
set_option maxRecDepth 100000 in
theorem c_Tp_stepOverWord_w (l : Launch) (dC : Nat → ClassId) (dI : Nat → Nat → Nat) (ct : Nat → ClassId) (L : List Nat) (f : TF) (hO_0 : Ok L f) (q0 : Nat) (m0 : q0 ∈ L ∧ tk f q0 = 10) (adK adV : Nat → Nat) (si : Nat) (hsi : si < 11) (sz : Nat)    (Q : Int32 → List Nat → TF → Prop) (hQ : wp_Tp_stepOverWord_w L f q0 si Q) : Met l y_Tp_stepOverWord (.code y_Tp_stepOverWord b_Tp_stepOverWord 2 (some .boolean) :: TB) ({ frames := 5, cells := 0, slots := 0, locals := 107 }) (va_Pc [.ref q0, .ref (adK si)] (PCs dC dI (TW ct L f) (TT ct) adK adV sz)) (va_Qi (fun r (u : TSt) => Ok u.1 u.2 ∧ Ext W_Tp_stepOverWord_w L f u.1 u.2 ∧ ((r = 0 ∧ True) ∨ (r = 1 ∧ True)) ∧ Q r u.1 u.2) (fun (u : TSt) t => va_P (dC, dI) vwCl (TW ct u.1 u.2) t.heap ∧ va_K (dC, dI) vwCl (TT ct) t ∧ va_D (va_A (TW ct L f) sz) (TW ct u.1 u.2)) (va_A (TW ct L f) sz)) 0 0 (va_A (TW ct L f) sz) := by
  refine Met.ofW (cc := b_Tp_stepOverWord) (maxL := 2) (ret := (some .boolean)) (by decide) rfl ?_
  intro p e s m args below meth c s₁ B hml hv
  obtain ⟨rfl, ⟨hsz, hP, hK, hD0, hN⟩, hW0⟩ := hv
  have hx := B.exec
  have hb := B.bytes
  have hr := B.returns
  have hts := atoms_spec (ws := (.code y_Tp_stepOverWord b_Tp_stepOverWord 2 (some .boolean) :: TB)) B.pre
  have htb := fun w (h : w ∈ TB) => hts w (List.mem_cons_of_mem _ h)
  have hown : s.vm.findClass R_Tp = some m.cls := findClass_of_methodNamed B.named
  have hlocks := B.notSynchronized
  have hl := lv_entry ([.ref q0, .ref (adK si)]) (n := 2) (Nat.le_of_ble_eq_true rfl)
  rw [lg_entry_eq]
  generalize (lg_sl ([.ref q0, .ref (adK si)]) ++ List.replicate (2 - (lg_sl ([.ref q0, .ref (adK si)])).length) Slot.unset).toArray = ls at hl ⊢
  have hl : lv_has ls 2 [(0, .ref q0), (1, .ref (adK si))] := hl
  subst hsz
  have hD := hD0.self (sz := s.heap.size)
  obtain ⟨A, hAe⟩ : ∃ A, va_A (TW ct L f) s.heap.size = A := ⟨_, rfl⟩
  rw [hAe] at hD
  rw [hAe] at hW0
  have hA : ∀ q : Nat, s.heap.size ≤ q → A q := fun q h => by rw [← hAe]; exact Or.inr h
  have hS : va_S A s.heap s.heap [] := va_S.rf
  have hA_0 : Ext [] L f L f := Ext.rf
  suffices hGo : ∀ (H : Heap) (locs : List Loc), va_P (dC, dI) vwCl (TW ct L f) H → va_S A s.heap H locs → W p l e (headSpec (.code y_Tp_stepOverWord b_Tp_stepOverWord 2 (some .boolean) :: TB) ({ frames := 5, cells := 0, slots := 0, locals := 107 })).room s m [.ref q0, .ref (adK si)].toArray below meth c H locs 0 0 (MQ below (va_Qi (fun r (u : TSt) => Ok u.1 u.2 ∧ Ext W_Tp_stepOverWord_w L f u.1 u.2 ∧ ((r = 0 ∧ True) ∨ (r = 1 ∧ True)) ∧ Q r u.1 u.2) (fun (u : TSt) t => va_P (dC, dI) vwCl (TW ct u.1 u.2) t.heap ∧ va_K (dC, dI) vwCl (TT ct) t ∧ va_D (va_A (TW ct L f) s.heap.size) (TW ct u.1 u.2)) (va_A (TW ct L f) s.heap.size)) [.ref q0, .ref (adK si)].toArray s 0 0 (va_A (TW ct L f) s.heap.size)) (F0 m 0 ls []) from hGo _ _ hP hS
  clear hP hS
  intro H locs hP hS
  unfold wp_Tp_stepOverWord_w at hQ
  refine lv_aload_n hx hb d_Tp_stepOverWord_0 rfl (lv_at hl 0 rfl) ?_
  refine tw_geti (D := (dC, dI)) (C := R_Tp) (T := F_Tp) (N := 6) (ci := 4) (kd := 10) (ct := ct) hx hb htb i_Tp hown hK hP hO_0 m0 rfl rfl 2 (by decide) (htb (.fieldLink R_Tp 37 "WaterMen$Tape" "sort" "I") tw_257) (fun _ h9 => h9) rfl d_Tp_stepOverWord_1 (fun x_1 e_1 b_1 => ?_)
  have hQ := hQ x_1 e_1
  refine lv_iconst (v := 1) hx hb d_Tp_stepOverWord_4 (by decide +kernel) ?_
  refine lv_icmp_ne (tgt := 16) hx hb d_Tp_stepOverWord_5 (by decide) (fun c_2 => ?_) (fun c_2 => ?_)
  · have hQ := hQ.2 c_2
    refine lv_iconst (v := 0) hx hb d_Tp_stepOverWord_16 (by decide +kernel) ?_
    refine W.widen (k := 0) (n := 0) (Nat.le_of_ble_eq_true rfl) (Nat.le_of_ble_eq_true rfl) ?_
    exact W.zret (v := 0) hx hb hr (by decide +kernel) (fun t ht hW => ⟨⟨0, (L, f), rfl, ⟨hO_0, hA_0.mono (by decide +kernel), (Or.inl ⟨rfl, trivial⟩), hQ⟩, by rw [ht]; exact hP, va_K.moved hW.alike hK, by rw [hAe]; exact hD⟩, by rw [hAe]; exact hS.F ht⟩) (by rw [hAe]; exact hS.2.2) d_Tp_stepOverWord_17
  · have hQ := hQ.1 c_2
    refine lv_aload_n hx hb d_Tp_stepOverWord_8 rfl (lv_at hl 0 rfl) ?_
    refine lv_aload_n hx hb d_Tp_stepOverWord_9 rfl (lv_at hl 1 rfl) ?_
    refine vp_callSi (va_Run.run (va_runV (As := [.ref (adK si)]) (rest := []) ⟨hx, hb, hml, hown, htb⟩ (c_Tp_isWord_w l dC dI ct L f hO_0 q0 m0 adK adV A si hsi _ hQ) (cwV 1 htb (gd_V tw_285 tw_286 tw_287 tw_177 tw_284) rfl rfl rfl (by decide +kernel) ⟨Nat.le_of_ble_eq_true rfl, Nat.le_of_ble_eq_true rfl⟩) ⟨prs_blind, tw_recv hK hP m0 rfl rfl, prs_pre hP hK hN hS hW0⟩ rfl rfl hl.1 rfl (lv_room (Nat.le_of_ble_eq_true rfl)) d_Tp_stepOverWord_10 ⟨Nat.le_of_ble_eq_true rfl, Nat.le_of_ble_eq_true rfl⟩)) (fun r_3 er_3 => ?_)
    obtain ⟨er_3, hQ⟩ := er_3
    rcases er_3 with ⟨rfl, -⟩ | ⟨rfl, -⟩
    · have hQ := hQ.1 rfl
      refine lv_if_ne (tgt := 18) hx hb d_Tp_stepOverWord_13 (by decide) (fun h => absurd (by decide +kernel) h) (fun _ => ?_)
      refine lv_iconst (v := 0) hx hb d_Tp_stepOverWord_16 (by decide +kernel) ?_
      refine W.widen (k := 0) (n := 0) (Nat.le_of_ble_eq_true rfl) (Nat.le_of_ble_eq_true rfl) ?_
      exact W.zret (v := 0) hx hb hr (by decide +kernel) (fun t ht hW => ⟨⟨0, (L, f), rfl, ⟨hO_0, hA_0.mono (by decide +kernel), (Or.inl ⟨rfl, trivial⟩), hQ⟩, by rw [ht]; exact hP, va_K.moved hW.alike hK, by rw [hAe]; exact hD⟩, by rw [hAe]; exact hS.F ht⟩) (by rw [hAe]; exact hS.2.2) d_Tp_stepOverWord_17
    · have hQ := hQ.2 rfl
      refine lv_if_ne (tgt := 18) hx hb d_Tp_stepOverWord_13 (by decide) (fun _ => ?_) (fun h => absurd h (by decide +kernel))
      refine lv_aload_n hx hb d_Tp_stepOverWord_18 rfl (lv_at hl 0 rfl) ?_
      have hFc := hb_free hD hS hA
      refine va_callv (va_runV (As := []) (rest := []) ⟨hx, hb, hml, hown, htb⟩ (c_Tp_step_w l dC dI ct L f hO_0 q0 m0 _ _ hQ) (cwV 0 htb (gd_V tw_273 tw_274 tw_275 tw_177 tw_272) rfl rfl rfl (by decide +kernel) ⟨Nat.le_of_ble_eq_true rfl, Nat.le_of_ble_eq_true rfl⟩) ⟨pc_blind, tw_recv hK hP m0 rfl rfl, pc_pre hP hK hD hN⟩ rfl rfl hl.1 rfl (lv_room (Nat.le_of_ble_eq_true rfl)) d_Tp_stepOverWord_19 ⟨Nat.le_of_ble_eq_true rfl, Nat.le_of_ble_eq_true rfl⟩) hS (fun q _ h => hFc q h) hFc (fun u t H locs ht hvm er hB hz1 hk1 hS => ?_)
      obtain ⟨L_1, f_1⟩ := u
      obtain ⟨hO_1, hE_1, er, hQ⟩ := er
      obtain ⟨hP, hK1, hD1⟩ := hB
      rw [ht] at hP
      have hP : va_P (dC, dI) vwCl (TW ct L_1 f_1) H := hP
      have hD : va_D A (TW ct L_1 f_1) := hD1.weaken (fun _ q _ h => hFc q.1 h)
      have hO_1 : Ok L_1 f_1 := hO_1
      have hE_1 : Ext W_Tp_step_w L f L_1 f_1 := hE_1
      clear hK1 hD1 ht hvm hz1 hk1
      have hA_1 := hA_0.trans hE_1
      have hQ := hQ hO_1 hE_1
      clear er
      refine lv_iconst (v := 1) hx hb d_Tp_stepOverWord_22 (by decide +kernel) ?_
      refine W.widen (k := 0) (n := 0) (Nat.le_of_ble_eq_true rfl) (Nat.le_of_ble_eq_true rfl) ?_
      exact W.zret (v := 1) hx hb hr (by decide +kernel) (fun t ht hW => ⟨⟨1, (L_1, f_1), rfl, ⟨hO_1, hA_1.mono (by decide +kernel), (Or.inr ⟨rfl, trivial⟩), hQ⟩, by rw [ht]; exact hP, va_K.moved hW.alike hK, by rw [hAe]; exact hD⟩, by rw [hAe]; exact hS.F ht⟩) (by rw [hAe]; exact hS.2.2) d_Tp_stepOverWord_23
def W_Or_setLine_k16_w : List (Nat × Nat) := [(16, 1000)]
def wp_Or_setLine_k16_w (L : List Nat) (f : TF) (pq_0 : Nat) (p_1 : Int32) (p_2 : Int32) (p_3 : Int32) (p_4 : Int32) (Q : List Nat → TF → Prop) : Prop := ∀ f_1 : TF, f_1 = sI f pq_0 ((p_1 * 3) : Int32).toNatClampNeg p_2 → Ok L f_1 → ∀ f_2 : TF, f_2 = sI f_1 pq_0 (((p_1 * 3) + 1) : Int32).toNatClampNeg p_3 → Ok L f_2 → ∀ f_3 : TF, f_3 = sI f_2 pq_0 (((p_1 * 3) + 2) : Int32).toNatClampNeg p_4 → Ok L f_3 → Q L f_3
set_option maxHeartbeats 4000000 in
set_option maxRecDepth 100000 in
theorem c_Or_setLine_k16_w (l : Launch) (dC : Nat → ClassId) (dI : Nat → Nat → Nat) (ct : Nat → ClassId) (L : List Nat) (f : TF) (hO_0 : Ok L f) (pq_0 : Nat) (pm_0 : pq_0 ∈ L ∧ tk f pq_0 = 16) (sz : Nat) (p_1 : Int32) (p_2 : Int32) (p_3 : Int32) (p_4 : Int32)  (as_0 : ¬ (p_1 < 0)) (as_1 : ¬ (11 < p_1)) (Q : List Nat → TF → Prop) (hQ : wp_Or_setLine_k16_w L f pq_0 p_1 p_2 p_3 p_4 Q) : Met l y_Or_setLine (.code y_Or_setLine b_Or_setLine 5 none :: TB) ({ frames := 0, cells := 0, slots := 0, locals := 0 }) (va_Pc [.ref pq_0, .int p_1, .int p_2, .int p_3, .int p_4] (PC dC dI (TW ct L f) (TT ct) sz)) (va_Qv (fun (u : TSt) => Ok u.1 u.2 ∧ Ext W_Or_setLine_k16_w L f u.1 u.2 ∧ (True) ∧ Q u.1 u.2) (fun (u : TSt) t => va_P (dC, dI) vwCl (TW ct u.1 u.2) t.heap ∧ va_K (dC, dI) vwCl (TT ct) t ∧ va_D (va_A (TW ct L f) sz) (TW ct u.1 u.2)) (va_A (TW ct L f) sz)) 0 0 (va_A (TW ct L f) sz) := by
  refine Met.ofW (cc := b_Or_setLine) (maxL := 5) (ret := none) (by decide) rfl ?_
  intro p e s m args below meth c s₁ B hml hv
  obtain ⟨rfl, hsz, hP, hK, hD0, hN⟩ := hv
  have hx := B.exec
  have hb := B.bytes
  have hr := B.returns
  have hts := atoms_spec (ws := (.code y_Or_setLine b_Or_setLine 5 none :: TB)) B.pre
  have htb := fun w (h : w ∈ TB) => hts w (List.mem_cons_of_mem _ h)
  have hown : s.vm.findClass R_Or = some m.cls := findClass_of_methodNamed B.named
  have hlocks := B.notSynchronized
  have hl := lv_entry ([.ref pq_0, .int p_1, .int p_2, .int p_3, .int p_4]) (n := 5) (Nat.le_of_ble_eq_true rfl)
  rw [lg_entry_eq]
  generalize (lg_sl ([.ref pq_0, .int p_1, .int p_2, .int p_3, .int p_4]) ++ List.replicate (5 - (lg_sl ([.ref pq_0, .int p_1, .int p_2, .int p_3, .int p_4])).length) Slot.unset).toArray = ls at hl ⊢
  have hl : lv_has ls 5 [(0, .ref pq_0), (1, .int p_1), (2, .int p_2), (3, .int p_3), (4, .int p_4)] := hl
  subst hsz
  have hD := hD0.self (sz := s.heap.size)
  obtain ⟨A, hAe⟩ : ∃ A, va_A (TW ct L f) s.heap.size = A := ⟨_, rfl⟩
  rw [hAe] at hD
  have hA : ∀ q : Nat, s.heap.size ≤ q → A q := fun q h => by rw [← hAe]; exact Or.inr h
  have hS : va_S A s.heap s.heap [] := va_S.rf
  have hA_0 : Ext [] L f L f := Ext.rf
  suffices hGo : ∀ (H : Heap) (locs : List Loc), va_P (dC, dI) vwCl (TW ct L f) H → va_S A s.heap H locs → W p l e (headSpec (.code y_Or_setLine b_Or_setLine 5 none :: TB) ({ frames := 0, cells := 0, slots := 0, locals := 0 })).room s m [.ref pq_0, .int p_1, .int p_2, .int p_3, .int p_4].toArray below meth c H locs 0 0 (MQ below (va_Qv (fun (u : TSt) => Ok u.1 u.2 ∧ Ext W_Or_setLine_k16_w L f u.1 u.2 ∧ (True) ∧ Q u.1 u.2) (fun (u : TSt) t => va_P (dC, dI) vwCl (TW ct u.1 u.2) t.heap ∧ va_K (dC, dI) vwCl (TT ct) t ∧ va_D (va_A (TW ct L f) s.heap.size) (TW ct u.1 u.2)) (va_A (TW ct L f) s.heap.size)) [.ref pq_0, .int p_1, .int p_2, .int p_3, .int p_4].toArray s 0 0 (va_A (TW ct L f) s.heap.size)) (F0 m 0 ls []) from hGo _ _ hP hS
  clear hP hS
  intro H locs hP hS
  unfold wp_Or_setLine_k16_w at hQ
  refine lv_aload_n hx hb d_Or_setLine_0 rfl (lv_at hl 0 rfl) ?_
  refine lv_iload_n hx hb d_Or_setLine_1 rfl (lv_at hl 1 rfl) ?_
  refine lv_iconst (v := 3) hx hb d_Or_setLine_2 (by decide +kernel) ?_
  refine lv_imul hx hb d_Or_setLine_3 ?_
  refine lv_iload_n hx hb d_Or_setLine_4 rfl (lv_at hl 2 rfl) ?_
  refine tw_astI (ct := ct) (x := p_2) hx hb hK hP hD hS hO_0 pm_0 rfl ((fun (a_0 : Int32) (k_0 : ¬ (a_0 < 0)) (k_1 : ¬ (11 < a_0)) => (show vp_in ((a_0 * 3)) 36 from by have z0 : (0 : Int32).toInt = 0 := (by decide +kernel); have z1 : (3 : Int32).toInt = 3 := (by decide +kernel); have z2 : (11 : Int32).toInt = 11 := (by decide +kernel); have r0 := fb_rng (a_0); have e0 := k_0; rw [Int32.lt_iff_toInt_lt, z0] at e0; have e1 := k_1; rw [Int32.lt_iff_toInt_lt, z2] at e1; obtain ⟨n_0, hn_0, s0⟩ := nd_mul (x := (a_0)) (y := (3 : Int32)) (by (try rw [z1]); omega) (by (try rw [z1]); omega); rw [z1] at s0; rw [hn_0, vp_in_iff]; omega)) p_1 as_0 as_1) (i32_full _) d_Or_setLine_5 (fun f_1 H locs hP hD hS hO_1 hE_1 w_1 ow_1 hF_1 => ?_)
  have hA_1 := hA_0.trans hE_1
  have hQ := hQ f_1 hF_1
  have hQ := hQ hO_1
  refine lv_aload_n hx hb d_Or_setLine_6 rfl (lv_at hl 0 rfl) ?_
  refine lv_iload_n hx hb d_Or_setLine_7 rfl (lv_at hl 1 rfl) ?_
  refine lv_iconst (v := 3) hx hb d_Or_setLine_8 (by decide +kernel) ?_
  refine lv_imul hx hb d_Or_setLine_9 ?_
  refine lv_iconst (v := 1) hx hb d_Or_setLine_10 (by decide +kernel) ?_
  refine lv_iadd hx hb d_Or_setLine_11 ?_
  refine lv_iload_n hx hb d_Or_setLine_12 rfl (lv_at hl 3 rfl) ?_
  refine tw_astI (ct := ct) (x := p_3) hx hb hK hP hD hS hO_1 (hA_1.m pm_0) rfl ((fun (a_0 : Int32) (k_0 : ¬ (a_0 < 0)) (k_1 : ¬ (11 < a_0)) => (show vp_in (((a_0 * 3) + 1)) 36 from by have z0 : (0 : Int32).toInt = 0 := (by decide +kernel); have z1 : (1 : Int32).toInt = 1 := (by decide +kernel); have z2 : (3 : Int32).toInt = 3 := (by decide +kernel); have z3 : (11 : Int32).toInt = 11 := (by decide +kernel); have r0 := fb_rng (a_0); have e0 := k_0; rw [Int32.lt_iff_toInt_lt, z0] at e0; have e1 := k_1; rw [Int32.lt_iff_toInt_lt, z3] at e1; obtain ⟨n_0, hn_0, s0⟩ := nd_mul (x := (a_0)) (y := (3 : Int32)) (by (try rw [z2]); omega) (by (try rw [z2]); omega); rw [z2] at s0; obtain ⟨n_1, hn_1, s1⟩ := nd_add (x := n_0) (y := (1 : Int32)) (by (try rw [z1]); omega) (by (try rw [z1]); omega); rw [z1] at s1; rw [hn_0, hn_1, vp_in_iff]; omega)) p_1 as_0 as_1) (i32_full _) d_Or_setLine_13 (fun f_2 H locs hP hD hS hO_2 hE_2 w_2 ow_2 hF_2 => ?_)
  have hA_2 := hA_1.trans hE_2
  have hQ := hQ f_2 hF_2
  have hQ := hQ hO_2
  refine lv_aload_n hx hb d_Or_setLine_14 rfl (lv_at hl 0 rfl) ?_
  refine lv_iload_n hx hb d_Or_setLine_15 rfl (lv_at hl 1 rfl) ?_
  refine lv_iconst (v := 3) hx hb d_Or_setLine_16 (by decide +kernel) ?_
  refine lv_imul hx hb d_Or_setLine_17 ?_
  refine lv_iconst (v := 2) hx hb d_Or_setLine_18 (by decide +kernel) ?_
  refine lv_iadd hx hb d_Or_setLine_19 ?_
  refine lv_iload hx hb d_Or_setLine_20 (lv_at hl 4 rfl) ?_
  refine tw_astI (ct := ct) (x := p_4) hx hb hK hP hD hS hO_2 (hA_2.m pm_0) rfl ((fun (a_0 : Int32) (k_0 : ¬ (a_0 < 0)) (k_1 : ¬ (11 < a_0)) => (show vp_in (((a_0 * 3) + 2)) 36 from by have z0 : (0 : Int32).toInt = 0 := (by decide +kernel); have z1 : (2 : Int32).toInt = 2 := (by decide +kernel); have z2 : (3 : Int32).toInt = 3 := (by decide +kernel); have z3 : (11 : Int32).toInt = 11 := (by decide +kernel); have r0 := fb_rng (a_0); have e0 := k_0; rw [Int32.lt_iff_toInt_lt, z0] at e0; have e1 := k_1; rw [Int32.lt_iff_toInt_lt, z3] at e1; obtain ⟨n_0, hn_0, s0⟩ := nd_mul (x := (a_0)) (y := (3 : Int32)) (by (try rw [z2]); omega) (by (try rw [z2]); omega); rw [z2] at s0; obtain ⟨n_1, hn_1, s1⟩ := nd_add (x := n_0) (y := (2 : Int32)) (by (try rw [z1]); omega) (by (try rw [z1]); omega); rw [z1] at s1; rw [hn_0, hn_1, vp_in_iff]; omega)) p_1 as_0 as_1) (i32_full _) d_Or_setLine_22 (fun f_3 H locs hP hD hS hO_3 hE_3 w_3 ow_3 hF_3 => ?_)
  have hA_3 := hA_2.trans hE_3
  have hQ := hQ f_3 hF_3
  have hQ := hQ hO_3
  refine W.widen (k := 0) (n := 0) (Nat.le_of_ble_eq_true rfl) (Nat.le_of_ble_eq_true rfl) ?_
  exact W.vret hx hb hr (fun t ht hW => ⟨⟨(L, f_3), rfl, ⟨hO_3, hA_3.mono (by decide +kernel), trivial, hQ⟩, by rw [ht]; exact hP, va_K.moved hW.alike hK, by rw [hAe]; exact hD⟩, by rw [hAe]; exact hS.F ht⟩) (by rw [hAe]; exact hS.2.2) d_Or_setLine_23
def W_Or_addLine_0_w : List (Nat × Nat) := [(15, 5), (16, 1000)]
def wp_Or_addLine_0_w (L : List Nat) (f : TF) (q0 : Nat) (p_1 : Int32) (p_2 : Int32) (p_3 : Int32) (Q : List Nat → TF → Prop) : Prop := ∀ q_1 : Nat, tr f q0 2 = some q_1 → wp_Or_setLine_k16_w L f q_1 (ti f q0 5) p_1 p_2 p_3 (fun (L_1 : List Nat) (f_1 : TF) => Ok L_1 f_1 → Ext W_Or_setLine_k16_w L f L_1 f_1 → ∀ f_2 : TF, f_2 = sI f_1 q0 5 ((ti f q0 5) + 1) → Ok L_1 f_2 → Q L_1 f_2)
set_option maxHeartbeats 4000000 in
set_option maxRecDepth 100000 in
theorem c_Or_addLine_0_w (l : Launch) (dC : Nat → ClassId) (dI : Nat → Nat → Nat) (ct : Nat → ClassId) (L : List Nat) (f : TF) (hO_0 : Ok L f) (q0 : Nat) (m0 : q0 ∈ L ∧ tk f q0 = 15) (sz : Nat) (p_1 : Int32) (p_2 : Int32) (p_3 : Int32)  (as_0 : ¬ (11 < (ti f q0 5))) (Q : List Nat → TF → Prop) (hQ : wp_Or_addLine_0_w L f q0 p_1 p_2 p_3 Q) : Met l y_Or_addLine (.code y_Or_addLine b_Or_addLine 5 none :: TB) ({ frames := 1, cells := 0, slots := 0, locals := 24 }) (va_Pc [.ref q0, .int 0, .int p_1, .int p_2, .int p_3] (PC dC dI (TW ct L f) (TT ct) sz)) (va_Qv (fun (u : TSt) => Ok u.1 u.2 ∧ Ext W_Or_addLine_0_w L f u.1 u.2 ∧ (True) ∧ Q u.1 u.2) (fun (u : TSt) t => va_P (dC, dI) vwCl (TW ct u.1 u.2) t.heap ∧ va_K (dC, dI) vwCl (TT ct) t ∧ va_D (va_A (TW ct L f) sz) (TW ct u.1 u.2)) (va_A (TW ct L f) sz)) 0 0 (va_A (TW ct L f) sz) := by
  refine Met.ofW (cc := b_Or_addLine) (maxL := 5) (ret := none) (by decide) rfl ?_
  intro p e s m args below meth c s₁ B hml hv
  obtain ⟨rfl, hsz, hP, hK, hD0, hN⟩ := hv
  have hx := B.exec
  have hb := B.bytes
  have hr := B.returns
  have hts := atoms_spec (ws := (.code y_Or_addLine b_Or_addLine 5 none :: TB)) B.pre
  have htb := fun w (h : w ∈ TB) => hts w (List.mem_cons_of_mem _ h)
  have hown : s.vm.findClass R_Or = some m.cls := findClass_of_methodNamed B.named
  have hlocks := B.notSynchronized
  have hl := lv_entry ([.ref q0, .int 0, .int p_1, .int p_2, .int p_3]) (n := 5) (Nat.le_of_ble_eq_true rfl)
  rw [lg_entry_eq]
  generalize (lg_sl ([.ref q0, .int 0, .int p_1, .int p_2, .int p_3]) ++ List.replicate (5 - (lg_sl ([.ref q0, .int 0, .int p_1, .int p_2, .int p_3])).length) Slot.unset).toArray = ls at hl ⊢
  have hl : lv_has ls 5 [(0, .ref q0), (1, .int 0), (2, .int p_1), (3, .int p_2), (4, .int p_3)] := hl
  subst hsz
  have hD := hD0.self (sz := s.heap.size)
  obtain ⟨A, hAe⟩ : ∃ A, va_A (TW ct L f) s.heap.size = A := ⟨_, rfl⟩
  rw [hAe] at hD
  have hA : ∀ q : Nat, s.heap.size ≤ q → A q := fun q h => by rw [← hAe]; exact Or.inr h
  have hS : va_S A s.heap s.heap [] := va_S.rf
  have hA_0 : Ext [] L f L f := Ext.rf
  suffices hGo : ∀ (H : Heap) (locs : List Loc), va_P (dC, dI) vwCl (TW ct L f) H → va_S A s.heap H locs → W p l e (headSpec (.code y_Or_addLine b_Or_addLine 5 none :: TB) ({ frames := 1, cells := 0, slots := 0, locals := 24 })).room s m [.ref q0, .int 0, .int p_1, .int p_2, .int p_3].toArray below meth c H locs 0 0 (MQ below (va_Qv (fun (u : TSt) => Ok u.1 u.2 ∧ Ext W_Or_addLine_0_w L f u.1 u.2 ∧ (True) ∧ Q u.1 u.2) (fun (u : TSt) t => va_P (dC, dI) vwCl (TW ct u.1 u.2) t.heap ∧ va_K (dC, dI) vwCl (TT ct) t ∧ va_D (va_A (TW ct L f) s.heap.size) (TW ct u.1 u.2)) (va_A (TW ct L f) s.heap.size)) [.ref q0, .int 0, .int p_1, .int p_2, .int p_3].toArray s 0 0 (va_A (TW ct L f) s.heap.size)) (F0 m 0 ls []) from hGo _ _ hP hS
  clear hP hS
  intro H locs hP hS
  unfold wp_Or_addLine_0_w at hQ
  have bp_5 := hO_0.i m0 (show slotD 15 5 = some (.inl (0, 12)) from rfl)
  refine lv_iload_n hx hb d_Or_addLine_0 rfl (lv_at hl 1 rfl) ?_
  refine lv_if_ne (tgt := 32) hx hb d_Or_addLine_1 (by decide) (fun h => absurd (by decide +kernel) h) (fun _ => ?_)
  refine lv_aload_n hx hb d_Or_addLine_4 rfl (lv_at hl 0 rfl) ?_
  refine tw_getr (D := (dC, dI)) (C := R_Or) (T := F_Or) (N := 9) (ci := 3) (kd := 15) (ct := ct) hx hb htb i_Or hown hK hP hO_0 m0 rfl rfl 2 (by decide) (htb (.fieldLink R_Or 9 "WaterMen$Order" "fares" "[I") tw_304) (fun _ h9 => h9) rfl d_Or_addLine_5 (fun q_1 e_1 m_1 => ?_)
  have hQ := hQ q_1 e_1
  refine lv_aload_n hx hb d_Or_addLine_8 rfl (lv_at hl 0 rfl) ?_
  refine tw_getI (x := (ti f q0 5)) (D := (dC, dI)) (C := R_Or) (T := F_Or) (N := 9) (ci := 3) (kd := 15) (ct := ct) hx hb htb i_Or hown hK hP m0 rfl rfl 5 rfl (by decide) (htb (.fieldLink R_Or 23 "WaterMen$Order" "fareCount" "I") tw_246) (fun _ h9 => h9) rfl d_Or_addLine_9 ?_
  refine lv_iload_n hx hb d_Or_addLine_12 rfl (lv_at hl 2 rfl) ?_
  refine lv_iload_n hx hb d_Or_addLine_13 rfl (lv_at hl 3 rfl) ?_
  refine lv_iload hx hb d_Or_addLine_14 (lv_at hl 4 rfl) ?_
  have hFc := hb_free hD hS hA
  refine va_callv (va_runS (As := [.ref q_1, .int (ti f q0 5), .int p_1, .int p_2, .int p_3]) (rest := []) ⟨hx, hb, hml, hown, htb⟩ (c_Or_setLine_k16_w l dC dI ct L f hO_0 q_1 m_1 _ (ti f q0 5) p_1 p_2 p_3 bp_5.1 as_0 _ hQ) (cwS 5 htb (gd_S tw_306 tw_307 tw_250 tw_305) rfl rfl rfl (by decide +kernel) ⟨Nat.le_of_ble_eq_true rfl, Nat.le_of_ble_eq_true rfl⟩) ⟨pc_blind, pc_pre hP hK hD hN⟩ rfl rfl hl.1 rfl (lv_room (Nat.le_of_ble_eq_true rfl)) d_Or_addLine_16 ⟨Nat.le_of_ble_eq_true rfl, Nat.le_of_ble_eq_true rfl⟩) hS (fun q _ h => hFc q h) hFc (fun u t H locs ht hvm er hB hz1 hk1 hS => ?_)
  obtain ⟨L_1, f_1⟩ := u
  obtain ⟨hO_1, hE_1, er, hQ⟩ := er
  obtain ⟨hP, hK1, hD1⟩ := hB
  rw [ht] at hP
  have hP : va_P (dC, dI) vwCl (TW ct L_1 f_1) H := hP
  have hD : va_D A (TW ct L_1 f_1) := hD1.weaken (fun _ q _ h => hFc q.1 h)
  have hO_1 : Ok L_1 f_1 := hO_1
  have hE_1 : Ext W_Or_setLine_k16_w L f L_1 f_1 := hE_1
  clear hK1 hD1 ht hvm hz1 hk1
  have hA_1 := hA_0.trans hE_1
  have hQ := hQ hO_1 hE_1
  clear er
  refine lv_aload_n hx hb d_Or_addLine_19 rfl (lv_at hl 0 rfl) ?_
  refine lv_dup hx hb d_Or_addLine_20 rfl ?_
  refine tw_getI (x := (ti f q0 5)) (D := (dC, dI)) (C := R_Or) (T := F_Or) (N := 9) (ci := 3) (kd := 15) (ct := ct) hx hb htb i_Or hown hK hP (hA_1.m m0) rfl rfl 5 ((hA_1.ei m0 rfl).trans rfl) (by decide) (htb (.fieldLink R_Or 23 "WaterMen$Order" "fareCount" "I") tw_246) (fun _ h9 => h9) rfl d_Or_addLine_21 ?_
  refine lv_iconst (v := 1) hx hb d_Or_addLine_24 (by decide +kernel) ?_
  refine lv_iadd hx hb d_Or_addLine_25 ?_
  refine tw_puti (v := ((ti f q0 5) + 1)) (D := (dC, dI)) (C := R_Or) (T := F_Or) (N := 9) (ci := 3) (kd := 15) (ct := ct) (ty := .int) hx hb htb i_Or t_Or t_Or_ok n_Or hown hK hP hD hS hO_1 (hA_1.m m0) rfl rfl 5 (by decide) (htb (.fieldLink R_Or 23 "WaterMen$Order" "fareCount" "I") tw_246) (fun _ h9 => h9) rfl (by decide +kernel) rfl rfl rfl ⟨(show ¬ (((ti f q0 5) + 1) < 0) from ((fun (a_0 : Int32) (k_0 : ¬ (a_0 < 0)) (k_1 : ¬ (12 < a_0)) => (show ¬ ((a_0 + 1) < 0) from by have z0 : (0 : Int32).toInt = 0 := (by decide +kernel); have z1 : (1 : Int32).toInt = 1 := (by decide +kernel); have z2 : (12 : Int32).toInt = 12 := (by decide +kernel); have r0 := fb_rng (a_0); have e0 := k_0; rw [Int32.lt_iff_toInt_lt, z0] at e0; have e1 := k_1; rw [Int32.lt_iff_toInt_lt, z2] at e1; obtain ⟨n_0, hn_0, s0⟩ := nd_add (x := a_0) (y := (1 : Int32)) (by (try rw [z1]); omega) (by (try rw [z1]); omega); rw [z1] at s0; rw [hn_0, Int32.lt_iff_toInt_lt, z0]; omega)) (ti f q0 5) bp_5.1 bp_5.2)), (show ¬ (12 < ((ti f q0 5) + 1)) from ((fun (a_0 : Int32) (k_0 : ¬ (11 < a_0)) => (show ¬ (12 < (a_0 + 1)) from by have z0 : (1 : Int32).toInt = 1 := (by decide +kernel); have z1 : (11 : Int32).toInt = 11 := (by decide +kernel); have z2 : (12 : Int32).toInt = 12 := (by decide +kernel); have r0 := fb_rng (a_0); have e0 := k_0; rw [Int32.lt_iff_toInt_lt, z1] at e0; obtain ⟨n_0, hn_0, s0⟩ := nd_add (x := a_0) (y := (1 : Int32)) (by (try rw [z0]); omega) (by (try rw [z0]); omega); rw [z0] at s0; rw [hn_0, Int32.lt_iff_toInt_lt, z2]; omega)) (ti f q0 5) as_0))⟩ d_Or_addLine_26 (fun f_2 H locs hP hD hS hO_2 hE_2 w_3 hF_2 => ?_)
  have hA_2 := hA_1.trans hE_2
  have hQ := hQ f_2 hF_2
  have hQ := hQ hO_2
  refine lv_goto (tgt := 88) hx hb d_Or_addLine_29 (by decide) ?_
  refine W.widen (k := 0) (n := 0) (Nat.le_of_ble_eq_true rfl) (Nat.le_of_ble_eq_true rfl) ?_
  exact W.vret hx hb hr (fun t ht hW => ⟨⟨(L_1, f_2), rfl, ⟨hO_2, hA_2.mono (by decide +kernel), trivial, hQ⟩, by rw [ht]; exact hP, va_K.moved hW.alike hK, by rw [hAe]; exact hD⟩, by rw [hAe]; exact hS.F ht⟩) (by rw [hAe]; exact hS.2.2) d_Or_addLine_88
