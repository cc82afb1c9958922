def wpB_Md_rowOf_w_12_4 (L : List Nat) (f : TF) (q0 : Nat) (p_0 : Int32) (qT : Nat) (qS : Nat) (v2_2 : Int32) (rec_2 : Int32 → Prop) (Q : Int32 → Prop) (rec_4 : Int32 → Prop) (v3_4 : Int32) : Prop := ∀ x_5 : Int32, ti f qS (v2_2 : Int32).toNatClampNeg = x_5 → ((x_5 ≤ v3_4 → rec_2 (v2_2 + 1)) ∧ (¬ (x_5 ≤ v3_4) → ∀ x_7 : Int32, ti f qT (((40 * v2_2) + v3_4) : Int32).toNatClampNeg = x_7 → ((x_7 = p_0 → Q v2_2) ∧ (¬ (x_7 = p_0) → rec_4 (v3_4 + 1)))))
def wpL_Md_rowOf_w_12_4 (L : List Nat) (f : TF) (q0 : Nat) (p_0 : Int32) (qT : Nat) (qS : Nat) (v2_2 : Int32) (rec_2 : Int32 → Prop) (Q : Int32 → Prop) : Nat → Int32 → Prop
  | 0 => fun v3_4 => wpB_Md_rowOf_w_12_4 L f q0 p_0 qT qS v2_2 rec_2 Q (fun _ => True) v3_4
  | n + 1 => fun v3_4 => wpB_Md_rowOf_w_12_4 L f q0 p_0 qT qS v2_2 rec_2 Q (wpL_Md_rowOf_w_12_4 L f q0 p_0 qT qS v2_2 rec_2 Q n) v3_4
def wpR_Md_rowOf_w_12_4 (L : List Nat) (f : TF) (q0 : Nat) (p_0 : Int32) (qT : Nat) (qS : Nat) (v2_2 : Int32) (rec_2 : Int32 → Prop) (Q : Int32 → Prop) : Nat → Int32 → Prop
  | 0 => fun _ => True
  | n + 1 => wpL_Md_rowOf_w_12_4 L f q0 p_0 qT qS v2_2 rec_2 Q n
theorem wpL_Md_rowOf_w_12_4_eq {L : List Nat} {f : TF} {q0 : Nat} {p_0 : Int32} {qT : Nat} {qS : Nat} {v2_2 : Int32} {rec_2 : Int32 → Prop} {Q : Int32 → Prop} {n : Nat} : wpL_Md_rowOf_w_12_4 L f q0 p_0 qT qS v2_2 rec_2 Q n = wpB_Md_rowOf_w_12_4 L f q0 p_0 qT qS v2_2 rec_2 Q (wpR_Md_rowOf_w_12_4 L f q0 p_0 qT qS v2_2 rec_2 Q n) := by cases n <;> rfl
theorem wpR_Md_rowOf_w_12_4_pos {L : List Nat} {f : TF} {q0 : Nat} {p_0 : Int32} {qT : Nat} {qS : Nat} {v2_2 : Int32} {rec_2 : Int32 → Prop} {Q : Int32 → Prop} {n : Nat} (h : 0 < n) : wpR_Md_rowOf_w_12_4 L f q0 p_0 qT qS v2_2 rec_2 Q n = wpL_Md_rowOf_w_12_4 L f q0 p_0 qT qS v2_2 rec_2 Q (n - 1) := by
  cases n with
  | zero => omega
  | succ n => rfl
def wpB_Md_rowOf_w_2_2 (L : List Nat) (f : TF) (q0 : Nat) (p_0 : Int32) (qT : Nat) (qS : Nat) (Q : Int32 → Prop) (rec_2 : Int32 → Prop) (v2_2 : Int32) : Prop := (((ti f q0 2) ≤ v2_2 → Q (-1)) ∧ (¬ ((ti f q0 2) ≤ v2_2) → wpL_Md_rowOf_w_12_4 L f q0 p_0 qT qS v2_2 rec_2 Q (((40 : Int32).toInt - (0 : Int32).toInt).toNat) (0 : Int32)))
def wpL_Md_rowOf_w_2_2 (L : List Nat) (f : TF) (q0 : Nat) (p_0 : Int32) (qT : Nat) (qS : Nat) (Q : Int32 → Prop) : Nat → Int32 → Prop
  | 0 => fun v2_2 => wpB_Md_rowOf_w_2_2 L f q0 p_0 qT qS Q (fun _ => True) v2_2
  | n + 1 => fun v2_2 => wpB_Md_rowOf_w_2_2 L f q0 p_0 qT qS Q (wpL_Md_rowOf_w_2_2 L f q0 p_0 qT qS Q n) v2_2
def wpR_Md_rowOf_w_2_2 (L : List Nat) (f : TF) (q0 : Nat) (p_0 : Int32) (qT : Nat) (qS : Nat) (Q : Int32 → Prop) : Nat → Int32 → Prop
  | 0 => fun _ => True
  | n + 1 => wpL_Md_rowOf_w_2_2 L f q0 p_0 qT qS Q n
theorem wpL_Md_rowOf_w_2_2_eq {L : List Nat} {f : TF} {q0 : Nat} {p_0 : Int32} {qT : Nat} {qS : Nat} {Q : Int32 → Prop} {n : Nat} : wpL_Md_rowOf_w_2_2 L f q0 p_0 qT qS Q n = wpB_Md_rowOf_w_2_2 L f q0 p_0 qT qS Q (wpR_Md_rowOf_w_2_2 L f q0 p_0 qT qS Q n) := by cases n <;> rfl
theorem wpR_Md_rowOf_w_2_2_pos {L : List Nat} {f : TF} {q0 : Nat} {p_0 : Int32} {qT : Nat} {qS : Nat} {Q : Int32 → Prop} {n : Nat} (h : 0 < n) : wpR_Md_rowOf_w_2_2 L f q0 p_0 qT qS Q n = wpL_Md_rowOf_w_2_2 L f q0 p_0 qT qS Q (n - 1) := by
  cases n with
  | zero => omega
  | succ n => rfl
def wp_Md_rowOf_w (L : List Nat) (f : TF) (q0 : Nat) (p_0 : Int32) (Q : Int32 → Prop) : Prop := ∀ qT : Nat, tr f q0 20 = some qT → ∀ qS : Nat, tr f q0 19 = some qS → wpL_Md_rowOf_w_2_2 L f q0 p_0 qT qS Q (((12 : Int32).toInt - (0 : Int32).toInt).toNat) (0 : Int32)
set_option maxHeartbeats 4000000 in
set_option maxRecDepth 100000 in
theorem c_Md_rowOf_w (l : Launch) (dC : Nat → ClassId) (dI : Nat → Nat → Nat) (ct : Nat → ClassId) (L : List Nat) (f : TF) (hO_0 : Ok L f) (q0 : Nat) (m0 : q0 ∈ L ∧ tk f q0 = 27) (p_0 : Int32)   (Q : Int32 → Prop) (hQ : wp_Md_rowOf_w L f q0 p_0 Q) : Met l y_Md_rowOf (.code y_Md_rowOf b_Md_rowOf 4 (some .int) :: TB) ({ frames := 0, cells := 0, slots := 0, locals := 0 }) (va_Pc [.ref q0, .int p_0] (PR dC dI (TW ct L f) (TT ct))) (vp_Si (fun r => ((r = (-1) ∧ NotIn f q0 (ti f q0 2) p_0 ∧ True) ∨ (¬ (r < 0) ∧ ¬ (11 < r) ∧ ¬ ((ti f q0 2) ≤ r) ∧ IsIn f q0 r p_0 ∧ True)) ∧ Q r)) 0 0 (fun _ => False) := by
  refine Met.ofW (cc := b_Md_rowOf) (maxL := 4) (ret := (some .int)) (by decide) rfl ?_
  intro p e s m args below meth c s₁ B hml hv
  obtain ⟨rfl, hP, hK, hN⟩ := hv
  have hx := B.exec
  have hb := B.bytes
  have hr := B.returns
  have hts := atoms_spec (ws := (.code y_Md_rowOf b_Md_rowOf 4 (some .int) :: TB)) B.pre
  have htb := fun w (h : w ∈ TB) => hts w (List.mem_cons_of_mem _ h)
  have hown : s.vm.findClass R_Md = some m.cls := findClass_of_methodNamed B.named
  have hlocks := B.notSynchronized
  have hl := lv_entry ([.ref q0, .int p_0]) (n := 4) (Nat.le_of_ble_eq_true rfl)
  rw [lg_entry_eq]
  generalize (lg_sl ([.ref q0, .int p_0]) ++ List.replicate (4 - (lg_sl ([.ref q0, .int p_0])).length) Slot.unset).toArray = ls at hl ⊢
  have hl : lv_has ls 4 [(0, .ref q0), (1, .int p_0)] := hl
  unfold wp_Md_rowOf_w at hQ
  obtain ⟨qT, eqT, mqT⟩ := hO_0.r m0 (j := 20) (k' := 44) rfl
  have hQ := hQ qT eqT
  obtain ⟨qS, eqS, mqS⟩ := hO_0.r m0 (j := 19) (k' := 43) rfl
  have hQ := hQ qS eqS
  have bs_1 := hO_0.i m0 (show slotD 27 2 = some (.inl (0, 12)) from rfl)
  refine lv_iconst (v := 0) hx hb d_Md_rowOf_0 (by decide +kernel) ?_
  refine lv_istore_n (lv' := [(2, .int 0), (0, .ref q0), (1, .int p_0)]) hx hb d_Md_rowOf_1 rfl hl (by decide) rfl (fun ls hl => ?_)
  have cut_2 : ∀ (n_2 : Nat) (v2_2 : Int32) (ls : Array Slot), ¬ (v2_2 < 0) → ¬ (12 < v2_2) → TRows f qT qS p_0 (v2_2 : Int32).toNatClampNeg → (12 : Int32).toInt - (v2_2 : Int32).toInt ≤ (n_2 : Int) → wpL_Md_rowOf_w_2_2 L f q0 p_0 qT qS Q n_2 v2_2 → lv_has ls 4 [(0, .ref q0), (1, .int p_0), (2, .int v2_2)] → W p l e (headSpec (.code y_Md_rowOf b_Md_rowOf 4 (some .int) :: TB) ({ frames := 0, cells := 0, slots := 0, locals := 0 })).room s m [.ref q0, .int p_0].toArray below meth c s.heap [] 0 0 (MQ below (vp_Si (fun r => ((r = (-1) ∧ NotIn f q0 (ti f q0 2) p_0 ∧ True) ∨ (¬ (r < 0) ∧ ¬ (11 < r) ∧ ¬ ((ti f q0 2) ≤ r) ∧ IsIn f q0 r p_0 ∧ True)) ∧ Q r)) [.ref q0, .int p_0].toArray s 0 0 (fun _ => False)) (F0 m 2 ls []) := by
    intro n_2
    induction n_2 using Nat.strongRecOn with
    | _ n_2 ih_2 =>
      intro v2_2 ls iv0_2 iv1_2 rw_2 hm_2 hQ hl
      rw [wpL_Md_rowOf_w_2_2_eq] at hQ
      obtain ⟨rec_2, hrec_2⟩ : ∃ g, wpR_Md_rowOf_w_2_2 L f q0 p_0 qT qS Q n_2 = g := ⟨_, rfl⟩
      rw [hrec_2] at hQ
      unfold wpB_Md_rowOf_w_2_2 at hQ
      refine lv_iload_n hx hb d_Md_rowOf_2 rfl (lv_at hl 2 rfl) ?_
      refine lv_aload_n hx hb d_Md_rowOf_3 rfl (lv_at hl 0 rfl) ?_
      refine tw_getI (x := (ti f q0 2)) (D := (dC, dI)) (C := R_Md) (T := F_Md) (N := 64) (ci := 7) (kd := 27) (ct := ct) hx hb htb i_Md hown hK hP m0 rfl rfl 2 rfl (by decide) (htb (.fieldLink R_Md 14 "WaterMenModel" "stairs" "I") tw_97) (fun _ h9 => h9) rfl d_Md_rowOf_4 ?_
      refine lv_icmp_ge (tgt := 51) hx hb d_Md_rowOf_7 (by decide) (fun c_3 => ?_) (fun c_3 => ?_)
      · have hQ := hQ.1 c_3
        refine lv_iconst (v := (-1)) hx hb d_Md_rowOf_51 (by decide +kernel) ?_
        exact W.iret (v := (-1)) hx hb hr (fun t ht hW => ⟨(-1), rfl, ⟨(Or.inl ⟨rfl, (notin_end eqT eqS rw_2 iv0_2 c_3), trivial⟩), hQ⟩, ht⟩) t_nil d_Md_rowOf_52
      · have hQ := hQ.2 c_3
        refine lv_iconst (v := 0) hx hb d_Md_rowOf_10 (by decide +kernel) ?_
        refine lv_istore_n (lv' := [(3, .int 0), (0, .ref q0), (1, .int p_0), (2, .int v2_2)]) hx hb d_Md_rowOf_11 rfl hl (by decide) rfl (fun ls hl => ?_)
        have cut_4 : ∀ (n_4 : Nat) (v3_4 : Int32) (ls : Array Slot), ¬ (v3_4 < 0) → ¬ (40 < v3_4) → TOut f qT (v2_2 : Int32).toNatClampNeg p_0 (v3_4 : Int32).toNatClampNeg → (40 : Int32).toInt - (v3_4 : Int32).toInt ≤ (n_4 : Int) → wpL_Md_rowOf_w_12_4 L f q0 p_0 qT qS v2_2 rec_2 Q n_4 v3_4 → lv_has ls 4 [(0, .ref q0), (1, .int p_0), (2, .int v2_2), (3, .int v3_4)] → W p l e (headSpec (.code y_Md_rowOf b_Md_rowOf 4 (some .int) :: TB) ({ frames := 0, cells := 0, slots := 0, locals := 0 })).room s m [.ref q0, .int p_0].toArray below meth c s.heap [] 0 0 (MQ below (vp_Si (fun r => ((r = (-1) ∧ NotIn f q0 (ti f q0 2) p_0 ∧ True) ∨ (¬ (r < 0) ∧ ¬ (11 < r) ∧ ¬ ((ti f q0 2) ≤ r) ∧ IsIn f q0 r p_0 ∧ True)) ∧ Q r)) [.ref q0, .int p_0].toArray s 0 0 (fun _ => False)) (F0 m 12 ls []) := by
          intro n_4
          induction n_4 using Nat.strongRecOn with
          | _ n_4 ih_4 =>
            intro v3_4 ls iv0_4 iv1_4 rw_4 hm_4 hQ hl
            rw [wpL_Md_rowOf_w_12_4_eq] at hQ
            obtain ⟨rec_4, hrec_4⟩ : ∃ g, wpR_Md_rowOf_w_12_4 L f q0 p_0 qT qS v2_2 rec_2 Q n_4 = g := ⟨_, rfl⟩
            rw [hrec_4] at hQ
            unfold wpB_Md_rowOf_w_12_4 at hQ
            refine lv_iload_n hx hb d_Md_rowOf_12 rfl (lv_at hl 3 rfl) ?_
            refine lv_aload_n hx hb d_Md_rowOf_13 rfl (lv_at hl 0 rfl) ?_
            refine tw_getR (D := (dC, dI)) (C := R_Md) (T := F_Md) (N := 64) (ci := 7) (kd := 27) (ct := ct) hx hb htb i_Md hown hK hP m0 rfl rfl 19 eqS (by decide) (htb (.fieldLink R_Md 88 "WaterMenModel" "turns" "[I") tw_98) (fun _ h9 => h9) rfl d_Md_rowOf_14 ?_
            refine hb_tv (.ref qS) rfl ?_
            refine lv_iload_n hx hb d_Md_rowOf_17 rfl (lv_at hl 2 rfl) ?_
            refine tw_aldI (ct := ct) hx hb hK hP hO_0 mqS rfl ((fun (a_0 : Int32) (a_1 : Int32) (k_0 : ¬ (a_1 < 0)) (k_1 : ¬ (a_0 ≤ a_1)) (k_2 : ¬ (12 < a_0)) => (show vp_in (a_1) 12 from by have z0 : (0 : Int32).toInt = 0 := (by decide +kernel); have z1 : (12 : Int32).toInt = 12 := (by decide +kernel); have r0 := fb_rng (a_0); have r1 := fb_rng (a_1); have e0 := k_0; rw [Int32.lt_iff_toInt_lt, z0] at e0; have e1 := k_1; rw [Int32.le_iff_toInt_le] at e1; have e2 := k_2; rw [Int32.lt_iff_toInt_lt, z1] at e2; rw [vp_in_iff]; omega)) (ti f q0 2) v2_2 iv0_2 c_3 bs_1.2) d_Md_rowOf_18 (fun x_5 e_5 b_5 => ?_)
            have hQ := hQ x_5 e_5
            refine lv_icmp_ge (tgt := 45) hx hb d_Md_rowOf_19 (by decide) (fun c_6 => ?_) (fun c_6 => ?_)
            · have hQ := hQ.1 c_6
              refine lv_iinc (v := (v2_2 + 1)) (lv' := [(2, .int (v2_2 + 1)), (0, .ref q0), (1, .int p_0), (3, .int v3_4)]) hx hb d_Md_rowOf_45 hl (k := 2) rfl rfl (by decide) rfl (fun ls hl => ?_)
              refine lv_goto (tgt := 2) hx hb d_Md_rowOf_48 (by decide) ?_
              exact ih_2 (n_2 - 1) (ms_1 ((fun (a_0 : Int32) (a_1 : Int32) (k_0 : ¬ (a_0 ≤ a_1)) (k_1 : ¬ (12 < a_0)) => (show 1 ≤ (12 : Int32).toInt - (a_1).toInt ∧ (12 : Int32).toInt - ((a_1) + (1 : Int32)).toInt + 1 ≤ (12 : Int32).toInt - (a_1).toInt from by have z0 : (1 : Int32).toInt = 1 := (by decide +kernel); have z1 : (12 : Int32).toInt = 12 := (by decide +kernel); have r0 := fb_rng (a_0); have r1 := fb_rng (a_1); have e0 := k_0; rw [Int32.le_iff_toInt_le] at e0; have e1 := k_1; rw [Int32.lt_iff_toInt_lt, z1] at e1; obtain ⟨n_0, hn_0, s0⟩ := nd_add (x := (a_1)) (y := (1 : Int32)) (by (try rw [z0]); omega) (by (try rw [z0]); omega); rw [z0] at s0; rw [hn_0]; (try rw [z1]); omega)) (ti f q0 2) v2_2 c_3 bs_1.2) hm_2) (v2_2 + 1) _ (show ¬ ((v2_2 + 1) < 0) from by have e0 := iv0_2; rw [Int32.lt_iff_toInt_lt] at e0; have e1 := iv1_2; rw [Int32.lt_iff_toInt_lt] at e1; have z0 : (0 : Int32).toInt = 0 := (by decide +kernel); have z1 : (1 : Int32).toInt = 1 := (by decide +kernel); have z2 : (12 : Int32).toInt = 12 := (by decide +kernel); have ss := fb_addI (x := v2_2) (y := 1) (by omega) (by omega); rw [Int32.lt_iff_toInt_lt]; omega) (show ¬ (12 < (v2_2 + 1)) from ((fun (a_0 : Int32) (a_1 : Int32) (k_0 : ¬ (a_0 ≤ a_1)) (k_1 : ¬ (12 < a_0)) => (show ¬ (12 < (a_1 + 1)) from by have z0 : (1 : Int32).toInt = 1 := (by decide +kernel); have z1 : (12 : Int32).toInt = 12 := (by decide +kernel); have r0 := fb_rng (a_0); have r1 := fb_rng (a_1); have e0 := k_0; rw [Int32.le_iff_toInt_le] at e0; have e1 := k_1; rw [Int32.lt_iff_toInt_lt, z1] at e1; obtain ⟨n_0, hn_0, s0⟩ := nd_add (x := (a_1)) (y := (1 : Int32)) (by (try rw [z0]); omega) (by (try rw [z0]); omega); rw [z0] at s0; rw [hn_0, Int32.lt_iff_toInt_lt, z1]; omega)) (ti f q0 2) v2_2 c_3 bs_1.2)) (rows_next rw_2 rw_4 iv0_2 (show ¬ (11 < v2_2) from ((fun (a_0 : Int32) (a_1 : Int32) (k_0 : ¬ (a_0 ≤ a_1)) (k_1 : ¬ (12 < a_0)) => (show ¬ (11 < a_1) from by have z0 : (11 : Int32).toInt = 11 := (by decide +kernel); have z1 : (12 : Int32).toInt = 12 := (by decide +kernel); have r0 := fb_rng (a_0); have r1 := fb_rng (a_1); have e0 := k_0; rw [Int32.le_iff_toInt_le] at e0; have e1 := k_1; rw [Int32.lt_iff_toInt_lt, z1] at e1; rw [Int32.lt_iff_toInt_lt, z0]; omega)) (ti f q0 2) v2_2 c_3 bs_1.2)) iv0_4 b_5.1 e_5 c_6) (by exact ms_2 ((fun (a_0 : Int32) (a_1 : Int32) (k_0 : ¬ (a_0 ≤ a_1)) (k_1 : ¬ (12 < a_0)) => (show 1 ≤ (12 : Int32).toInt - (a_1).toInt ∧ (12 : Int32).toInt - ((a_1) + (1 : Int32)).toInt + 1 ≤ (12 : Int32).toInt - (a_1).toInt from by have z0 : (1 : Int32).toInt = 1 := (by decide +kernel); have z1 : (12 : Int32).toInt = 12 := (by decide +kernel); have r0 := fb_rng (a_0); have r1 := fb_rng (a_1); have e0 := k_0; rw [Int32.le_iff_toInt_le] at e0; have e1 := k_1; rw [Int32.lt_iff_toInt_lt, z1] at e1; obtain ⟨n_0, hn_0, s0⟩ := nd_add (x := (a_1)) (y := (1 : Int32)) (by (try rw [z0]); omega) (by (try rw [z0]); omega); rw [z0] at s0; rw [hn_0]; (try rw [z1]); omega)) (ti f q0 2) v2_2 c_3 bs_1.2) hm_2) (by rw [← hrec_2, wpR_Md_rowOf_w_2_2_pos (ms_3 ((fun (a_0 : Int32) (a_1 : Int32) (k_0 : ¬ (a_0 ≤ a_1)) (k_1 : ¬ (12 < a_0)) => (show 1 ≤ (12 : Int32).toInt - (a_1).toInt ∧ (12 : Int32).toInt - ((a_1) + (1 : Int32)).toInt + 1 ≤ (12 : Int32).toInt - (a_1).toInt from by have z0 : (1 : Int32).toInt = 1 := (by decide +kernel); have z1 : (12 : Int32).toInt = 12 := (by decide +kernel); have r0 := fb_rng (a_0); have r1 := fb_rng (a_1); have e0 := k_0; rw [Int32.le_iff_toInt_le] at e0; have e1 := k_1; rw [Int32.lt_iff_toInt_lt, z1] at e1; obtain ⟨n_0, hn_0, s0⟩ := nd_add (x := (a_1)) (y := (1 : Int32)) (by (try rw [z0]); omega) (by (try rw [z0]); omega); rw [z0] at s0; rw [hn_0]; (try rw [z1]); omega)) (ti f q0 2) v2_2 c_3 bs_1.2) hm_2)] at hQ; exact hQ) (lv_sub hl [1, 2, 0] rfl)
            · have hQ := hQ.2 c_6
              refine lv_aload_n hx hb d_Md_rowOf_22 rfl (lv_at hl 0 rfl) ?_
              refine tw_getR (D := (dC, dI)) (C := R_Md) (T := F_Md) (N := 64) (ci := 7) (kd := 27) (ct := ct) hx hb htb i_Md hown hK hP m0 rfl rfl 20 eqT (by decide) (htb (.fieldLink R_Md 91 "WaterMenModel" "turn" "[I") tw_99) (fun _ h9 => h9) rfl d_Md_rowOf_23 ?_
              refine hb_tv (.ref qT) rfl ?_
              refine lv_bipush (v := 40) hx hb d_Md_rowOf_26 (by decide +kernel) ?_
              refine lv_iload_n hx hb d_Md_rowOf_28 rfl (lv_at hl 2 rfl) ?_
              refine lv_imul hx hb d_Md_rowOf_29 ?_
              refine lv_iload_n hx hb d_Md_rowOf_30 rfl (lv_at hl 3 rfl) ?_
              refine lv_iadd hx hb d_Md_rowOf_31 ?_
              refine tw_aldI (ct := ct) hx hb hK hP hO_0 mqT rfl ((fun (a_0 : Int32) (a_1 : Int32) (a_2 : Int32) (a_3 : Int32) (k_0 : ¬ (a_1 < 0)) (k_1 : ¬ (a_0 ≤ a_1)) (k_2 : ¬ (a_2 < 0)) (k_3 : ¬ (a_3 ≤ a_2)) (k_4 : ¬ (12 < a_0)) (k_5 : ¬ (40 < a_3)) => (show vp_in (((40 * a_1) + a_2)) 480 from by have z0 : (0 : Int32).toInt = 0 := (by decide +kernel); have z1 : (12 : Int32).toInt = 12 := (by decide +kernel); have z2 : (40 : Int32).toInt = 40 := (by decide +kernel); have r0 := fb_rng (a_0); have r1 := fb_rng (a_1); have r2 := fb_rng (a_2); have r3 := fb_rng (a_3); have e0 := k_0; rw [Int32.lt_iff_toInt_lt, z0] at e0; have e1 := k_1; rw [Int32.le_iff_toInt_le] at e1; have e2 := k_2; rw [Int32.lt_iff_toInt_lt, z0] at e2; have e3 := k_3; rw [Int32.le_iff_toInt_le] at e3; have e4 := k_4; rw [Int32.lt_iff_toInt_lt, z1] at e4; have e5 := k_5; rw [Int32.lt_iff_toInt_lt, z2] at e5; obtain ⟨n_0, hn_0, s0⟩ := nd_mul (x := (40 : Int32)) (y := (a_1)) (by (try rw [z2]); omega) (by (try rw [z2]); omega); rw [z2] at s0; obtain ⟨n_1, hn_1, s1⟩ := nd_add (x := n_0) (y := (a_2)) (by omega) (by omega); rw [hn_0, hn_1, vp_in_iff]; omega)) (ti f q0 2) v2_2 v3_4 x_5 iv0_2 c_3 iv0_4 c_6 bs_1.2 b_5.2) d_Md_rowOf_32 (fun x_7 e_7 b_7 => ?_)
              have hQ := hQ x_7 e_7
              refine lv_iload_n hx hb d_Md_rowOf_33 rfl (lv_at hl 1 rfl) ?_
              refine lv_icmp_ne (tgt := 39) hx hb d_Md_rowOf_34 (by decide) (fun c_8 => ?_) (fun c_8 => ?_)
              · have hQ := hQ.2 c_8
                refine lv_iinc (v := (v3_4 + 1)) (lv' := [(3, .int (v3_4 + 1)), (0, .ref q0), (1, .int p_0), (2, .int v2_2)]) hx hb d_Md_rowOf_39 hl (k := 3) rfl rfl (by decide) rfl (fun ls hl => ?_)
                refine lv_goto (tgt := 12) hx hb d_Md_rowOf_42 (by decide) ?_
                exact ih_4 (n_4 - 1) (ms_1 ((fun (a_0 : Int32) (a_1 : Int32) (k_0 : ¬ (a_1 ≤ a_0)) (k_1 : ¬ (40 < a_1)) => (show 1 ≤ (40 : Int32).toInt - (a_0).toInt ∧ (40 : Int32).toInt - ((a_0) + (1 : Int32)).toInt + 1 ≤ (40 : Int32).toInt - (a_0).toInt from by have z0 : (1 : Int32).toInt = 1 := (by decide +kernel); have z1 : (40 : Int32).toInt = 40 := (by decide +kernel); have r0 := fb_rng (a_0); have r1 := fb_rng (a_1); have e0 := k_0; rw [Int32.le_iff_toInt_le] at e0; have e1 := k_1; rw [Int32.lt_iff_toInt_lt, z1] at e1; obtain ⟨n_0, hn_0, s0⟩ := nd_add (x := (a_0)) (y := (1 : Int32)) (by (try rw [z0]); omega) (by (try rw [z0]); omega); rw [z0] at s0; rw [hn_0]; (try rw [z1]); omega)) v3_4 x_5 c_6 b_5.2) hm_4) (v3_4 + 1) _ (show ¬ ((v3_4 + 1) < 0) from by have e0 := iv0_4; rw [Int32.lt_iff_toInt_lt] at e0; have e1 := iv1_4; rw [Int32.lt_iff_toInt_lt] at e1; have z0 : (0 : Int32).toInt = 0 := (by decide +kernel); have z1 : (1 : Int32).toInt = 1 := (by decide +kernel); have z2 : (40 : Int32).toInt = 40 := (by decide +kernel); have ss := fb_addI (x := v3_4) (y := 1) (by omega) (by omega); rw [Int32.lt_iff_toInt_lt]; omega) (show ¬ (40 < (v3_4 + 1)) from ((fun (a_0 : Int32) (a_1 : Int32) (k_0 : ¬ (a_1 ≤ a_0)) (k_1 : ¬ (40 < a_1)) => (show ¬ (40 < (a_0 + 1)) from by have z0 : (1 : Int32).toInt = 1 := (by decide +kernel); have z1 : (40 : Int32).toInt = 40 := (by decide +kernel); have r0 := fb_rng (a_0); have r1 := fb_rng (a_1); have e0 := k_0; rw [Int32.le_iff_toInt_le] at e0; have e1 := k_1; rw [Int32.lt_iff_toInt_lt, z1] at e1; obtain ⟨n_0, hn_0, s0⟩ := nd_add (x := (a_0)) (y := (1 : Int32)) (by (try rw [z0]); omega) (by (try rw [z0]); omega); rw [z0] at s0; rw [hn_0, Int32.lt_iff_toInt_lt, z1]; omega)) v3_4 x_5 c_6 b_5.2)) (out_next rw_4 iv0_2 (show ¬ (11 < v2_2) from ((fun (a_0 : Int32) (a_1 : Int32) (k_0 : ¬ (a_0 ≤ a_1)) (k_1 : ¬ (12 < a_0)) => (show ¬ (11 < a_1) from by have z0 : (11 : Int32).toInt = 11 := (by decide +kernel); have z1 : (12 : Int32).toInt = 12 := (by decide +kernel); have r0 := fb_rng (a_0); have r1 := fb_rng (a_1); have e0 := k_0; rw [Int32.le_iff_toInt_le] at e0; have e1 := k_1; rw [Int32.lt_iff_toInt_lt, z1] at e1; rw [Int32.lt_iff_toInt_lt, z0]; omega)) (ti f q0 2) v2_2 c_3 bs_1.2)) iv0_4 iv1_4 e_7 c_8) (by exact ms_2 ((fun (a_0 : Int32) (a_1 : Int32) (k_0 : ¬ (a_1 ≤ a_0)) (k_1 : ¬ (40 < a_1)) => (show 1 ≤ (40 : Int32).toInt - (a_0).toInt ∧ (40 : Int32).toInt - ((a_0) + (1 : Int32)).toInt + 1 ≤ (40 : Int32).toInt - (a_0).toInt from by have z0 : (1 : Int32).toInt = 1 := (by decide +kernel); have z1 : (40 : Int32).toInt = 40 := (by decide +kernel); have r0 := fb_rng (a_0); have r1 := fb_rng (a_1); have e0 := k_0; rw [Int32.le_iff_toInt_le] at e0; have e1 := k_1; rw [Int32.lt_iff_toInt_lt, z1] at e1; obtain ⟨n_0, hn_0, s0⟩ := nd_add (x := (a_0)) (y := (1 : Int32)) (by (try rw [z0]); omega) (by (try rw [z0]); omega); rw [z0] at s0; rw [hn_0]; (try rw [z1]); omega)) v3_4 x_5 c_6 b_5.2) hm_4) (by rw [← hrec_4, wpR_Md_rowOf_w_12_4_pos (ms_3 ((fun (a_0 : Int32) (a_1 : Int32) (k_0 : ¬ (a_1 ≤ a_0)) (k_1 : ¬ (40 < a_1)) => (show 1 ≤ (40 : Int32).toInt - (a_0).toInt ∧ (40 : Int32).toInt - ((a_0) + (1 : Int32)).toInt + 1 ≤ (40 : Int32).toInt - (a_0).toInt from by have z0 : (1 : Int32).toInt = 1 := (by decide +kernel); have z1 : (40 : Int32).toInt = 40 := (by decide +kernel); have r0 := fb_rng (a_0); have r1 := fb_rng (a_1); have e0 := k_0; rw [Int32.le_iff_toInt_le] at e0; have e1 := k_1; rw [Int32.lt_iff_toInt_lt, z1] at e1; obtain ⟨n_0, hn_0, s0⟩ := nd_add (x := (a_0)) (y := (1 : Int32)) (by (try rw [z0]); omega) (by (try rw [z0]); omega); rw [z0] at s0; rw [hn_0]; (try rw [z1]); omega)) v3_4 x_5 c_6 b_5.2) hm_4)] at hQ; exact hQ) (lv_sub hl [1, 2, 3, 0] rfl)
              · have hQ := hQ.1 c_8
                refine lv_iload_n hx hb d_Md_rowOf_37 rfl (lv_at hl 2 rfl) ?_
                exact W.iret (v := v2_2) hx hb hr (fun t ht hW => ⟨v2_2, rfl, ⟨(Or.inr ⟨iv0_2, (show ¬ (11 < v2_2) from ((fun (a_0 : Int32) (a_1 : Int32) (k_0 : ¬ (a_0 ≤ a_1)) (k_1 : ¬ (12 < a_0)) => (show ¬ (11 < a_1) from by have z0 : (11 : Int32).toInt = 11 := (by decide +kernel); have z1 : (12 : Int32).toInt = 12 := (by decide +kernel); have r0 := fb_rng (a_0); have r1 := fb_rng (a_1); have e0 := k_0; rw [Int32.le_iff_toInt_le] at e0; have e1 := k_1; rw [Int32.lt_iff_toInt_lt, z1] at e1; rw [Int32.lt_iff_toInt_lt, z0]; omega)) (ti f q0 2) v2_2 c_3 bs_1.2)), c_3, (isin_end eqT eqS iv0_2 (show ¬ (11 < v2_2) from ((fun (a_0 : Int32) (a_1 : Int32) (k_0 : ¬ (a_0 ≤ a_1)) (k_1 : ¬ (12 < a_0)) => (show ¬ (11 < a_1) from by have z0 : (11 : Int32).toInt = 11 := (by decide +kernel); have z1 : (12 : Int32).toInt = 12 := (by decide +kernel); have r0 := fb_rng (a_0); have r1 := fb_rng (a_1); have e0 := k_0; rw [Int32.le_iff_toInt_le] at e0; have e1 := k_1; rw [Int32.lt_iff_toInt_lt, z1] at e1; rw [Int32.lt_iff_toInt_lt, z0]; omega)) (ti f q0 2) v2_2 c_3 bs_1.2)) iv0_4 iv1_4 e_5 c_6 e_7 c_8), trivial⟩), hQ⟩, ht⟩) t_nil d_Md_rowOf_38
        exact cut_4 ((40 : Int32).toInt - (0 : Int32).toInt).toNat (0 : Int32) _ (by decide +kernel) (by decide +kernel) out_0 (by exact ms_e _ _) hQ (lv_sub hl [1, 2, 3, 0] rfl)
  exact cut_2 ((12 : Int32).toInt - (0 : Int32).toInt).toNat (0 : Int32) _ (by decide +kernel) (by decide +kernel) rows_0 (by exact ms_e _ _) hQ (lv_sub hl [1, 2, 0] rfl)
def W_Md_join_w : List (Nat × Nat) := [(43, 1000), (44, 1000)]
def wp_Md_join_w (L : List Nat) (f : TF) (q0 : Nat) (p_0 : Int32) (p_1 : Int32) (Q : Int32 → List Nat → TF → Prop) : Prop := ∀ qT : Nat, tr f q0 20 = some qT → ∀ qS : Nat, tr f q0 19 = some qS → wp_Md_isStairs_w L f q0 p_0 (fun (r_2 : Int32) => ((r_2 = 0 → Q (-1) L f) ∧ (r_2 = 1 → ((p_1 < 0 → Q (-1) L f) ∧ (¬ (p_1 < 0) → ((39 < p_1 → Q (-1) L f) ∧ (¬ (39 < p_1) → ∀ q_9 : Nat, tr f q0 9 = some q_9 → ∀ x_10 : Int32, ti f q_9 (p_1 : Int32).toNatClampNeg = x_10 → ((x_10 = 2 → ∀ q_12 : Nat, tr f q0 16 = some q_12 → ∀ x_13 : Int32, ti f q_12 (p_1 : Int32).toNatClampNeg = x_13 → ((0 ≤ x_13 → Q (-2) L f) ∧ (¬ (0 ≤ x_13) → wp_Md_rowOf_w L f q0 p_1 (fun (r_15 : Int32) => ((r_15 = (-1) → ∀ x_21 : Int32, ti f qS (p_0 : Int32).toNatClampNeg = x_21 → ∀ f_1 : TF, f_1 = sI f qT (((40 * p_0) + x_21) : Int32).toNatClampNeg p_1 → Ok L f_1 → ∀ f_2 : TF, f_2 = sI f_1 qS (p_0 : Int32).toNatClampNeg (x_21 + 1) → Ok L f_2 → Q (x_21 + 1) L f_2) ∧ (¬ (r_15 = (-1)) → Q (-2) L f)))))) ∧ (¬ (x_10 = 2) → Q (-2) L f)))))))))
set_option maxHeartbeats 4000000 in
set_option maxRecDepth 100000 in
theorem c_Md_join_w (l : Launch) (dC : Nat → ClassId) (dI : Nat → Nat → Nat) (ct : Nat → ClassId) (L : List Nat) (f : TF) (hO_0 : Ok L f) (q0 : Nat) (m0 : q0 ∈ L ∧ tk f q0 = 27) (hT : TInv f q0) (sz : Nat) (p_0 : Int32) (p_1 : Int32)   (Q : Int32 → List Nat → TF → Prop) (hQ : wp_Md_join_w L f q0 p_0 p_1 Q) : Met l y_Md_join (.code y_Md_join b_Md_join 3 (some .int) :: TB) ({ frames := 2, cells := 0, slots := 0, locals := 43 }) (va_Pc [.ref q0, .int p_0, .int p_1] (PC dC dI (TW ct L f) (TT ct) sz)) (va_Qi (fun r (u : TSt) => Ok u.1 u.2 ∧ Ext W_Md_join_w L f u.1 u.2 ∧ TInv u.2 q0 ∧ (True) ∧ Q r u.1 u.2) (fun (u : TSt) t => va_P (dC, dI) vwCl (TW ct u.1 u.2) t.heap ∧ va_K (dC, dI) vwCl (TT ct) t ∧ va_D (va_A (TW ct L f) sz) (TW ct u.1 u.2)) (va_A (TW ct L f) sz)) 0 0 (va_A (TW ct L f) sz) := by
  refine Met.ofW (cc := b_Md_join) (maxL := 3) (ret := (some .int)) (by decide) rfl ?_
  intro p e s m args below meth c s₁ B hml hv
  obtain ⟨rfl, hsz, hP, hK, hD0, hN⟩ := hv
  have hx := B.exec
  have hb := B.bytes
  have hr := B.returns
  have hts := atoms_spec (ws := (.code y_Md_join b_Md_join 3 (some .int) :: TB)) B.pre
  have htb := fun w (h : w ∈ TB) => hts w (List.mem_cons_of_mem _ h)
  have hown : s.vm.findClass R_Md = some m.cls := findClass_of_methodNamed B.named
  have hlocks := B.notSynchronized
  have hl := lv_entry ([.ref q0, .int p_0, .int p_1]) (n := 3) (Nat.le_of_ble_eq_true rfl)
  rw [lg_entry_eq]
  generalize (lg_sl ([.ref q0, .int p_0, .int p_1]) ++ List.replicate (3 - (lg_sl ([.ref q0, .int p_0, .int p_1])).length) Slot.unset).toArray = ls at hl ⊢
  have hl : lv_has ls 3 [(0, .ref q0), (1, .int p_0), (2, .int p_1)] := hl
  subst hsz
  have hD := hD0.self (sz := s.heap.size)
  obtain ⟨A, hAe⟩ : ∃ A, va_A (TW ct L f) s.heap.size = A := ⟨_, rfl⟩
  rw [hAe] at hD
  have hA : ∀ q : Nat, s.heap.size ≤ q → A q := fun q h => by rw [← hAe]; exact Or.inr h
  have hS : va_S A s.heap s.heap [] := va_S.rf
  have hA_0 : Ext [] L f L f := Ext.rf
  suffices hGo : ∀ (H : Heap) (locs : List Loc), va_P (dC, dI) vwCl (TW ct L f) H → va_S A s.heap H locs → W p l e (headSpec (.code y_Md_join b_Md_join 3 (some .int) :: TB) ({ frames := 2, cells := 0, slots := 0, locals := 43 })).room s m [.ref q0, .int p_0, .int p_1].toArray below meth c H locs 0 0 (MQ below (va_Qi (fun r (u : TSt) => Ok u.1 u.2 ∧ Ext W_Md_join_w L f u.1 u.2 ∧ TInv u.2 q0 ∧ (True) ∧ Q r u.1 u.2) (fun (u : TSt) t => va_P (dC, dI) vwCl (TW ct u.1 u.2) t.heap ∧ va_K (dC, dI) vwCl (TT ct) t ∧ va_D (va_A (TW ct L f) s.heap.size) (TW ct u.1 u.2)) (va_A (TW ct L f) s.heap.size)) [.ref q0, .int p_0, .int p_1].toArray s 0 0 (va_A (TW ct L f) s.heap.size)) (F0 m 0 ls []) from hGo _ _ hP hS
  clear hP hS
  intro H locs hP hS
  unfold wp_Md_join_w at hQ
  obtain ⟨qT, eqT, mqT⟩ := hO_0.r m0 (j := 20) (k' := 44) rfl
  have hQ := hQ qT eqT
  obtain ⟨qS, eqS, mqS⟩ := hO_0.r m0 (j := 19) (k' := 43) rfl
  have hQ := hQ qS eqS
  have bs_1 := hO_0.i m0 (show slotD 27 2 = some (.inl (0, 12)) from rfl)
  refine lv_aload_n hx hb d_Md_join_0 rfl (lv_at hl 0 rfl) ?_
  refine lv_iload_n hx hb d_Md_join_1 rfl (lv_at hl 1 rfl) ?_
  refine vp_callSi (va_Run.run (va_runV (As := [.int p_0]) (rest := []) ⟨hx, hb, hml, hown, htb⟩ (c_Md_isStairs_w l dC dI ct L f hO_0 q0 m0 p_0 _ hQ) (cwV 1 htb (gd_V tw_439 tw_440 tw_441 tw_89 tw_438) rfl rfl rfl (by decide +kernel) ⟨Nat.le_of_ble_eq_true rfl, Nat.le_of_ble_eq_true rfl⟩) ⟨pr_blind, tw_recv hK hP m0 rfl rfl, pr_pre hP hK hN⟩ rfl rfl hl.1 rfl (lv_room (Nat.le_of_ble_eq_true rfl)) d_Md_join_2 ⟨Nat.le_of_ble_eq_true rfl, Nat.le_of_ble_eq_true rfl⟩)) (fun r_2 er_2 => ?_)
  obtain ⟨er_2, hQ⟩ := er_2
  rcases er_2 with ⟨rfl, -⟩ | ⟨rfl, po_3, po_4, po_5, -⟩
  · have hQ := hQ.1 rfl
    refine lv_if_eq (tgt := 15) hx hb d_Md_join_5 (by decide) (fun _ => ?_) (fun h => absurd (by decide +kernel) h)
    refine lv_iconst (v := (-1)) hx hb d_Md_join_15 (by decide +kernel) ?_
    refine W.widen (k := 0) (n := 0) (Nat.le_of_ble_eq_true rfl) (Nat.le_of_ble_eq_true rfl) ?_
    exact W.iret (v := (-1)) hx hb hr (fun t ht hW => ⟨⟨(-1), (L, f), rfl, ⟨hO_0, hA_0.mono (by decide +kernel), hT, trivial, hQ⟩, by rw [ht]; exact hP, va_K.moved hW.alike hK, by rw [hAe]; exact hD⟩, by rw [hAe]; exact hS.F ht⟩) (by rw [hAe]; exact hS.2.2) d_Md_join_16
  · have hQ := hQ.2 rfl
    refine lv_if_eq (tgt := 15) hx hb d_Md_join_5 (by decide) (fun h => absurd h (by decide +kernel)) (fun _ => ?_)
    refine lv_iload_n hx hb d_Md_join_8 rfl (lv_at hl 2 rfl) ?_
    refine vp_callSi (va_Run.run (va_runS (As := [.int p_1]) (rest := []) ⟨hx, hb, hml, hown, htb⟩ (c_Md_isMan l p_1) (cwS 1 htb (gd_S tw_93 tw_94 tw_89 tw_92) rfl rfl rfl (by decide +kernel) ⟨Nat.le_of_ble_eq_true rfl, Nat.le_of_ble_eq_true rfl⟩) ⟨fun _ _ _ _ h => h, fun U _ _ => ⟨rfl, trivial⟩⟩ rfl rfl hl.1 rfl (lv_room (Nat.le_of_ble_eq_true rfl)) d_Md_join_9 ⟨Nat.le_of_ble_eq_true rfl, Nat.le_of_ble_eq_true rfl⟩)) (fun r er => ?_)
    subst er
    by_cases c_7 : p_1 < 0
    · have hQ := hQ.1 c_7
      refine hb_ti 0 (by unfold f_Md_isMan; rw [if_pos c_7]; first | done | rfl) ?_
      refine lv_if_ne (tgt := 17) hx hb d_Md_join_12 (by decide) (fun h => absurd (by decide +kernel) h) (fun _ => ?_)
      refine lv_iconst (v := (-1)) hx hb d_Md_join_15 (by decide +kernel) ?_
      refine W.widen (k := 0) (n := 0) (Nat.le_of_ble_eq_true rfl) (Nat.le_of_ble_eq_true rfl) ?_
      exact W.iret (v := (-1)) hx hb hr (fun t ht hW => ⟨⟨(-1), (L, f), rfl, ⟨hO_0, hA_0.mono (by decide +kernel), hT, trivial, hQ⟩, by rw [ht]; exact hP, va_K.moved hW.alike hK, by rw [hAe]; exact hD⟩, by rw [hAe]; exact hS.F ht⟩) (by rw [hAe]; exact hS.2.2) d_Md_join_16
    · have hQ := hQ.2 c_7
      by_cases c_8 : 39 < p_1
      · have hQ := hQ.1 c_8
        refine hb_ti 0 (by unfold f_Md_isMan; rw [if_neg c_7, if_pos c_8]; first | done | rfl) ?_
        refine lv_if_ne (tgt := 17) hx hb d_Md_join_12 (by decide) (fun h => absurd (by decide +kernel) h) (fun _ => ?_)
        refine lv_iconst (v := (-1)) hx hb d_Md_join_15 (by decide +kernel) ?_
        refine W.widen (k := 0) (n := 0) (Nat.le_of_ble_eq_true rfl) (Nat.le_of_ble_eq_true rfl) ?_
        exact W.iret (v := (-1)) hx hb hr (fun t ht hW => ⟨⟨(-1), (L, f), rfl, ⟨hO_0, hA_0.mono (by decide +kernel), hT, trivial, hQ⟩, by rw [ht]; exact hP, va_K.moved hW.alike hK, by rw [hAe]; exact hD⟩, by rw [hAe]; exact hS.F ht⟩) (by rw [hAe]; exact hS.2.2) d_Md_join_16
      · have hQ := hQ.2 c_8
        refine hb_ti 1 (by unfold f_Md_isMan; rw [if_neg c_7, if_neg c_8]; first | done | rfl) ?_
        refine lv_if_ne (tgt := 17) hx hb d_Md_join_12 (by decide) (fun _ => ?_) (fun h => absurd h (by decide +kernel))
        refine lv_aload_n hx hb d_Md_join_17 rfl (lv_at hl 0 rfl) ?_
        refine tw_getr (D := (dC, dI)) (C := R_Md) (T := F_Md) (N := 64) (ci := 7) (kd := 27) (ct := ct) hx hb htb i_Md hown hK hP hO_0 m0 rfl rfl 9 (by decide) (htb (.fieldLink R_Md 58 "WaterMenModel" "state" "[I") tw_95) (fun _ h9 => h9) rfl d_Md_join_18 (fun q_9 e_9 m_9 => ?_)
        have hQ := hQ q_9 e_9
        refine lv_iload_n hx hb d_Md_join_21 rfl (lv_at hl 2 rfl) ?_
        refine tw_aldI (ct := ct) hx hb hK hP hO_0 m_9 rfl (hb_inl c_7 c_8 (by decide +kernel)) d_Md_join_22 (fun x_10 e_10 b_10 => ?_)
        have hQ := hQ x_10 e_10
        refine lv_iconst (v := 2) hx hb d_Md_join_23 (by decide +kernel) ?_
        refine lv_icmp_ne (tgt := 44) hx hb d_Md_join_24 (by decide) (fun c_11 => ?_) (fun c_11 => ?_)
        · have hQ := hQ.2 c_11
          refine lv_bipush (v := (-2)) hx hb d_Md_join_44 (by decide +kernel) ?_
          refine W.widen (k := 0) (n := 0) (Nat.le_of_ble_eq_true rfl) (Nat.le_of_ble_eq_true rfl) ?_
          exact W.iret (v := (-2)) hx hb hr (fun t ht hW => ⟨⟨(-2), (L, f), rfl, ⟨hO_0, hA_0.mono (by decide +kernel), hT, trivial, hQ⟩, by rw [ht]; exact hP, va_K.moved hW.alike hK, by rw [hAe]; exact hD⟩, by rw [hAe]; exact hS.F ht⟩) (by rw [hAe]; exact hS.2.2) d_Md_join_46
        · have hQ := hQ.1 c_11
          refine lv_aload_n hx hb d_Md_join_27 rfl (lv_at hl 0 rfl) ?_
          refine tw_getr (D := (dC, dI)) (C := R_Md) (T := F_Md) (N := 64) (ci := 7) (kd := 27) (ct := ct) hx hb htb i_Md hown hK hP hO_0 m0 rfl rfl 16 (by decide) (htb (.fieldLink R_Md 79 "WaterMenModel" "wayOf" "[I") tw_109) (fun _ h9 => h9) rfl d_Md_join_28 (fun q_12 e_12 m_12 => ?_)
          have hQ := hQ q_12 e_12
          refine lv_iload_n hx hb d_Md_join_31 rfl (lv_at hl 2 rfl) ?_
          refine tw_aldI (ct := ct) hx hb hK hP hO_0 m_12 rfl (hb_inl c_7 c_8 (by decide +kernel)) d_Md_join_32 (fun x_13 e_13 b_13 => ?_)
          have hQ := hQ x_13 e_13
          refine lv_if_ge (tgt := 44) hx hb d_Md_join_33 (by decide) (fun c_14 => ?_) (fun c_14 => ?_)
          · have hQ := hQ.1 c_14
            refine lv_bipush (v := (-2)) hx hb d_Md_join_44 (by decide +kernel) ?_
            refine W.widen (k := 0) (n := 0) (Nat.le_of_ble_eq_true rfl) (Nat.le_of_ble_eq_true rfl) ?_
            exact W.iret (v := (-2)) hx hb hr (fun t ht hW => ⟨⟨(-2), (L, f), rfl, ⟨hO_0, hA_0.mono (by decide +kernel), hT, trivial, hQ⟩, by rw [ht]; exact hP, va_K.moved hW.alike hK, by rw [hAe]; exact hD⟩, by rw [hAe]; exact hS.F ht⟩) (by rw [hAe]; exact hS.2.2) d_Md_join_46
          · have hQ := hQ.2 c_14
            refine lv_aload_n hx hb d_Md_join_36 rfl (lv_at hl 0 rfl) ?_
            refine lv_iload_n hx hb d_Md_join_37 rfl (lv_at hl 2 rfl) ?_
            refine vp_callSi (va_Run.run (va_runV (As := [.int p_1]) (rest := []) ⟨hx, hb, hml, hown, htb⟩ (c_Md_rowOf_w l dC dI ct L f hO_0 q0 m0 p_1 _ hQ) (cwV 1 htb (gd_V tw_101 tw_102 tw_103 tw_89 tw_100) rfl rfl rfl (by decide +kernel) ⟨Nat.le_of_ble_eq_true rfl, Nat.le_of_ble_eq_true rfl⟩) ⟨pr_blind, tw_recv hK hP m0 rfl rfl, pr_pre hP hK hN⟩ rfl rfl hl.1 rfl (lv_room (Nat.le_of_ble_eq_true rfl)) d_Md_join_38 ⟨Nat.le_of_ble_eq_true rfl, Nat.le_of_ble_eq_true rfl⟩)) (fun r_15 er_15 => ?_)
            obtain ⟨er_15, hQ⟩ := er_15
            rcases er_15 with ⟨rfl, ra_16, -⟩ | ⟨po_17, po_18, po_19, ra_20, -⟩
            · have hQ := hQ.1 rfl
              refine lv_if_lt (tgt := 47) hx hb d_Md_join_41 (by decide) (fun _ => ?_) (fun h => absurd (by decide +kernel) h)
              refine lv_aload_n hx hb d_Md_join_47 rfl (lv_at hl 0 rfl) ?_
              refine tw_getR (D := (dC, dI)) (C := R_Md) (T := F_Md) (N := 64) (ci := 7) (kd := 27) (ct := ct) hx hb htb i_Md hown hK hP m0 rfl rfl 20 eqT (by decide) (htb (.fieldLink R_Md 91 "WaterMenModel" "turn" "[I") tw_99) (fun _ h9 => h9) rfl d_Md_join_48 ?_
              refine hb_tv (.ref qT) rfl ?_
              refine lv_bipush (v := 40) hx hb d_Md_join_51 (by decide +kernel) ?_
              refine lv_iload_n hx hb d_Md_join_53 rfl (lv_at hl 1 rfl) ?_
              refine lv_imul hx hb d_Md_join_54 ?_
              refine lv_aload_n hx hb d_Md_join_55 rfl (lv_at hl 0 rfl) ?_
              refine tw_getR (D := (dC, dI)) (C := R_Md) (T := F_Md) (N := 64) (ci := 7) (kd := 27) (ct := ct) hx hb htb i_Md hown hK hP m0 rfl rfl 19 eqS (by decide) (htb (.fieldLink R_Md 88 "WaterMenModel" "turns" "[I") tw_98) (fun _ h9 => h9) rfl d_Md_join_56 ?_
              refine hb_tv (.ref qS) rfl ?_
              refine lv_iload_n hx hb d_Md_join_59 rfl (lv_at hl 1 rfl) ?_
              refine tw_aldI (ct := ct) hx hb hK hP hO_0 mqS rfl (hb_inl po_3 po_4 (by decide +kernel)) d_Md_join_60 (fun x_21 e_21 b_21 => ?_)
              have hQ := hQ x_21 e_21
              refine lv_iadd hx hb d_Md_join_61 ?_
              refine lv_iload_n hx hb d_Md_join_62 rfl (lv_at hl 2 rfl) ?_
              refine tw_astI (ct := ct) (x := p_1) hx hb hK hP hD hS hO_0 mqT rfl ((fun (a_0 : Int32) (a_1 : Int32) (a_2 : Int32) (k_0 : ¬ (a_0 < 0)) (k_1 : ¬ (a_1 ≤ a_0)) (k_2 : ¬ (a_2 < 0)) (k_3 : ¬ (39 < a_2)) (k_4 : ¬ (12 < a_1)) => (show vp_in (((40 * a_0) + a_2)) 480 from by have z0 : (0 : Int32).toInt = 0 := (by decide +kernel); have z1 : (12 : Int32).toInt = 12 := (by decide +kernel); have z2 : (39 : Int32).toInt = 39 := (by decide +kernel); have z3 : (40 : Int32).toInt = 40 := (by decide +kernel); have r0 := fb_rng (a_0); have r1 := fb_rng (a_1); have r2 := fb_rng (a_2); have e0 := k_0; rw [Int32.lt_iff_toInt_lt, z0] at e0; have e1 := k_1; rw [Int32.le_iff_toInt_le] at e1; have e2 := k_2; rw [Int32.lt_iff_toInt_lt, z0] at e2; have e3 := k_3; rw [Int32.lt_iff_toInt_lt, z2] at e3; have e4 := k_4; rw [Int32.lt_iff_toInt_lt, z1] at e4; obtain ⟨n_0, hn_0, s0⟩ := nd_mul (x := (40 : Int32)) (y := (a_0)) (by (try rw [z3]); omega) (by (try rw [z3]); omega); rw [z3] at s0; obtain ⟨n_1, hn_1, s1⟩ := nd_add (x := n_0) (y := (a_2)) (by omega) (by omega); rw [hn_0, hn_1, vp_in_iff]; omega)) p_0 (ti f q0 2) x_21 po_3 po_5 b_21.1 (join_room hO_0 mqT eqT eqS hT ra_16 po_3 po_4 po_5 c_7 c_8 e_21 b_21.1 b_21.2) bs_1.2) ⟨c_7, c_8⟩ d_Md_join_63 (fun f_1 H locs hP hD hS hO_1 hE_1 w_22 ow_22 hF_1 => ?_)
              have hA_1 := hA_0.trans hE_1
              have hQ := hQ f_1 hF_1
              have hQ := hQ hO_1
              refine lv_aload_n hx hb d_Md_join_64 rfl (lv_at hl 0 rfl) ?_
              refine tw_getR (D := (dC, dI)) (C := R_Md) (T := F_Md) (N := 64) (ci := 7) (kd := 27) (ct := ct) hx hb htb i_Md hown hK hP (hA_1.m m0) rfl rfl 19 ((hA_1.er m0 rfl).trans eqS) (by decide) (htb (.fieldLink R_Md 88 "WaterMenModel" "turns" "[I") tw_98) (fun _ h9 => h9) rfl d_Md_join_65 ?_
              refine hb_tv (.ref qS) rfl ?_
              refine lv_iload_n hx hb d_Md_join_68 rfl (lv_at hl 1 rfl) ?_
              refine lv_dup2_11 hx hb d_Md_join_69 rfl rfl ?_
              refine tw_aldxI (ct := ct) (x := x_21) hx hb hK hP (hA_1.m mqS) rfl (hb_inl po_3 po_4 (by decide +kernel)) ((hA_1.ei mqS rfl).trans e_21) d_Md_join_70 ?_
              refine lv_iconst (v := 1) hx hb d_Md_join_71 (by decide +kernel) ?_
              refine lv_iadd hx hb d_Md_join_72 ?_
              refine tw_astI (ct := ct) (x := (x_21 + 1)) hx hb hK hP hD hS hO_1 (hA_1.m mqS) rfl (hb_inl po_3 po_4 (by decide +kernel)) ⟨(show ¬ ((x_21 + 1) < 0) from by have e0 := b_21.1; rw [Int32.lt_iff_toInt_lt] at e0; have e1 := (join_room hO_0 mqT eqT eqS hT ra_16 po_3 po_4 po_5 c_7 c_8 e_21 b_21.1 b_21.2); rw [Int32.lt_iff_toInt_lt] at e1; have z0 : (0 : Int32).toInt = 0 := (by decide +kernel); have z1 : (1 : Int32).toInt = 1 := (by decide +kernel); have z2 : (39 : Int32).toInt = 39 := (by decide +kernel); have ss := fb_addI (x := x_21) (y := 1) (by omega) (by omega); rw [Int32.lt_iff_toInt_lt]; omega), (show ¬ (40 < (x_21 + 1)) from by have e0 := b_21.1; rw [Int32.lt_iff_toInt_lt] at e0; have e1 := (join_room hO_0 mqT eqT eqS hT ra_16 po_3 po_4 po_5 c_7 c_8 e_21 b_21.1 b_21.2); rw [Int32.lt_iff_toInt_lt] at e1; have z0 : (0 : Int32).toInt = 0 := (by decide +kernel); have z1 : (1 : Int32).toInt = 1 := (by decide +kernel); have z2 : (39 : Int32).toInt = 39 := (by decide +kernel); have z3 : (40 : Int32).toInt = 40 := (by decide +kernel); have ss := fb_addI (x := x_21) (y := 1) (by omega) (by omega); rw [Int32.lt_iff_toInt_lt]; omega)⟩ d_Md_join_73 (fun f_2 H locs hP hD hS hO_2 hE_2 w_24 ow_24 hF_2 => ?_)
              have hA_2 := hA_1.trans hE_2
              have hQ := hQ f_2 hF_2
              have hQ := hQ hO_2
              refine lv_aload_n hx hb d_Md_join_74 rfl (lv_at hl 0 rfl) ?_
              refine tw_getR (D := (dC, dI)) (C := R_Md) (T := F_Md) (N := 64) (ci := 7) (kd := 27) (ct := ct) hx hb htb i_Md hown hK hP (hA_2.m m0) rfl rfl 19 ((hA_2.er m0 rfl).trans eqS) (by decide) (htb (.fieldLink R_Md 88 "WaterMenModel" "turns" "[I") tw_98) (fun _ h9 => h9) rfl d_Md_join_75 ?_
              refine hb_tv (.ref qS) rfl ?_
              refine lv_iload_n hx hb d_Md_join_78 rfl (lv_at hl 1 rfl) ?_
              refine tw_aldxI (ct := ct) (x := (x_21 + 1)) hx hb hK hP (hA_2.m mqS) rfl (hb_inl po_3 po_4 (by decide +kernel)) w_24 d_Md_join_79 ?_
              refine W.widen (k := 0) (n := 0) (Nat.le_of_ble_eq_true rfl) (Nat.le_of_ble_eq_true rfl) ?_
              exact W.iret (v := (x_21 + 1)) hx hb hr (fun t ht hW => ⟨⟨(x_21 + 1), (L, f_2), rfl, ⟨hO_2, hA_2.mono (by decide +kernel), (tinv_join eqT eqS ((hA_2.er m0 rfl).trans eqT) ((hA_2.er m0 rfl).trans eqS) hT ra_16 po_3 po_4 po_5 e_21 b_21.1 (join_room hO_0 mqT eqT eqS hT ra_16 po_3 po_4 po_5 c_7 c_8 e_21 b_21.1 b_21.2) w_22 ow_22 (fun j => hE_2.ei (hE_1.m mqT) rfl) w_24 ow_24 (fun j => hE_1.ei mqS rfl) (fun s' hs => cnt40 hO_0 mqS hs)), trivial, hQ⟩, by rw [ht]; exact hP, va_K.moved hW.alike hK, by rw [hAe]; exact hD⟩, by rw [hAe]; exact hS.F ht⟩) (by rw [hAe]; exact hS.2.2) d_Md_join_80
            · have hQ := hQ.2 (fun e9 => po_17 (by rw [e9]; decide))
              refine lv_if_lt (tgt := 47) hx hb d_Md_join_41 (by decide) (fun h => absurd h po_17) (fun _ => ?_)
              refine lv_bipush (v := (-2)) hx hb d_Md_join_44 (by decide +kernel) ?_
              refine W.widen (k := 0) (n := 0) (Nat.le_of_ble_eq_true rfl) (Nat.le_of_ble_eq_true rfl) ?_
              exact W.iret (v := (-2)) hx hb hr (fun t ht hW => ⟨⟨(-2), (L, f), rfl, ⟨hO_0, hA_0.mono (by decide +kernel), hT, trivial, hQ⟩, by rw [ht]; exact hP, va_K.moved hW.alike hK, by rw [hAe]; exact hD⟩, by rw [hAe]; exact hS.F ht⟩) (by rw [hAe]; exact hS.2.2) d_Md_join_46
def W_WM_leave_w : List (Nat × Nat) := [(20, 2)]
def wp_WM_leave_w (L : List Nat) (f : TF) (q0 : Nat) (p_0 : Int32) (Q : Int32 → List Nat → TF → Prop) : Prop := wp_WM_manAt_w L f q0 p_0 (fun (r_1 : Option Nat) => ((r_1 = none → Q (-1) L f) ∧ (∀ q_1 : Nat, r_1 = some q_1 → ∀ x_2 : Int32, ti f q_1 2 = x_2 → ((x_2 = (-1) → Q (-2) L f) ∧ (¬ (x_2 = (-1)) → ∀ f_1 : TF, f_1 = sI f q_1 2 (-1) → Ok L f_1 → Q 1 L f_1)))))
set_option maxHeartbeats 4000000 in
set_option maxRecDepth 100000 in
theorem c_WM_leave_w (l : Launch) (dC : Nat → ClassId) (dI : Nat → Nat → Nat) (ct : Nat → ClassId) (L : List Nat) (f : TF) (hO_0 : Ok L f) (q0 : Nat) (m0 : q0 ∈ L ∧ tk f q0 = 0) (sz : Nat) (p_0 : Int32)   (Q : Int32 → List Nat → TF → Prop) (hQ : wp_WM_leave_w L f q0 p_0 Q) : Met l y_WM_leave (.code y_WM_leave b_WM_leave 3 (some .int) :: TB) ({ frames := 1, cells := 0, slots := 0, locals := 21 }) (va_Pc [.ref q0, .int p_0] (PC dC dI (TW ct L f) (TT ct) sz)) (va_Qi (fun r (u : TSt) => Ok u.1 u.2 ∧ Ext W_WM_leave_w L f u.1 u.2 ∧ (True) ∧ Q r u.1 u.2) (fun (u : TSt) t => va_P (dC, dI) vwCl (TW ct u.1 u.2) t.heap ∧ va_K (dC, dI) vwCl (TT ct) t ∧ va_D (va_A (TW ct L f) sz) (TW ct u.1 u.2)) (va_A (TW ct L f) sz)) 0 0 (va_A (TW ct L f) sz) := by
  refine Met.ofW (cc := b_WM_leave) (maxL := 3) (ret := (some .int)) (by decide) rfl ?_
  intro p e s m args below meth c s₁ B hml hv
  obtain ⟨rfl, hsz, hP, hK, hD0, hN⟩ := hv
  have hx := B.exec
  have hb := B.bytes
  have hr := B.returns
  have hts := atoms_spec (ws := (.code y_WM_leave b_WM_leave 3 (some .int) :: TB)) B.pre
  have htb := fun w (h : w ∈ TB) => hts w (List.mem_cons_of_mem _ h)
  have hown : s.vm.findClass R_WM = some m.cls := findClass_of_methodNamed B.named
  have hlocks := B.notSynchronized
  have hl := lv_entry ([.ref q0, .int p_0]) (n := 3) (Nat.le_of_ble_eq_true rfl)
  rw [lg_entry_eq]
  generalize (lg_sl ([.ref q0, .int p_0]) ++ List.replicate (3 - (lg_sl ([.ref q0, .int p_0])).length) Slot.unset).toArray = ls at hl ⊢
  have hl : lv_has ls 3 [(0, .ref q0), (1, .int p_0)] := hl
  subst hsz
  have hD := hD0.self (sz := s.heap.size)
  obtain ⟨A, hAe⟩ : ∃ A, va_A (TW ct L f) s.heap.size = A := ⟨_, rfl⟩
  rw [hAe] at hD
  have hA : ∀ q : Nat, s.heap.size ≤ q → A q := fun q h => by rw [← hAe]; exact Or.inr h
  have hS : va_S A s.heap s.heap [] := va_S.rf
  have hA_0 : Ext [] L f L f := Ext.rf
  suffices hGo : ∀ (H : Heap) (locs : List Loc), va_P (dC, dI) vwCl (TW ct L f) H → va_S A s.heap H locs → W p l e (headSpec (.code y_WM_leave b_WM_leave 3 (some .int) :: TB) ({ frames := 1, cells := 0, slots := 0, locals := 21 })).room s m [.ref q0, .int p_0].toArray below meth c H locs 0 0 (MQ below (va_Qi (fun r (u : TSt) => Ok u.1 u.2 ∧ Ext W_WM_leave_w L f u.1 u.2 ∧ (True) ∧ Q r u.1 u.2) (fun (u : TSt) t => va_P (dC, dI) vwCl (TW ct u.1 u.2) t.heap ∧ va_K (dC, dI) vwCl (TT ct) t ∧ va_D (va_A (TW ct L f) s.heap.size) (TW ct u.1 u.2)) (va_A (TW ct L f) s.heap.size)) [.ref q0, .int p_0].toArray s 0 0 (va_A (TW ct L f) s.heap.size)) (F0 m 0 ls []) from hGo _ _ hP hS
  clear hP hS
  intro H locs hP hS
  unfold wp_WM_leave_w at hQ
  refine lv_aload_n hx hb d_WM_leave_0 rfl (lv_at hl 0 rfl) ?_
  refine lv_iload_n hx hb d_WM_leave_1 rfl (lv_at hl 1 rfl) ?_
  refine va_csq (va_Run.run (va_runV (As := [.int p_0]) (rest := []) ⟨hx, hb, hml, hown, htb⟩ (c_WM_manAt_w l dC dI ct L f hO_0 q0 m0 p_0 _ hQ) (cwV 1 htb (gd_V tw_27 tw_28 tw_29 tw_26 tw_25) rfl rfl rfl (by decide +kernel) ⟨Nat.le_of_ble_eq_true rfl, Nat.le_of_ble_eq_true rfl⟩) ⟨pr_blind, tw_recv hK hP m0 rfl rfl, pr_pre hP hK hN⟩ rfl rfl hl.1 rfl (lv_room (Nat.le_of_ble_eq_true rfl)) d_WM_leave_2 ⟨Nat.le_of_ble_eq_true rfl, Nat.le_of_ble_eq_true rfl⟩)) (fun r_1 er_1 => ?_)
  obtain ⟨er_1, hQ⟩ := er_1
  rcases er_1 with rfl | ⟨q_1, rfl, m_1⟩
  · have hQ := hQ.1 rfl
    refine hb_tv .null rfl ?_
    refine lv_astore_nN (lv' := [(2, .null), (0, .ref q0), (1, .int p_0)]) hx hb d_WM_leave_5 rfl hl (by decide) rfl (fun ls hl => ?_)
    refine lv_aload_nN hx hb d_WM_leave_6 rfl (lv_at hl 0 rfl) ?_
    refine lv_ifnonnullN hx hb d_WM_leave_7 ?_
    refine lv_iconst (v := (-1)) hx hb d_WM_leave_10 (by decide +kernel) ?_
    refine W.widen (k := 0) (n := 0) (Nat.le_of_ble_eq_true rfl) (Nat.le_of_ble_eq_true rfl) ?_
    exact W.iret (v := (-1)) hx hb hr (fun t ht hW => ⟨⟨(-1), (L, f), rfl, ⟨hO_0, hA_0.mono (by decide +kernel), trivial, hQ⟩, by rw [ht]; exact hP, va_K.moved hW.alike hK, by rw [hAe]; exact hD⟩, by rw [hAe]; exact hS.F ht⟩) (by rw [hAe]; exact hS.2.2) d_WM_leave_11
  · have hQ := hQ.2 q_1 rfl
    refine hb_tv (.ref q_1) rfl ?_
    refine lv_astore_n (lv' := [(2, .ref q_1), (0, .ref q0), (1, .int p_0)]) hx hb d_WM_leave_5 rfl hl (by decide) rfl (fun ls hl => ?_)
    refine lv_aload_n hx hb d_WM_leave_6 rfl (lv_at hl 0 rfl) ?_
    refine lv_ifnonnull (tgt := 12) hx hb d_WM_leave_7 (by decide) ?_
    refine lv_aload_n hx hb d_WM_leave_12 rfl (lv_at hl 0 rfl) ?_
    refine tw_geti (D := (dC, dI)) (C := R_Mn) (T := F_Mn) (N := 8) (ci := 2) (kd := 20) (ct := ct) hx hb htb i_Mn hown hK hP hO_0 m_1 rfl rfl 2 (by decide) (htb (.fieldLink R_WM 145 "WaterMen$Man" "turnStairs" "I") tw_33) (fun _ h9 => h9) rfl d_WM_leave_13 (fun x_2 e_2 b_2 => ?_)
    have hQ := hQ x_2 e_2
    refine lv_iconst (v := (-1)) hx hb d_WM_leave_16 (by decide +kernel) ?_
    refine lv_icmp_ne (tgt := 23) hx hb d_WM_leave_17 (by decide) (fun c_3 => ?_) (fun c_3 => ?_)
    · have hQ := hQ.2 c_3
      refine lv_aload_n hx hb d_WM_leave_23 rfl (lv_at hl 0 rfl) ?_
      refine lv_iconst (v := (-1)) hx hb d_WM_leave_24 (by decide +kernel) ?_
      refine tw_puti (v := (-1)) (D := (dC, dI)) (C := R_Mn) (T := F_Mn) (N := 8) (ci := 2) (kd := 20) (ct := ct) (ty := .int) hx hb htb i_Mn t_Mn t_Mn_ok n_Mn hown hK hP hD hS hO_0 m_1 rfl rfl 2 (by decide) (htb (.fieldLink R_WM 145 "WaterMen$Man" "turnStairs" "I") tw_33) (fun _ h9 => h9) rfl (by decide +kernel) rfl rfl rfl (i32_full _) d_WM_leave_25 (fun f_1 H locs hP hD hS hO_1 hE_1 w_4 hF_1 => ?_)
      have hA_1 := hA_0.trans hE_1
      have hQ := hQ f_1 hF_1
      have hQ := hQ hO_1
      refine lv_iconst (v := 1) hx hb d_WM_leave_28 (by decide +kernel) ?_
      refine W.widen (k := 0) (n := 0) (Nat.le_of_ble_eq_true rfl) (Nat.le_of_ble_eq_true rfl) ?_
      exact W.iret (v := 1) hx hb hr (fun t ht hW => ⟨⟨1, (L, f_1), rfl, ⟨hO_1, hA_1.mono (by decide +kernel), trivial, hQ⟩, by rw [ht]; exact hP, va_K.moved hW.alike hK, by rw [hAe]; exact hD⟩, by rw [hAe]; exact hS.F ht⟩) (by rw [hAe]; exact hS.2.2) d_WM_leave_29
    · have hQ := hQ.1 c_3
      refine lv_bipush (v := (-2)) hx hb d_WM_leave_20 (by decide +kernel) ?_
      refine W.widen (k := 0) (n := 0) (Nat.le_of_ble_eq_true rfl) (Nat.le_of_ble_eq_true rfl) ?_
      exact W.iret (v := (-2)) hx hb hr (fun t ht hW => ⟨⟨(-2), (L, f), rfl, ⟨hO_0, hA_0.mono (by decide +kernel), trivial, hQ⟩, by rw [ht]; exact hP, va_K.moved hW.alike hK, by rw [hAe]; exact hD⟩, by rw [hAe]; exact hS.F ht⟩) (by rw [hAe]; exact hS.2.2) d_WM_leave_22
def wpB_Md_placeOf_w_8_8 (L : List Nat) (f : TF) (q0 : Nat) (p_0 : Int32) (qT : Nat) (qS : Nat) (r_2 : Int32) (Q : Int32 → Prop) (rec_8 : Int32 → Prop) (v3_8 : Int32) : Prop := ∀ x_9 : Int32, ti f qT (((40 * r_2) + v3_8) : Int32).toNatClampNeg = x_9 → ((x_9 = p_0 → Q v3_8) ∧ (¬ (x_9 = p_0) → rec_8 (v3_8 + 1)))
def wpL_Md_placeOf_w_8_8 (L : List Nat) (f : TF) (q0 : Nat) (p_0 : Int32) (qT : Nat) (qS : Nat) (r_2 : Int32) (Q : Int32 → Prop) : Nat → Int32 → Prop
  | 0 => fun v3_8 => wpB_Md_placeOf_w_8_8 L f q0 p_0 qT qS r_2 Q (fun _ => True) v3_8
  | n + 1 => fun v3_8 => wpB_Md_placeOf_w_8_8 L f q0 p_0 qT qS r_2 Q (wpL_Md_placeOf_w_8_8 L f q0 p_0 qT qS r_2 Q n) v3_8
def wpR_Md_placeOf_w_8_8 (L : List Nat) (f : TF) (q0 : Nat) (p_0 : Int32) (qT : Nat) (qS : Nat) (r_2 : Int32) (Q : Int32 → Prop) : Nat → Int32 → Prop
  | 0 => fun _ => True
  | n + 1 => wpL_Md_placeOf_w_8_8 L f q0 p_0 qT qS r_2 Q n
theorem wpL_Md_placeOf_w_8_8_eq {L : List Nat} {f : TF} {q0 : Nat} {p_0 : Int32} {qT : Nat} {qS : Nat} {r_2 : Int32} {Q : Int32 → Prop} {n : Nat} : wpL_Md_placeOf_w_8_8 L f q0 p_0 qT qS r_2 Q n = wpB_Md_placeOf_w_8_8 L f q0 p_0 qT qS r_2 Q (wpR_Md_placeOf_w_8_8 L f q0 p_0 qT qS r_2 Q n) := by cases n <;> rfl
theorem wpR_Md_placeOf_w_8_8_pos {L : List Nat} {f : TF} {q0 : Nat} {p_0 : Int32} {qT : Nat} {qS : Nat} {r_2 : Int32} {Q : Int32 → Prop} {n : Nat} (h : 0 < n) : wpR_Md_placeOf_w_8_8 L f q0 p_0 qT qS r_2 Q n = wpL_Md_placeOf_w_8_8 L f q0 p_0 qT qS r_2 Q (n - 1) := by
  cases n with
  | zero => omega
  | succ n => rfl
def wp_Md_placeOf_w (L : List Nat) (f : TF) (q0 : Nat) (p_0 : Int32) (Q : Int32 → Prop) : Prop := ∀ qT : Nat, tr f q0 20 = some qT → ∀ qS : Nat, tr f q0 19 = some qS → wp_Md_rowOf_w L f q0 p_0 (fun (r_2 : Int32) => ((r_2 = (-1) → Q (-1)) ∧ (¬ (r_2 = (-1)) → wpL_Md_placeOf_w_8_8 L f q0 p_0 qT qS r_2 Q (((40 : Int32).toInt - (0 : Int32).toInt).toNat) (0 : Int32))))
set_option maxHeartbeats 4000000 in
set_option maxRecDepth 100000 in
theorem c_Md_placeOf_w (l : Launch) (dC : Nat → ClassId) (dI : Nat → Nat → Nat) (ct : Nat → ClassId) (L : List Nat) (f : TF) (hO_0 : Ok L f) (q0 : Nat) (m0 : q0 ∈ L ∧ tk f q0 = 27) (p_0 : Int32)   (Q : Int32 → Prop) (hQ : wp_Md_placeOf_w L f q0 p_0 Q) : Met l y_Md_placeOf (.code y_Md_placeOf b_Md_placeOf 4 (some .int) :: TB) ({ frames := 1, cells := 0, slots := 0, locals := 23 }) (va_Pc [.ref q0, .int p_0] (PR dC dI (TW ct L f) (TT ct))) (vp_Si (fun r => ((r = (-1) ∧ NotIn f q0 (ti f q0 2) p_0 ∧ True) ∨ (¬ (r < 0) ∧ ¬ (39 < r) ∧ True)) ∧ Q r)) 0 0 (fun _ => False) := by
  refine Met.ofW (cc := b_Md_placeOf) (maxL := 4) (ret := (some .int)) (by decide) rfl ?_
  intro p e s m args below meth c s₁ B hml hv
  obtain ⟨rfl, hP, hK, hN⟩ := hv
  have hx := B.exec
  have hb := B.bytes
  have hr := B.returns
  have hts := atoms_spec (ws := (.code y_Md_placeOf b_Md_placeOf 4 (some .int) :: TB)) B.pre
  have htb := fun w (h : w ∈ TB) => hts w (List.mem_cons_of_mem _ h)
  have hown : s.vm.findClass R_Md = some m.cls := findClass_of_methodNamed B.named
  have hlocks := B.notSynchronized
  have hl := lv_entry ([.ref q0, .int p_0]) (n := 4) (Nat.le_of_ble_eq_true rfl)
  rw [lg_entry_eq]
  generalize (lg_sl ([.ref q0, .int p_0]) ++ List.replicate (4 - (lg_sl ([.ref q0, .int p_0])).length) Slot.unset).toArray = ls at hl ⊢
  have hl : lv_has ls 4 [(0, .ref q0), (1, .int p_0)] := hl
  unfold wp_Md_placeOf_w at hQ
  obtain ⟨qT, eqT, mqT⟩ := hO_0.r m0 (j := 20) (k' := 44) rfl
  have hQ := hQ qT eqT
  obtain ⟨qS, eqS, mqS⟩ := hO_0.r m0 (j := 19) (k' := 43) rfl
  have hQ := hQ qS eqS
  have bs_1 := hO_0.i m0 (show slotD 27 2 = some (.inl (0, 12)) from rfl)
  refine lv_aload_n hx hb d_Md_placeOf_0 rfl (lv_at hl 0 rfl) ?_
  refine lv_iload_n hx hb d_Md_placeOf_1 rfl (lv_at hl 1 rfl) ?_
  refine vp_callSi (va_Run.run (va_runV (As := [.int p_0]) (rest := []) ⟨hx, hb, hml, hown, htb⟩ (c_Md_rowOf_w l dC dI ct L f hO_0 q0 m0 p_0 _ hQ) (cwV 1 htb (gd_V tw_101 tw_102 tw_103 tw_89 tw_100) rfl rfl rfl (by decide +kernel) ⟨Nat.le_of_ble_eq_true rfl, Nat.le_of_ble_eq_true rfl⟩) ⟨pr_blind, tw_recv hK hP m0 rfl rfl, pr_pre hP hK hN⟩ rfl rfl hl.1 rfl (lv_room (Nat.le_of_ble_eq_true rfl)) d_Md_placeOf_2 ⟨Nat.le_of_ble_eq_true rfl, Nat.le_of_ble_eq_true rfl⟩)) (fun r_2 er_2 => ?_)
  obtain ⟨er_2, hQ⟩ := er_2
  rcases er_2 with ⟨rfl, ra_3, -⟩ | ⟨po_4, po_5, po_6, ra_7, -⟩
  · have hQ := hQ.1 rfl
    refine lv_istore_n (lv' := [(2, .int (-1)), (0, .ref q0), (1, .int p_0)]) hx hb d_Md_placeOf_5 rfl hl (by decide) rfl (fun ls hl => ?_)
    refine lv_iconst (v := 0) hx hb d_Md_placeOf_6 (by decide +kernel) ?_
    refine lv_istore_n (lv' := [(3, .int 0), (2, .int (-1)), (0, .ref q0), (1, .int p_0)]) hx hb d_Md_placeOf_7 rfl hl (by decide) rfl (fun ls hl => ?_)
    refine lv_iload_n hx hb d_Md_placeOf_8 rfl (lv_at hl 1 rfl) ?_
    refine lv_if_lt (tgt := 33) hx hb d_Md_placeOf_9 (by decide) (fun _ => ?_) (fun h => absurd (by decide +kernel) h)
    refine lv_iload_n hx hb d_Md_placeOf_33 rfl (lv_at hl 1 rfl) ?_
    refine lv_if_ge (tgt := 41) hx hb d_Md_placeOf_34 (by decide) (fun h => absurd h (by decide +kernel)) (fun _ => ?_)
    refine lv_iconst (v := (-1)) hx hb d_Md_placeOf_37 (by decide +kernel) ?_
    refine lv_goto (tgt := 42) hx hb d_Md_placeOf_38 (by decide) ?_
    exact W.iret (v := (-1)) hx hb hr (fun t ht hW => ⟨(-1), rfl, ⟨(Or.inl ⟨rfl, ra_3, trivial⟩), hQ⟩, ht⟩) t_nil d_Md_placeOf_42
  · have hQ := hQ.2 (fun e9 => po_4 (by rw [e9]; decide))
    refine lv_istore_n (lv' := [(2, .int r_2), (0, .ref q0), (1, .int p_0)]) hx hb d_Md_placeOf_5 rfl hl (by decide) rfl (fun ls hl => ?_)
    refine lv_iconst (v := 0) hx hb d_Md_placeOf_6 (by decide +kernel) ?_
    refine lv_istore_n (lv' := [(3, .int 0), (2, .int r_2), (0, .ref q0), (1, .int p_0)]) hx hb d_Md_placeOf_7 rfl hl (by decide) rfl (fun ls hl => ?_)
    have cut_8 : ∀ (n_8 : Nat) (v3_8 : Int32) (ls : Array Slot), ¬ (v3_8 < 0) → TAt f qT r_2 p_0 v3_8 → (40 : Int32).toInt - (v3_8 : Int32).toInt ≤ (n_8 : Int) → wpL_Md_placeOf_w_8_8 L f q0 p_0 qT qS r_2 Q n_8 v3_8 → lv_has ls 4 [(0, .ref q0), (1, .int p_0), (2, .int r_2), (3, .int v3_8)] → W p l e (headSpec (.code y_Md_placeOf b_Md_placeOf 4 (some .int) :: TB) ({ frames := 1, cells := 0, slots := 0, locals := 23 })).room s m [.ref q0, .int p_0].toArray below meth c s.heap [] 0 0 (MQ below (vp_Si (fun r => ((r = (-1) ∧ NotIn f q0 (ti f q0 2) p_0 ∧ True) ∨ (¬ (r < 0) ∧ ¬ (39 < r) ∧ True)) ∧ Q r)) [.ref q0, .int p_0].toArray s 0 0 (fun _ => False)) (F0 m 8 ls []) := by
      intro n_8
      induction n_8 using Nat.strongRecOn with
      | _ n_8 ih_8 =>
        intro v3_8 ls iv0_8 rw_8 hm_8 hQ hl
        rw [wpL_Md_placeOf_w_8_8_eq] at hQ
        obtain ⟨rec_8, hrec_8⟩ : ∃ g, wpR_Md_placeOf_w_8_8 L f q0 p_0 qT qS r_2 Q n_8 = g := ⟨_, rfl⟩
        rw [hrec_8] at hQ
        unfold wpB_Md_placeOf_w_8_8 at hQ
        refine lv_iload_n hx hb d_Md_placeOf_8 rfl (lv_at hl 2 rfl) ?_
        refine lv_if_lt (tgt := 33) hx hb d_Md_placeOf_9 (by decide) (fun h => absurd h po_4) (fun _ => ?_)
        refine lv_aload_n hx hb d_Md_placeOf_12 rfl (lv_at hl 0 rfl) ?_
        refine tw_getR (D := (dC, dI)) (C := R_Md) (T := F_Md) (N := 64) (ci := 7) (kd := 27) (ct := ct) hx hb htb i_Md hown hK hP m0 rfl rfl 20 eqT (by decide) (htb (.fieldLink R_Md 91 "WaterMenModel" "turn" "[I") tw_99) (fun _ h9 => h9) rfl d_Md_placeOf_13 ?_
        refine hb_tv (.ref qT) rfl ?_
        refine lv_bipush (v := 40) hx hb d_Md_placeOf_16 (by decide +kernel) ?_
        refine lv_iload_n hx hb d_Md_placeOf_18 rfl (lv_at hl 2 rfl) ?_
        refine lv_imul hx hb d_Md_placeOf_19 ?_
        refine lv_iload_n hx hb d_Md_placeOf_20 rfl (lv_at hl 3 rfl) ?_
        refine lv_iadd hx hb d_Md_placeOf_21 ?_
        refine tw_aldI (ct := ct) hx hb hK hP hO_0 mqT rfl ((fun (a_0 : Int32) (a_1 : Int32) (a_2 : Int32) (k_0 : ¬ (a_0 < 0)) (k_1 : ¬ (a_1 ≤ a_0)) (k_2 : ¬ (a_2 < 0)) (k_3 : ¬ (39 < a_2)) (k_4 : ¬ (12 < a_1)) => (show vp_in (((40 * a_0) + a_2)) 480 from by have z0 : (0 : Int32).toInt = 0 := (by decide +kernel); have z1 : (12 : Int32).toInt = 12 := (by decide +kernel); have z2 : (39 : Int32).toInt = 39 := (by decide +kernel); have z3 : (40 : Int32).toInt = 40 := (by decide +kernel); have r0 := fb_rng (a_0); have r1 := fb_rng (a_1); have r2 := fb_rng (a_2); have e0 := k_0; rw [Int32.lt_iff_toInt_lt, z0] at e0; have e1 := k_1; rw [Int32.le_iff_toInt_le] at e1; have e2 := k_2; rw [Int32.lt_iff_toInt_lt, z0] at e2; have e3 := k_3; rw [Int32.lt_iff_toInt_lt, z2] at e3; have e4 := k_4; rw [Int32.lt_iff_toInt_lt, z1] at e4; obtain ⟨n_0, hn_0, s0⟩ := nd_mul (x := (40 : Int32)) (y := (a_0)) (by (try rw [z3]); omega) (by (try rw [z3]); omega); rw [z3] at s0; obtain ⟨n_1, hn_1, s1⟩ := nd_add (x := n_0) (y := (a_2)) (by omega) (by omega); rw [hn_0, hn_1, vp_in_iff]; omega)) r_2 (ti f q0 2) v3_8 po_4 po_6 iv0_8 (at_le rw_8) bs_1.2) d_Md_placeOf_22 (fun x_9 e_9 b_9 => ?_)
        have hQ := hQ x_9 e_9
        refine lv_iload_n hx hb d_Md_placeOf_23 rfl (lv_at hl 1 rfl) ?_
        refine lv_icmp_eq (tgt := 33) hx hb d_Md_placeOf_24 (by decide) (fun c_10 => ?_) (fun c_10 => ?_)
        · have hQ := hQ.1 c_10
          refine lv_iload_n hx hb d_Md_placeOf_33 rfl (lv_at hl 2 rfl) ?_
          refine lv_if_ge (tgt := 41) hx hb d_Md_placeOf_34 (by decide) (fun _ => ?_) (fun h => absurd (show 0 ≤ r_2 from by have e0 := po_4; rw [Int32.lt_iff_toInt_lt] at e0; have e1 := po_5; rw [Int32.lt_iff_toInt_lt] at e1; have z0 : (0 : Int32).toInt = 0 := (by decide +kernel); have z1 : (11 : Int32).toInt = 11 := (by decide +kernel); rw [Int32.le_iff_toInt_le]; omega) h)
          refine lv_iload_n hx hb d_Md_placeOf_41 rfl (lv_at hl 3 rfl) ?_
          exact W.iret (v := v3_8) hx hb hr (fun t ht hW => ⟨v3_8, rfl, ⟨(Or.inr ⟨iv0_8, (at_le rw_8), trivial⟩), hQ⟩, ht⟩) t_nil d_Md_placeOf_42
        · have hQ := hQ.2 c_10
          refine lv_iinc (v := (v3_8 + 1)) (lv' := [(3, .int (v3_8 + 1)), (0, .ref q0), (1, .int p_0), (2, .int r_2)]) hx hb d_Md_placeOf_27 hl (k := 3) rfl rfl (by decide) rfl (fun ls hl => ?_)
          refine lv_goto (tgt := 8) hx hb d_Md_placeOf_30 (by decide) ?_
          exact ih_8 (n_8 - 1) (ms_1 ((fun (a_0 : Int32) (k_0 : ¬ (39 < a_0)) => (show 1 ≤ (40 : Int32).toInt - (a_0).toInt ∧ (40 : Int32).toInt - ((a_0) + (1 : Int32)).toInt + 1 ≤ (40 : Int32).toInt - (a_0).toInt from by have z0 : (1 : Int32).toInt = 1 := (by decide +kernel); have z1 : (39 : Int32).toInt = 39 := (by decide +kernel); have z2 : (40 : Int32).toInt = 40 := (by decide +kernel); have r0 := fb_rng (a_0); have e0 := k_0; rw [Int32.lt_iff_toInt_lt, z1] at e0; obtain ⟨n_0, hn_0, s0⟩ := nd_add (x := (a_0)) (y := (1 : Int32)) (by (try rw [z0]); omega) (by (try rw [z0]); omega); rw [z0] at s0; rw [hn_0]; (try rw [z2]); omega)) v3_8 (at_le rw_8)) hm_8) (v3_8 + 1) _ (show ¬ ((v3_8 + 1) < 0) from by have e0 := iv0_8; rw [Int32.lt_iff_toInt_lt] at e0; have e1 := (at_le rw_8); rw [Int32.lt_iff_toInt_lt] at e1; have z0 : (0 : Int32).toInt = 0 := (by decide +kernel); have z1 : (1 : Int32).toInt = 1 := (by decide +kernel); have z2 : (39 : Int32).toInt = 39 := (by decide +kernel); have ss := fb_addI (x := v3_8) (y := 1) (by omega) (by omega); rw [Int32.lt_iff_toInt_lt]; omega) (at_next rw_8 po_4 po_5 iv0_8 e_9 c_10) (by exact ms_2 ((fun (a_0 : Int32) (k_0 : ¬ (39 < a_0)) => (show 1 ≤ (40 : Int32).toInt - (a_0).toInt ∧ (40 : Int32).toInt - ((a_0) + (1 : Int32)).toInt + 1 ≤ (40 : Int32).toInt - (a_0).toInt from by have z0 : (1 : Int32).toInt = 1 := (by decide +kernel); have z1 : (39 : Int32).toInt = 39 := (by decide +kernel); have z2 : (40 : Int32).toInt = 40 := (by decide +kernel); have r0 := fb_rng (a_0); have e0 := k_0; rw [Int32.lt_iff_toInt_lt, z1] at e0; obtain ⟨n_0, hn_0, s0⟩ := nd_add (x := (a_0)) (y := (1 : Int32)) (by (try rw [z0]); omega) (by (try rw [z0]); omega); rw [z0] at s0; rw [hn_0]; (try rw [z2]); omega)) v3_8 (at_le rw_8)) hm_8) (by rw [← hrec_8, wpR_Md_placeOf_w_8_8_pos (ms_3 ((fun (a_0 : Int32) (k_0 : ¬ (39 < a_0)) => (show 1 ≤ (40 : Int32).toInt - (a_0).toInt ∧ (40 : Int32).toInt - ((a_0) + (1 : Int32)).toInt + 1 ≤ (40 : Int32).toInt - (a_0).toInt from by have z0 : (1 : Int32).toInt = 1 := (by decide +kernel); have z1 : (39 : Int32).toInt = 39 := (by decide +kernel); have z2 : (40 : Int32).toInt = 40 := (by decide +kernel); have r0 := fb_rng (a_0); have e0 := k_0; rw [Int32.lt_iff_toInt_lt, z1] at e0; obtain ⟨n_0, hn_0, s0⟩ := nd_add (x := (a_0)) (y := (1 : Int32)) (by (try rw [z0]); omega) (by (try rw [z0]); omega); rw [z0] at s0; rw [hn_0]; (try rw [z2]); omega)) v3_8 (at_le rw_8)) hm_8)] at hQ; exact hQ) (lv_sub hl [1, 2, 3, 0] rfl)
    exact cut_8 ((40 : Int32).toInt - (0 : Int32).toInt).toNat (0 : Int32) _ (by decide +kernel) (at_start eqT eqS ra_7 (hO_0.i mqS (slot_arr (n := 12) rfl (vp_in_lt (hb_inl po_4 po_5 (by decide +kernel)))))) (by exact ms_e _ _) hQ (lv_sub hl [2, 3, 1, 0] rfl)
def WL_Md_leaves_w_30_14 : List (Nat × Nat) := [(44, 1000)]
def W_Md_leaves_w : List (Nat × Nat) := [(43, 1000), (44, 1000)]
def wpB_Md_leaves_w_30_14 (L : List Nat) (f : TF) (q0 : Nat) (p_0 : Int32) (qT : Nat) (qS : Nat) (r_2 : Int32) (r_8 : Int32) (x_12 : Int32) (f_1 : TF) (Q : List Nat → TF → Prop) (rec_14 : Int32 → List Nat → TF → Prop) (v4_14 : Int32) (L_2 : List Nat) (f_2 : TF) : Prop := Ok L_2 f_2 → Ext WL_Md_leaves_w_30_14 L f_1 L_2 f_2 → (((x_12 - 1) ≤ v4_14 → Q L_2 f_2) ∧ (¬ ((x_12 - 1) ≤ v4_14) → ∀ x_17 : Int32, ti f_2 qT ((((40 * r_2) + v4_14) + 1) : Int32).toNatClampNeg = x_17 → ∀ f_3 : TF, f_3 = sI f_2 qT (((40 * r_2) + v4_14) : Int32).toNatClampNeg x_17 → Ok L_2 f_3 → rec_14 (v4_14 + 1) L_2 f_3))
def wpL_Md_leaves_w_30_14 (L : List Nat) (f : TF) (q0 : Nat) (p_0 : Int32) (qT : Nat) (qS : Nat) (r_2 : Int32) (r_8 : Int32) (x_12 : Int32) (f_1 : TF) (Q : List Nat → TF → Prop) : Nat → Int32 → List Nat → TF → Prop
  | 0 => fun v4_14 L_2 f_2 => wpB_Md_leaves_w_30_14 L f q0 p_0 qT qS r_2 r_8 x_12 f_1 Q (fun _ _ _ => True) v4_14 L_2 f_2
  | n + 1 => fun v4_14 L_2 f_2 => wpB_Md_leaves_w_30_14 L f q0 p_0 qT qS r_2 r_8 x_12 f_1 Q (wpL_Md_leaves_w_30_14 L f q0 p_0 qT qS r_2 r_8 x_12 f_1 Q n) v4_14 L_2 f_2
def wpR_Md_leaves_w_30_14 (L : List Nat) (f : TF) (q0 : Nat) (p_0 : Int32) (qT : Nat) (qS : Nat) (r_2 : Int32) (r_8 : Int32) (x_12 : Int32) (f_1 : TF) (Q : List Nat → TF → Prop) : Nat → Int32 → List Nat → TF → Prop
  | 0 => fun _ _ _ => True
  | n + 1 => wpL_Md_leaves_w_30_14 L f q0 p_0 qT qS r_2 r_8 x_12 f_1 Q n
theorem wpL_Md_leaves_w_30_14_eq {L : List Nat} {f : TF} {q0 : Nat} {p_0 : Int32} {qT : Nat} {qS : Nat} {r_2 : Int32} {r_8 : Int32} {x_12 : Int32} {f_1 : TF} {Q : List Nat → TF → Prop} {n : Nat} : wpL_Md_leaves_w_30_14 L f q0 p_0 qT qS r_2 r_8 x_12 f_1 Q n = wpB_Md_leaves_w_30_14 L f q0 p_0 qT qS r_2 r_8 x_12 f_1 Q (wpR_Md_leaves_w_30_14 L f q0 p_0 qT qS r_2 r_8 x_12 f_1 Q n) := by cases n <;> rfl
theorem wpR_Md_leaves_w_30_14_pos {L : List Nat} {f : TF} {q0 : Nat} {p_0 : Int32} {qT : Nat} {qS : Nat} {r_2 : Int32} {r_8 : Int32} {x_12 : Int32} {f_1 : TF} {Q : List Nat → TF → Prop} {n : Nat} (h : 0 < n) : wpR_Md_leaves_w_30_14 L f q0 p_0 qT qS r_2 r_8 x_12 f_1 Q n = wpL_Md_leaves_w_30_14 L f q0 p_0 qT qS r_2 r_8 x_12 f_1 Q (n - 1) := by
  cases n with
  | zero => omega
  | succ n => rfl
def wp_Md_leaves_w (L : List Nat) (f : TF) (q0 : Nat) (p_0 : Int32) (Q : List Nat → TF → Prop) : Prop := ∀ qT : Nat, tr f q0 20 = some qT → ∀ qS : Nat, tr f q0 19 = some qS → wp_Md_rowOf_w L f q0 p_0 (fun (r_2 : Int32) => ((r_2 = (-1) → Q L f) ∧ (¬ (r_2 = (-1)) → wp_Md_placeOf_w L f q0 p_0 (fun (r_8 : Int32) => ((r_8 = (-1) → True) ∧ (¬ (r_8 = (-1)) → ∀ x_12 : Int32, ti f qS (r_2 : Int32).toNatClampNeg = x_12 → ∀ f_1 : TF, f_1 = sI f qS (r_2 : Int32).toNatClampNeg (x_12 - 1) → Ok L f_1 → wpL_Md_leaves_w_30_14 L f q0 p_0 qT qS r_2 r_8 x_12 f_1 Q (((39 : Int32).toInt - (r_8 : Int32).toInt).toNat) r_8 L f_1))))))
set_option maxHeartbeats 4000000 in
set_option maxRecDepth 100000 in
theorem c_Md_leaves_w (l : Launch) (dC : Nat → ClassId) (dI : Nat → Nat → Nat) (ct : Nat → ClassId) (L : List Nat) (f : TF) (hO_0 : Ok L f) (q0 : Nat) (m0 : q0 ∈ L ∧ tk f q0 = 27) (hT : TInv f q0) (sz : Nat) (p_0 : Int32)   (Q : List Nat → TF → Prop) (hQ : wp_Md_leaves_w L f q0 p_0 Q) : Met l y_Md_leaves (.code y_Md_leaves b_Md_leaves 5 none :: TB) ({ frames := 2, cells := 0, slots := 0, locals := 46 }) (va_Pc [.ref q0, .int p_0] (PC dC dI (TW ct L f) (TT ct) sz)) (va_Qv (fun (u : TSt) => Ok u.1 u.2 ∧ Ext W_Md_leaves_w L f u.1 u.2 ∧ TInv u.2 q0 ∧ (True) ∧ Q u.1 u.2) (fun (u : TSt) t => va_P (dC, dI) vwCl (TW ct u.1 u.2) t.heap ∧ va_K (dC, dI) vwCl (TT ct) t ∧ va_D (va_A (TW ct L f) sz) (TW ct u.1 u.2)) (va_A (TW ct L f) sz)) 0 0 (va_A (TW ct L f) sz) := by
  refine Met.ofW (cc := b_Md_leaves) (maxL := 5) (ret := none) (by decide) rfl ?_
  intro p e s m args below meth c s₁ B hml hv
  obtain ⟨rfl, hsz, hP, hK, hD0, hN⟩ := hv
  have hx := B.exec
  have hb := B.bytes
  have hr := B.returns
  have hts := atoms_spec (ws := (.code y_Md_leaves b_Md_leaves 5 none :: TB)) B.pre
  have htb := fun w (h : w ∈ TB) => hts w (List.mem_cons_of_mem _ h)
  have hown : s.vm.findClass R_Md = some m.cls := findClass_of_methodNamed B.named
  have hlocks := B.notSynchronized
  have hl := lv_entry ([.ref q0, .int p_0]) (n := 5) (Nat.le_of_ble_eq_true rfl)
  rw [lg_entry_eq]
  generalize (lg_sl ([.ref q0, .int p_0]) ++ List.replicate (5 - (lg_sl ([.ref q0, .int p_0])).length) Slot.unset).toArray = ls at hl ⊢
  have hl : lv_has ls 5 [(0, .ref q0), (1, .int p_0)] := hl
  subst hsz
  have hD := hD0.self (sz := s.heap.size)
  obtain ⟨A, hAe⟩ : ∃ A, va_A (TW ct L f) s.heap.size = A := ⟨_, rfl⟩
  rw [hAe] at hD
  have hA : ∀ q : Nat, s.heap.size ≤ q → A q := fun q h => by rw [← hAe]; exact Or.inr h
  have hS : va_S A s.heap s.heap [] := va_S.rf
  have hA_0 : Ext [] L f L f := Ext.rf
  suffices hGo : ∀ (H : Heap) (locs : List Loc), va_P (dC, dI) vwCl (TW ct L f) H → va_S A s.heap H locs → W p l e (headSpec (.code y_Md_leaves b_Md_leaves 5 none :: TB) ({ frames := 2, cells := 0, slots := 0, locals := 46 })).room s m [.ref q0, .int p_0].toArray below meth c H locs 0 0 (MQ below (va_Qv (fun (u : TSt) => Ok u.1 u.2 ∧ Ext W_Md_leaves_w L f u.1 u.2 ∧ TInv u.2 q0 ∧ (True) ∧ Q u.1 u.2) (fun (u : TSt) t => va_P (dC, dI) vwCl (TW ct u.1 u.2) t.heap ∧ va_K (dC, dI) vwCl (TT ct) t ∧ va_D (va_A (TW ct L f) s.heap.size) (TW ct u.1 u.2)) (va_A (TW ct L f) s.heap.size)) [.ref q0, .int p_0].toArray s 0 0 (va_A (TW ct L f) s.heap.size)) (F0 m 0 ls []) from hGo _ _ hP hS
  clear hP hS
  intro H locs hP hS
  unfold wp_Md_leaves_w at hQ
  obtain ⟨qT, eqT, mqT⟩ := hO_0.r m0 (j := 20) (k' := 44) rfl
  have hQ := hQ qT eqT
  obtain ⟨qS, eqS, mqS⟩ := hO_0.r m0 (j := 19) (k' := 43) rfl
  have hQ := hQ qS eqS
  have bs_1 := hO_0.i m0 (show slotD 27 2 = some (.inl (0, 12)) from rfl)
  refine lv_aload_n hx hb d_Md_leaves_0 rfl (lv_at hl 0 rfl) ?_
  refine lv_iload_n hx hb d_Md_leaves_1 rfl (lv_at hl 1 rfl) ?_
  refine vp_callSi (va_Run.run (va_runV (As := [.int p_0]) (rest := []) ⟨hx, hb, hml, hown, htb⟩ (c_Md_rowOf_w l dC dI ct L f hO_0 q0 m0 p_0 _ hQ) (cwV 1 htb (gd_V tw_101 tw_102 tw_103 tw_89 tw_100) rfl rfl rfl (by decide +kernel) ⟨Nat.le_of_ble_eq_true rfl, Nat.le_of_ble_eq_true rfl⟩) ⟨pr_blind, tw_recv hK hP m0 rfl rfl, pr_pre hP hK hN⟩ rfl rfl hl.1 rfl (lv_room (Nat.le_of_ble_eq_true rfl)) d_Md_leaves_2 ⟨Nat.le_of_ble_eq_true rfl, Nat.le_of_ble_eq_true rfl⟩)) (fun r_2 er_2 => ?_)
  obtain ⟨er_2, hQ⟩ := er_2
  rcases er_2 with ⟨rfl, ra_3, -⟩ | ⟨po_4, po_5, po_6, ra_7, -⟩
  · have hQ := hQ.1 rfl
    refine lv_istore_n (lv' := [(2, .int (-1)), (0, .ref q0), (1, .int p_0)]) hx hb d_Md_leaves_5 rfl hl (by decide) rfl (fun ls hl => ?_)
    refine lv_iload_n hx hb d_Md_leaves_6 rfl (lv_at hl 0 rfl) ?_
    refine lv_if_ge (tgt := 11) hx hb d_Md_leaves_7 (by decide) (fun h => absurd h (by decide +kernel)) (fun _ => ?_)
    refine W.widen (k := 0) (n := 0) (Nat.le_of_ble_eq_true rfl) (Nat.le_of_ble_eq_true rfl) ?_
    exact W.vret hx hb hr (fun t ht hW => ⟨⟨(L, f), rfl, ⟨hO_0, hA_0.mono (by decide +kernel), hT, trivial, hQ⟩, by rw [ht]; exact hP, va_K.moved hW.alike hK, by rw [hAe]; exact hD⟩, by rw [hAe]; exact hS.F ht⟩) (by rw [hAe]; exact hS.2.2) d_Md_leaves_10
  · have hQ := hQ.2 (fun e9 => po_4 (by rw [e9]; decide))
    refine lv_istore_n (lv' := [(2, .int r_2), (0, .ref q0), (1, .int p_0)]) hx hb d_Md_leaves_5 rfl hl (by decide) rfl (fun ls hl => ?_)
    refine lv_iload_n hx hb d_Md_leaves_6 rfl (lv_at hl 0 rfl) ?_
    refine lv_if_ge (tgt := 11) hx hb d_Md_leaves_7 (by decide) (fun _ => ?_) (fun h => absurd (show 0 ≤ r_2 from by have e0 := po_4; rw [Int32.lt_iff_toInt_lt] at e0; have e1 := po_5; rw [Int32.lt_iff_toInt_lt] at e1; have z0 : (0 : Int32).toInt = 0 := (by decide +kernel); have z1 : (11 : Int32).toInt = 11 := (by decide +kernel); rw [Int32.le_iff_toInt_le]; omega) h)
    refine lv_aload_n hx hb d_Md_leaves_11 rfl (lv_at hl 1 rfl) ?_
    refine lv_iload_n hx hb d_Md_leaves_12 rfl (lv_at hl 2 rfl) ?_
    refine vp_callSi (va_Run.run (va_runV (As := [.int p_0]) (rest := []) ⟨hx, hb, hml, hown, htb⟩ (c_Md_placeOf_w l dC dI ct L f hO_0 q0 m0 p_0 _ hQ) (cwV 1 htb (gd_V tw_105 tw_106 tw_107 tw_89 tw_104) rfl rfl rfl (by decide +kernel) ⟨Nat.le_of_ble_eq_true rfl, Nat.le_of_ble_eq_true rfl⟩) ⟨pr_blind, tw_recv hK hP m0 rfl rfl, pr_pre hP hK hN⟩ rfl rfl hl.1 rfl (lv_room (Nat.le_of_ble_eq_true rfl)) d_Md_leaves_13 ⟨Nat.le_of_ble_eq_true rfl, Nat.le_of_ble_eq_true rfl⟩)) (fun r_8 er_8 => ?_)
    obtain ⟨er_8, hQ⟩ := er_8
    rcases er_8 with ⟨rfl, ra_9, -⟩ | ⟨po_10, po_11, -⟩
    · exact (notin_isin eqT eqS ra_9 ra_7 po_4 po_6).elim
    · have hQ := hQ.2 (fun e9 => po_10 (by rw [e9]; decide))
      refine lv_istore_n (lv' := [(3, .int r_8), (2, .int r_2), (0, .ref q0), (1, .int p_0)]) hx hb d_Md_leaves_16 rfl hl (by decide) rfl (fun ls hl => ?_)
      refine lv_aload_n hx hb d_Md_leaves_17 rfl (lv_at hl 2 rfl) ?_
      refine tw_getR (D := (dC, dI)) (C := R_Md) (T := F_Md) (N := 64) (ci := 7) (kd := 27) (ct := ct) hx hb htb i_Md hown hK hP m0 rfl rfl 19 eqS (by decide) (htb (.fieldLink R_Md 88 "WaterMenModel" "turns" "[I") tw_98) (fun _ h9 => h9) rfl d_Md_leaves_18 ?_
      refine hb_tv (.ref qS) rfl ?_
      refine lv_iload_n hx hb d_Md_leaves_21 rfl (lv_at hl 1 rfl) ?_
      refine lv_dup2_11 hx hb d_Md_leaves_22 rfl rfl ?_
      refine tw_aldI (ct := ct) hx hb hK hP hO_0 mqS rfl (hb_inl po_4 po_5 (by decide +kernel)) d_Md_leaves_23 (fun x_12 e_12 b_12 => ?_)
      have hQ := hQ x_12 e_12
      refine lv_iconst (v := 1) hx hb d_Md_leaves_24 (by decide +kernel) ?_
      refine lv_isub hx hb d_Md_leaves_25 ?_
      refine tw_astI (ct := ct) (x := (x_12 - 1)) hx hb hK hP hD hS hO_0 mqS rfl (hb_inl po_4 po_5 (by decide +kernel)) ⟨(show ¬ ((x_12 - 1) < 0) from by have e0 := (isin_pos eqT eqS ra_7 e_12 b_12.1); rw [Int32.lt_iff_toInt_lt] at e0; have e1 := b_12.2; rw [Int32.lt_iff_toInt_lt] at e1; have z0 : (0 : Int32).toInt = 0 := (by decide +kernel); have z1 : (1 : Int32).toInt = 1 := (by decide +kernel); have z2 : (40 : Int32).toInt = 40 := (by decide +kernel); have ss := fb_subI (x := x_12) (y := 1) (by omega) (by omega); rw [Int32.lt_iff_toInt_lt]; omega), (show ¬ (40 < (x_12 - 1)) from by have e0 := (isin_pos eqT eqS ra_7 e_12 b_12.1); rw [Int32.lt_iff_toInt_lt] at e0; have e1 := b_12.2; rw [Int32.lt_iff_toInt_lt] at e1; have z0 : (1 : Int32).toInt = 1 := (by decide +kernel); have z1 : (40 : Int32).toInt = 40 := (by decide +kernel); have ss := fb_subI (x := x_12) (y := 1) (by omega) (by omega); rw [Int32.lt_iff_toInt_lt]; omega)⟩ d_Md_leaves_26 (fun f_1 H locs hP hD hS hO_1 hE_1 w_13 ow_13 hF_1 => ?_)
      have hA_1 := hA_0.trans hE_1
      have hQ := hQ f_1 hF_1
      have hQ := hQ hO_1
      refine lv_iload_n hx hb d_Md_leaves_27 rfl (lv_at hl 0 rfl) ?_
      refine lv_istore (lv' := [(4, .int r_8), (3, .int r_8), (2, .int r_2), (0, .ref q0), (1, .int p_0)]) hx hb d_Md_leaves_28 hl (by decide) rfl (fun ls hl => ?_)
      have cut_14 : ∀ (n_14 : Nat) (v4_14 : Int32) (L_2 : List Nat) (f_2 : TF) (H : Heap) (locs : List Loc) (ls : Array Slot), va_P (dC, dI) vwCl (TW ct L_2 f_2) H → va_D A (TW ct L_2 f_2) → va_S A s.heap H locs → Ok L_2 f_2 → Ext WL_Md_leaves_w_30_14 L f_1 L_2 f_2 → ¬ (v4_14 < 0) → ¬ (39 < v4_14) → THole f_2 qT qS (r_2 : Int32).toNatClampNeg (v4_14 : Int32).toNatClampNeg (x_12 : Int32).toNatClampNeg → (39 : Int32).toInt - (v4_14 : Int32).toInt ≤ (n_14 : Int) → wpL_Md_leaves_w_30_14 L f q0 p_0 qT qS r_2 r_8 x_12 f_1 Q n_14 v4_14 L_2 f_2 → lv_has ls 5 [(0, .ref q0), (2, .int r_2), (4, .int v4_14)] → W p l e (headSpec (.code y_Md_leaves b_Md_leaves 5 none :: TB) ({ frames := 2, cells := 0, slots := 0, locals := 46 })).room s m [.ref q0, .int p_0].toArray below meth c H locs 0 0 (MQ below (va_Qv (fun (u : TSt) => Ok u.1 u.2 ∧ Ext W_Md_leaves_w L f u.1 u.2 ∧ TInv u.2 q0 ∧ (True) ∧ Q u.1 u.2) (fun (u : TSt) t => va_P (dC, dI) vwCl (TW ct u.1 u.2) t.heap ∧ va_K (dC, dI) vwCl (TT ct) t ∧ va_D (va_A (TW ct L f) s.heap.size) (TW ct u.1 u.2)) (va_A (TW ct L f) s.heap.size)) [.ref q0, .int p_0].toArray s 0 0 (va_A (TW ct L f) s.heap.size)) (F0 m 30 ls []) := by
        intro n_14
        induction n_14 using Nat.strongRecOn with
        | _ n_14 ih_14 =>
          intro v4_14 L_2 f_2 H locs ls hP hD hS hO_2 hE_2 iv0_14 iv1_14 rw_14 hm_14 hQ hl
          have hA_2 := hA_1.trans hE_2
          rw [wpL_Md_leaves_w_30_14_eq] at hQ
          obtain ⟨rec_14, hrec_14⟩ : ∃ g, wpR_Md_leaves_w_30_14 L f q0 p_0 qT qS r_2 r_8 x_12 f_1 Q n_14 = g := ⟨_, rfl⟩
          rw [hrec_14] at hQ
          unfold wpB_Md_leaves_w_30_14 at hQ
          have hQ := hQ hO_2 hE_2
          refine lv_iload hx hb d_Md_leaves_30 (lv_at hl 2 rfl) ?_
          refine lv_aload_n hx hb d_Md_leaves_32 rfl (lv_at hl 0 rfl) ?_
          refine tw_getR (D := (dC, dI)) (C := R_Md) (T := F_Md) (N := 64) (ci := 7) (kd := 27) (ct := ct) hx hb htb i_Md hown hK hP (hA_2.m m0) rfl rfl 19 ((hA_2.er m0 rfl).trans eqS) (by decide) (htb (.fieldLink R_Md 88 "WaterMenModel" "turns" "[I") tw_98) (fun _ h9 => h9) rfl d_Md_leaves_33 ?_
          refine hb_tv (.ref qS) rfl ?_
          refine lv_iload_n hx hb d_Md_leaves_36 rfl (lv_at hl 1 rfl) ?_
          refine tw_aldxI (ct := ct) (x := (x_12 - 1)) hx hb hK hP (hA_2.m mqS) rfl (hb_inl po_4 po_5 (by decide +kernel)) ((hE_2.ei (hA_1.m mqS) rfl).trans w_13) d_Md_leaves_37 ?_
          refine lv_icmp_ge (tgt := 73) hx hb d_Md_leaves_38 (by decide) (fun c_16 => ?_) (fun c_16 => ?_)
          · have hQ := hQ.1 c_16
            refine W.widen (k := 0) (n := 0) (Nat.le_of_ble_eq_true rfl) (Nat.le_of_ble_eq_true rfl) ?_
            exact W.vret hx hb hr (fun t ht hW => ⟨⟨(L_2, f_2), rfl, ⟨hO_2, hA_2.mono (by decide +kernel), (hole_end ((hA_2.er m0 rfl).trans eqT) ((hA_2.er m0 rfl).trans eqS) rw_14 iv0_14 ((hE_2.ei (hA_1.m mqS) rfl).trans w_13) (show ¬ ((x_12 - 1) < 0) from by have e0 := (isin_pos eqT eqS ra_7 e_12 b_12.1); rw [Int32.lt_iff_toInt_lt] at e0; have e1 := b_12.2; rw [Int32.lt_iff_toInt_lt] at e1; have z0 : (0 : Int32).toInt = 0 := (by decide +kernel); have z1 : (1 : Int32).toInt = 1 := (by decide +kernel); have z2 : (40 : Int32).toInt = 40 := (by decide +kernel); have ss := fb_subI (x := x_12) (y := 1) (by omega) (by omega); rw [Int32.lt_iff_toInt_lt]; omega) (pred_nat (isin_pos eqT eqS ra_7 e_12 b_12.1)).2 c_16), trivial, hQ⟩, by rw [ht]; exact hP, va_K.moved hW.alike hK, by rw [hAe]; exact hD⟩, by rw [hAe]; exact hS.F ht⟩) (by rw [hAe]; exact hS.2.2) d_Md_leaves_73
          · have hQ := hQ.2 c_16
            refine lv_aload_n hx hb d_Md_leaves_41 rfl (lv_at hl 0 rfl) ?_
            refine tw_getR (D := (dC, dI)) (C := R_Md) (T := F_Md) (N := 64) (ci := 7) (kd := 27) (ct := ct) hx hb htb i_Md hown hK hP (hA_2.m m0) rfl rfl 20 ((hA_2.er m0 rfl).trans eqT) (by decide) (htb (.fieldLink R_Md 91 "WaterMenModel" "turn" "[I") tw_99) (fun _ h9 => h9) rfl d_Md_leaves_42 ?_
            refine hb_tv (.ref qT) rfl ?_
            refine lv_bipush (v := 40) hx hb d_Md_leaves_45 (by decide +kernel) ?_
            refine lv_iload_n hx hb d_Md_leaves_47 rfl (lv_at hl 1 rfl) ?_
            refine lv_imul hx hb d_Md_leaves_48 ?_
            refine lv_iload hx hb d_Md_leaves_49 (lv_at hl 2 rfl) ?_
            refine lv_iadd hx hb d_Md_leaves_51 ?_
            refine lv_aload_n hx hb d_Md_leaves_52 rfl (lv_at hl 0 rfl) ?_
            refine tw_getR (D := (dC, dI)) (C := R_Md) (T := F_Md) (N := 64) (ci := 7) (kd := 27) (ct := ct) hx hb htb i_Md hown hK hP (hA_2.m m0) rfl rfl 20 ((hA_2.er m0 rfl).trans eqT) (by decide) (htb (.fieldLink R_Md 91 "WaterMenModel" "turn" "[I") tw_99) (fun _ h9 => h9) rfl d_Md_leaves_53 ?_
            refine hb_tv (.ref qT) rfl ?_
            refine lv_bipush (v := 40) hx hb d_Md_leaves_56 (by decide +kernel) ?_
            refine lv_iload_n hx hb d_Md_leaves_58 rfl (lv_at hl 1 rfl) ?_
            refine lv_imul hx hb d_Md_leaves_59 ?_
            refine lv_iload hx hb d_Md_leaves_60 (lv_at hl 2 rfl) ?_
            refine lv_iadd hx hb d_Md_leaves_62 ?_
            refine lv_iconst (v := 1) hx hb d_Md_leaves_63 (by decide +kernel) ?_
            refine lv_iadd hx hb d_Md_leaves_64 ?_
            refine tw_aldI (ct := ct) hx hb hK hP hO_2 (hA_2.m mqT) rfl ((fun (a_0 : Int32) (a_1 : Int32) (a_2 : Int32) (a_3 : Int32) (k_0 : ¬ (a_0 < 0)) (k_1 : ¬ (a_1 ≤ a_0)) (k_2 : ¬ (a_2 < 0)) (k_3 : ¬ (12 < a_1)) (k_4 : ¬ (40 < a_3)) (k_5 : ¬ (a_3 < 1)) (k_6 : ¬ ((a_3 - 1) ≤ a_2)) => (show vp_in ((((40 * a_0) + a_2) + 1)) 480 from by have z0 : (0 : Int32).toInt = 0 := (by decide +kernel); have z1 : (1 : Int32).toInt = 1 := (by decide +kernel); have z2 : (12 : Int32).toInt = 12 := (by decide +kernel); have z3 : (40 : Int32).toInt = 40 := (by decide +kernel); have r0 := fb_rng (a_0); have r1 := fb_rng (a_1); have r2 := fb_rng (a_2); have r3 := fb_rng (a_3); have e0 := k_0; rw [Int32.lt_iff_toInt_lt, z0] at e0; have e1 := k_1; rw [Int32.le_iff_toInt_le] at e1; have e2 := k_2; rw [Int32.lt_iff_toInt_lt, z0] at e2; have e3 := k_3; rw [Int32.lt_iff_toInt_lt, z2] at e3; have e4 := k_4; rw [Int32.lt_iff_toInt_lt, z3] at e4; have e5 := k_5; rw [Int32.lt_iff_toInt_lt, z1] at e5; obtain ⟨n_0, hn_0, s0⟩ := nd_sub (x := (a_3)) (y := (1 : Int32)) (by (try rw [z1]); omega) (by (try rw [z1]); omega); rw [z1] at s0; have e6 := k_6; rw [hn_0, Int32.le_iff_toInt_le] at e6; obtain ⟨n_1, hn_1, s1⟩ := nd_mul (x := (40 : Int32)) (y := (a_0)) (by (try rw [z3]); omega) (by (try rw [z3]); omega); rw [z3] at s1; obtain ⟨n_2, hn_2, s2⟩ := nd_add (x := n_1) (y := (a_2)) (by omega) (by omega); obtain ⟨n_3, hn_3, s3⟩ := nd_add (x := n_2) (y := (1 : Int32)) (by (try rw [z1]); omega) (by (try rw [z1]); omega); rw [z1] at s3; rw [hn_1, hn_2, hn_3, vp_in_iff]; omega)) r_2 (ti f q0 2) v4_14 x_12 po_4 po_6 iv0_14 bs_1.2 b_12.2 (isin_pos eqT eqS ra_7 e_12 b_12.1) c_16) d_Md_leaves_65 (fun x_17 e_17 b_17 => ?_)
            have hQ := hQ x_17 e_17
            refine tw_astI (ct := ct) (x := x_17) hx hb hK hP hD hS hO_2 (hA_2.m mqT) rfl ((fun (a_0 : Int32) (a_1 : Int32) (a_2 : Int32) (a_3 : Int32) (k_0 : ¬ (a_0 < 0)) (k_1 : ¬ (a_1 ≤ a_0)) (k_2 : ¬ (a_2 < 0)) (k_3 : ¬ (12 < a_1)) (k_4 : ¬ (40 < a_3)) (k_5 : ¬ (a_3 < 1)) (k_6 : ¬ ((a_3 - 1) ≤ a_2)) => (show vp_in (((40 * a_0) + a_2)) 480 from by have z0 : (0 : Int32).toInt = 0 := (by decide +kernel); have z1 : (1 : Int32).toInt = 1 := (by decide +kernel); have z2 : (12 : Int32).toInt = 12 := (by decide +kernel); have z3 : (40 : Int32).toInt = 40 := (by decide +kernel); have r0 := fb_rng (a_0); have r1 := fb_rng (a_1); have r2 := fb_rng (a_2); have r3 := fb_rng (a_3); have e0 := k_0; rw [Int32.lt_iff_toInt_lt, z0] at e0; have e1 := k_1; rw [Int32.le_iff_toInt_le] at e1; have e2 := k_2; rw [Int32.lt_iff_toInt_lt, z0] at e2; have e3 := k_3; rw [Int32.lt_iff_toInt_lt, z2] at e3; have e4 := k_4; rw [Int32.lt_iff_toInt_lt, z3] at e4; have e5 := k_5; rw [Int32.lt_iff_toInt_lt, z1] at e5; obtain ⟨n_0, hn_0, s0⟩ := nd_sub (x := (a_3)) (y := (1 : Int32)) (by (try rw [z1]); omega) (by (try rw [z1]); omega); rw [z1] at s0; have e6 := k_6; rw [hn_0, Int32.le_iff_toInt_le] at e6; obtain ⟨n_1, hn_1, s1⟩ := nd_mul (x := (40 : Int32)) (y := (a_0)) (by (try rw [z3]); omega) (by (try rw [z3]); omega); rw [z3] at s1; obtain ⟨n_2, hn_2, s2⟩ := nd_add (x := n_1) (y := (a_2)) (by omega) (by omega); rw [hn_1, hn_2, vp_in_iff]; omega)) r_2 (ti f q0 2) v4_14 x_12 po_4 po_6 iv0_14 bs_1.2 b_12.2 (isin_pos eqT eqS ra_7 e_12 b_12.1) c_16) ⟨b_17.1, b_17.2⟩ d_Md_leaves_66 (fun f_3 H locs hP hD hS hO_3 hE_3 w_18 ow_18 hF_3 => ?_)
            have hA_3 := hA_2.trans hE_3
            have hQ := hQ f_3 hF_3
            have hQ := hQ hO_3
            refine lv_iinc (v := (v4_14 + 1)) (lv' := [(4, .int (v4_14 + 1)), (0, .ref q0), (2, .int r_2)]) hx hb d_Md_leaves_67 hl (k := 2) rfl rfl (by decide) rfl (fun ls hl => ?_)
            refine lv_goto (tgt := 30) hx hb d_Md_leaves_70 (by decide) ?_
            exact ih_14 (n_14 - 1) (ms_1 ((fun (a_0 : Int32) (a_1 : Int32) (k_0 : ¬ (40 < a_1)) (k_1 : ¬ (a_1 < 1)) (k_2 : ¬ ((a_1 - 1) ≤ a_0)) => (show 1 ≤ (39 : Int32).toInt - (a_0).toInt ∧ (39 : Int32).toInt - ((a_0) + (1 : Int32)).toInt + 1 ≤ (39 : Int32).toInt - (a_0).toInt from by have z0 : (1 : Int32).toInt = 1 := (by decide +kernel); have z1 : (39 : Int32).toInt = 39 := (by decide +kernel); have z2 : (40 : Int32).toInt = 40 := (by decide +kernel); have r0 := fb_rng (a_0); have r1 := fb_rng (a_1); have e0 := k_0; rw [Int32.lt_iff_toInt_lt, z2] at e0; have e1 := k_1; rw [Int32.lt_iff_toInt_lt, z0] at e1; obtain ⟨n_0, hn_0, s0⟩ := nd_sub (x := (a_1)) (y := (1 : Int32)) (by (try rw [z0]); omega) (by (try rw [z0]); omega); rw [z0] at s0; have e2 := k_2; rw [hn_0, Int32.le_iff_toInt_le] at e2; obtain ⟨n_1, hn_1, s1⟩ := nd_add (x := (a_0)) (y := (1 : Int32)) (by (try rw [z0]); omega) (by (try rw [z0]); omega); rw [z0] at s1; rw [hn_1]; (try rw [z1]); omega)) v4_14 x_12 b_12.2 (isin_pos eqT eqS ra_7 e_12 b_12.1) c_16) hm_14) (v4_14 + 1) _ _ _ _ _ hP hD hS hO_3 ((hE_2.trans hE_3).mono (by decide +kernel)) (show ¬ ((v4_14 + 1) < 0) from by have e0 := iv0_14; rw [Int32.lt_iff_toInt_lt] at e0; have e1 := iv1_14; rw [Int32.lt_iff_toInt_lt] at e1; have z0 : (0 : Int32).toInt = 0 := (by decide +kernel); have z1 : (1 : Int32).toInt = 1 := (by decide +kernel); have z2 : (39 : Int32).toInt = 39 := (by decide +kernel); have ss := fb_addI (x := v4_14) (y := 1) (by omega) (by omega); rw [Int32.lt_iff_toInt_lt]; omega) (show ¬ (39 < (v4_14 + 1)) from ((fun (a_0 : Int32) (a_1 : Int32) (k_0 : ¬ (40 < a_1)) (k_1 : ¬ (a_1 < 1)) (k_2 : ¬ ((a_1 - 1) ≤ a_0)) => (show ¬ (39 < (a_0 + 1)) from by have z0 : (1 : Int32).toInt = 1 := (by decide +kernel); have z1 : (39 : Int32).toInt = 39 := (by decide +kernel); have z2 : (40 : Int32).toInt = 40 := (by decide +kernel); have r0 := fb_rng (a_0); have r1 := fb_rng (a_1); have e0 := k_0; rw [Int32.lt_iff_toInt_lt, z2] at e0; have e1 := k_1; rw [Int32.lt_iff_toInt_lt, z0] at e1; obtain ⟨n_0, hn_0, s0⟩ := nd_sub (x := (a_1)) (y := (1 : Int32)) (by (try rw [z0]); omega) (by (try rw [z0]); omega); rw [z0] at s0; have e2 := k_2; rw [hn_0, Int32.le_iff_toInt_le] at e2; obtain ⟨n_1, hn_1, s1⟩ := nd_add (x := (a_0)) (y := (1 : Int32)) (by (try rw [z0]); omega) (by (try rw [z0]); omega); rw [z0] at s1; rw [hn_1, Int32.lt_iff_toInt_lt, z1]; omega)) v4_14 x_12 b_12.2 (isin_pos eqT eqS ra_7 e_12 b_12.1) c_16)) (hole_next rw_14 po_4 po_5 iv0_14 (show ¬ (38 < v4_14) from ((fun (a_0 : Int32) (a_1 : Int32) (k_0 : ¬ (40 < a_1)) (k_1 : ¬ (a_1 < 1)) (k_2 : ¬ ((a_1 - 1) ≤ a_0)) => (show ¬ (38 < a_0) from by have z0 : (1 : Int32).toInt = 1 := (by decide +kernel); have z1 : (38 : Int32).toInt = 38 := (by decide +kernel); have z2 : (40 : Int32).toInt = 40 := (by decide +kernel); have r0 := fb_rng (a_0); have r1 := fb_rng (a_1); have e0 := k_0; rw [Int32.lt_iff_toInt_lt, z2] at e0; have e1 := k_1; rw [Int32.lt_iff_toInt_lt, z0] at e1; obtain ⟨n_0, hn_0, s0⟩ := nd_sub (x := (a_1)) (y := (1 : Int32)) (by (try rw [z0]); omega) (by (try rw [z0]); omega); rw [z0] at s0; have e2 := k_2; rw [hn_0, Int32.le_iff_toInt_le] at e2; rw [Int32.lt_iff_toInt_lt, z1]; omega)) v4_14 x_12 b_12.2 (isin_pos eqT eqS ra_7 e_12 b_12.1) c_16)) (lt_pred c_16 iv0_14 (isin_pos eqT eqS ra_7 e_12 b_12.1)) (fun s' hs => cnt40 hO_2 (hA_2.m mqS) hs) (le40 b_12.1 b_12.2) e_17 w_18 ow_18 (fun j => hE_3.ei (hA_2.m mqS) rfl)) (by exact ms_2 ((fun (a_0 : Int32) (a_1 : Int32) (k_0 : ¬ (40 < a_1)) (k_1 : ¬ (a_1 < 1)) (k_2 : ¬ ((a_1 - 1) ≤ a_0)) => (show 1 ≤ (39 : Int32).toInt - (a_0).toInt ∧ (39 : Int32).toInt - ((a_0) + (1 : Int32)).toInt + 1 ≤ (39 : Int32).toInt - (a_0).toInt from by have z0 : (1 : Int32).toInt = 1 := (by decide +kernel); have z1 : (39 : Int32).toInt = 39 := (by decide +kernel); have z2 : (40 : Int32).toInt = 40 := (by decide +kernel); have r0 := fb_rng (a_0); have r1 := fb_rng (a_1); have e0 := k_0; rw [Int32.lt_iff_toInt_lt, z2] at e0; have e1 := k_1; rw [Int32.lt_iff_toInt_lt, z0] at e1; obtain ⟨n_0, hn_0, s0⟩ := nd_sub (x := (a_1)) (y := (1 : Int32)) (by (try rw [z0]); omega) (by (try rw [z0]); omega); rw [z0] at s0; have e2 := k_2; rw [hn_0, Int32.le_iff_toInt_le] at e2; obtain ⟨n_1, hn_1, s1⟩ := nd_add (x := (a_0)) (y := (1 : Int32)) (by (try rw [z0]); omega) (by (try rw [z0]); omega); rw [z0] at s1; rw [hn_1]; (try rw [z1]); omega)) v4_14 x_12 b_12.2 (isin_pos eqT eqS ra_7 e_12 b_12.1) c_16) hm_14) (by rw [← hrec_14, wpR_Md_leaves_w_30_14_pos (ms_3 ((fun (a_0 : Int32) (a_1 : Int32) (k_0 : ¬ (40 < a_1)) (k_1 : ¬ (a_1 < 1)) (k_2 : ¬ ((a_1 - 1) ≤ a_0)) => (show 1 ≤ (39 : Int32).toInt - (a_0).toInt ∧ (39 : Int32).toInt - ((a_0) + (1 : Int32)).toInt + 1 ≤ (39 : Int32).toInt - (a_0).toInt from by have z0 : (1 : Int32).toInt = 1 := (by decide +kernel); have z1 : (39 : Int32).toInt = 39 := (by decide +kernel); have z2 : (40 : Int32).toInt = 40 := (by decide +kernel); have r0 := fb_rng (a_0); have r1 := fb_rng (a_1); have e0 := k_0; rw [Int32.lt_iff_toInt_lt, z2] at e0; have e1 := k_1; rw [Int32.lt_iff_toInt_lt, z0] at e1; obtain ⟨n_0, hn_0, s0⟩ := nd_sub (x := (a_1)) (y := (1 : Int32)) (by (try rw [z0]); omega) (by (try rw [z0]); omega); rw [z0] at s0; have e2 := k_2; rw [hn_0, Int32.le_iff_toInt_le] at e2; obtain ⟨n_1, hn_1, s1⟩ := nd_add (x := (a_0)) (y := (1 : Int32)) (by (try rw [z0]); omega) (by (try rw [z0]); omega); rw [z0] at s1; rw [hn_1]; (try rw [z1]); omega)) v4_14 x_12 b_12.2 (isin_pos eqT eqS ra_7 e_12 b_12.1) c_16) hm_14)] at hQ; exact hQ) (lv_sub hl [1, 2, 0] rfl)
      exact cut_14 ((39 : Int32).toInt - (r_8 : Int32).toInt).toNat r_8 _ _ _ _ _ hP hD hS hO_1 Ext.rf po_10 po_11 (hole_start eqT eqS hT po_4 po_5 e_12 ow_13 (fun j => hE_1.ei mqT rfl)) (by exact ms_e _ _) hQ (lv_sub hl [3, 2, 0] rfl)
