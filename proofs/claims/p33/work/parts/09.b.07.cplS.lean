section LINE
variable {L : List Nat} {f : TF} {B : Nat → Int32} {N : Nat}
/-- what is owed where the program stops in a line -/
def KX (L : List Nat) (qT qB qO qF qH qS : Nat) (f0 : TF) (B : Nat → Int32) (N : Nat) (Q : Int32 → List Nat → TF → Prop) (r : LR) : Prop := ∀ f' : TF, AtX f' qT qB B N r.2.1 → OrdX f' qO qF qH qS r.2.2 → FX [qT, qO, qF, qH, qS] f0 f' → Ok L f' → Q (cond r.1 1 0) L f'
section RDX
variable {qT qB qO qF qH qS b : Nat} {o : OS} {f0 : TF} {Q : Int32 → List Nat → TF → Prop}
theorem num_K {r : Nat → LR} {Q' : Int32 → List Nat → TF → Prop} (hd : Dis qT qB qO qF qH qS) (hN : N ≤ 400) (hA : AtX f qT qB B N b) (hOr : OrdX f qO qF qH qS o) (hF : FX [qT, qO, qF, qH, qS] f0 f) (hO : Ok L f) (hK : KX L qT qB qO qF qH qS f0 B N Q (ex B N o 1 r b)) (h1 : tC B N b = 1 → ∀ f' : TF, AtX f' qT qB B N (tE B N b) → OrdX f' qO qF qH qS o → FX [qT, qO, qF, qH, qS] f0 f' → Ok L f' → KX L qT qB qO qF qH qS f0 B N Q (r (tE B N b)) → Q' 1 L f') (h0 : Q 0 L f → Q' 0 L f) : wp_Tp_stepOverNumber_w L f qT Q' :=
  num_x hd.1 hN hA (fun c f' a fr hO' => h1 c f' a (hOr.tape hd fr) (hF.trans (fr.fx (by simp))) hO' (by rw [ex_y c] at hK; exact hK)) (fun c => h0 (by rw [ex_n c] at hK; exact hK f hA hOr hF hO))
theorem wd_K {si : Nat} {c : Int32} {r : Nat → LR} {Q' : Int32 → List Nat → TF → Prop} (hsi : si < 11) (hc : wc si = c) (hd : Dis qT qB qO qF qH qS) (hN : N ≤ 400) (hA : AtX f qT qB B N b) (hOr : OrdX f qO qF qH qS o) (hF : FX [qT, qO, qF, qH, qS] f0 f) (hO : Ok L f) (hK : KX L qT qB qO qF qH qS f0 B N Q (ex B N o c r b)) (h1 : ∀ f' : TF, AtX f' qT qB B N (tE B N b) → OrdX f' qO qF qH qS o → FX [qT, qO, qF, qH, qS] f0 f' → Ok L f' → KX L qT qB qO qF qH qS f0 B N Q (r (tE B N b)) → Q' 1 L f') (h0 : Q 0 L f → Q' 0 L f) : wp_Tp_stepOverWord_w L f qT si Q' := by
  subst hc
  exact wd_x hd.1 hN hsi hA (fun c f' a fr hO' => h1 f' a (hOr.tape hd fr) (hF.trans (fr.fx (by simp))) hO' (by rw [ex_y c] at hK; exact hK)) (fun c => h0 (by rw [ex_n c] at hK; exact hK f hA hOr hF hO))
theorem sub4 {z : Nat} (h : z ∈ [qO, qF, qH, qS]) : z ∈ [qT, qO, qF, qH, qS] := List.mem_cons_of_mem _ h
/-- the end of a line -/
theorem end_K {x : Int32} {AL : (List Nat → TF → Prop) → Prop} {WA : List (Nat × Nat)} {o' : OS} (hd : Dis qT qB qO qF qH qS) (hN : N ≤ 400) (hA : AtX f qT qB B N b) (hOr : OrdX f qO qF qH qS o) (hF : FX [qT, qO, qF, qH, qS] f0 f) (hO : Ok L f) (hK : KX L qT qB qO qF qH qS f0 B N Q (ex B N o 2 (fun b' => (true, b', o')) b)) (hx : ti f qT 2 = x) (hAL : ∀ Q' : List Nat → TF → Prop, (∀ f3 : TF, OrdX f3 qO qF qH qS o' → FX [qO, qF, qH, qS] f f3 → Ok L f3 → Q' L f3) → AL Q') : (x = 3 → AL (fun (L_3 : List Nat) (f_3 : TF) => Ok L_3 f_3 → Ext WA L f L_3 f_3 → wp_Tp_step_w L_3 f_3 qT (fun (L_4 : List Nat) (f_4 : TF) => Ok L_4 f_4 → Ext W_Tp_step_w L_3 f_3 L_4 f_4 → Q 1 L_4 f_4))) ∧ (¬ (x = 3) → Q 0 L f) := by
  have hc := hA.code.2.2.1
  rw [hx] at hc
  refine ⟨fun g => hAL _ (fun f3 O3 X3 hO3 _ _ => next_x hd.1 hN (hA.ord hd X3) (fun f4 A4 fr4 hO4 _ _ => ?_)), fun g => ?_⟩
  · rw [ex_y (hc.mp g)] at hK
    exact hK f4 A4 (O3.tape hd fr4) ((hF.trans (X3.mono (fun z hz => sub4 hz))).trans (fr4.fx (by simp))) hO4
  · rw [ex_n (fun k => g (hc.mpr k))] at hK
    exact hK f hA hOr hF hO
theorem take0 {Q' : Int32 → Prop} (h : OrdX f qO qF qH qS o) (hw : WfO o) (h1 : roomO o 0 = true → Q' 1) (h0 : roomO o 0 = false → Q' 0) : wp_Or_takesLine_0_w L f qO Q' := by
  have hn := hw.1
  unfold wp_Or_takesLine_0_w
  rw [h.2.1, show (12 : Int32) = nI 12 from rfl, nI_leI (by omega) (by omega)]
  exact ⟨fun g => h0 (decide_eq_false (by omega)), fun g => h1 (decide_eq_true (by omega))⟩
theorem take1 {Q' : Int32 → Prop} (h : OrdX f qO qF qH qS o) (hw : WfO o) (h1 : roomO o 1 = true → Q' 1) (h0 : roomO o 1 = false → Q' 0) : wp_Or_takesLine_1_w L f qO Q' := by
  have hn := hw.2.1
  unfold wp_Or_takesLine_1_w
  rw [h.2.2.1, show (12 : Int32) = nI 12 from rfl, nI_leI (by omega) (by omega)]
  exact ⟨fun g => h0 (decide_eq_false (by omega)), fun g => h1 (decide_eq_true (by omega))⟩
theorem takek {k : Nat} {kI : Int32} {Q' : Int32 → Prop} (hk : kI.toNatClampNeg = k) (h9 : k < 9) (k0 : k ≠ 0) (k1 : k ≠ 1) (h : OrdX f qO qF qH qS o) (h1 : roomO o k = true → Q' 1) (h0 : roomO o k = false → Q' 0) : ∀ q_3 : Nat, tr f qO 4 = some q_3 → ∀ x_4 : Int32, ti f q_3 kI.toNatClampNeg = x_4 → ((x_4 = (-1) → Q' 1) ∧ (¬ (x_4 = (-1)) → Q' 0)) := by
  intro q3 e3 x4 e4
  rw [h.1.2.2] at e3; cases e3
  rw [hk, h.2.2.2.2.2.1 k h9] at e4
  have hr : roomO o k = decide (o.2.2.1 k = -1) := by unfold roomO; rw [if_neg k0, if_neg k1]
  rw [hr, e4] at h1 h0
  exact ⟨fun g => h1 (decide_eq_true g), fun g => h0 (decide_eq_false g)⟩
theorem take2 {Q' : Int32 → Prop} (h : OrdX f qO qF qH qS o) (h1 : roomO o 2 = true → Q' 1) (h0 : roomO o 2 = false → Q' 0) : wp_Or_takesLine_2_w L f qO Q' := takek (Q' := Q') (kI := 2) (k := 2) (by decide) (by decide) (by decide) (by decide) h h1 h0
theorem take3 {Q' : Int32 → Prop} (h : OrdX f qO qF qH qS o) (h1 : roomO o 3 = true → Q' 1) (h0 : roomO o 3 = false → Q' 0) : wp_Or_takesLine_3_w L f qO Q' := takek (Q' := Q') (kI := 3) (k := 3) (by decide) (by decide) (by decide) (by decide) h h1 h0
theorem take4 {Q' : Int32 → Prop} (h : OrdX f qO qF qH qS o) (h1 : roomO o 4 = true → Q' 1) (h0 : roomO o 4 = false → Q' 0) : wp_Or_takesLine_4_w L f qO Q' := takek (Q' := Q') (kI := 4) (k := 4) (by decide) (by decide) (by decide) (by decide) h h1 h0
theorem take5 {Q' : Int32 → Prop} (h : OrdX f qO qF qH qS o) (h1 : roomO o 5 = true → Q' 1) (h0 : roomO o 5 = false → Q' 0) : wp_Or_takesLine_5_w L f qO Q' := takek (Q' := Q') (kI := 5) (k := 5) (by decide) (by decide) (by decide) (by decide) h h1 h0
theorem take6 {Q' : Int32 → Prop} (h : OrdX f qO qF qH qS o) (h1 : roomO o 6 = true → Q' 1) (h0 : roomO o 6 = false → Q' 0) : wp_Or_takesLine_6_w L f qO Q' := takek (Q' := Q') (kI := 6) (k := 6) (by decide) (by decide) (by decide) (by decide) h h1 h0
theorem take7 {Q' : Int32 → Prop} (h : OrdX f qO qF qH qS o) (h1 : roomO o 7 = true → Q' 1) (h0 : roomO o 7 = false → Q' 0) : wp_Or_takesLine_7_w L f qO Q' := takek (Q' := Q') (kI := 7) (k := 7) (by decide) (by decide) (by decide) (by decide) h h1 h0
theorem take8 {Q' : Int32 → Prop} (h : OrdX f qO qF qH qS o) (h1 : roomO o 8 = true → Q' 1) (h0 : roomO o 8 = false → Q' 0) : wp_Or_takesLine_8_w L f qO Q' := takek (Q' := Q') (kI := 8) (k := 8) (by decide) (by decide) (by decide) (by decide) h h1 h0
theorem tail1 {k : Nat} {AL : List Nat → TF → Int32 → (List Nat → TF → Prop) → Prop} {WA : List (Nat × Nat)} (hd : Dis qT qB qO qF qH qS) (hN : N ≤ 400) (k0 : k ≠ 0) (k1 : k ≠ 1) (k6 : k ≠ 6) (hAL : ∀ (f2 : TF) (a' : Int32) (Q' : List Nat → TF → Prop), OrdX f2 qO qF qH qS o → (∀ f3 : TF, OrdX f3 qO qF qH qS (addO o k a' 0 0) → FX [qO, qF, qH, qS] f2 f3 → Ok L f3 → Q' L f3) → AL L f2 a' Q') (hA : AtX f qT qB B N b) (hOr : OrdX f qO qF qH qS o) (hF : FX [qT, qO, qF, qH, qS] f0 f) (hO : Ok L f) (hK : KX L qT qB qO qF qH qS f0 B N Q (lr B N o k (tE B N b))) : wp_Tp_step_w L f qT (fun (L_1 : List Nat) (f_1 : TF) => Ok L_1 f_1 → Ext W_Tp_step_w L f L_1 f_1 → ∀ x_1 : Int32, ti f_1 qT 5 = x_1 → wp_Tp_stepOverNumber_w L_1 f_1 qT (fun (r_1 : Int32) (L_2 : List Nat) (f_2 : TF) => Ok L_2 f_2 → Ext W_Tp_stepOverNumber_w L_1 f_1 L_2 f_2 → ((r_1 = 0 → Q 0 L_2 f_2) ∧ (r_1 = 1 → ∀ x_9 : Int32, ti f_2 qT 2 = x_9 → ((x_9 = 3 → AL L_2 f_2 x_1 (fun (L_8 : List Nat) (f_8 : TF) => Ok L_8 f_8 → Ext WA L_2 f_2 L_8 f_8 → wp_Tp_step_w L_8 f_8 qT (fun (L_9 : List Nat) (f_9 : TF) => Ok L_9 f_9 → Ext W_Tp_step_w L_8 f_8 L_9 f_9 → Q 1 L_9 f_9))) ∧ (¬ (x_9 = 3) → Q 0 L_2 f_2)))))) := by
  unfold lr at hK
  rw [if_neg (by omega), if_neg k6] at hK
  refine next_x hd.1 hN hA (fun f1 A1 fr1 hO1 _ _ => ?_)
  have O1 := hOr.tape hd fr1
  have F1 : FX [qT, qO, qF, qH, qS] f0 f1 := hF.trans (fr1.fx (by simp))
  have K1 := hK
  intro x1 e1
  refine num_K hd hN A1 O1 F1 hO1 K1 (fun c1 f2 A2 O2 F2 hO2 K2 _ _ => ⟨fun k => absurd k (by decide), fun _ => ?_⟩) (fun q _ _ => ⟨fun _ => q, fun k => absurd k (by decide)⟩)
  rw [A1.code.2.2.2.2 c1] at e1
  subst e1
  intro x9 e9
  exact end_K hd hN A2 O2 F2 hO2 K2 e9 (fun Q' hq => hAL f2 _ Q' O2 hq)
theorem tail6 {k : Nat} {AL : List Nat → TF → Int32 → Int32 → (List Nat → TF → Prop) → Prop} {WA : List (Nat × Nat)} (hd : Dis qT qB qO qF qH qS) (hN : N ≤ 400) (k6 : k = 6) (hAL : ∀ (f2 : TF) (a' b' : Int32) (Q' : List Nat → TF → Prop), OrdX f2 qO qF qH qS o → (∀ f3 : TF, OrdX f3 qO qF qH qS (addO o k a' b' 0) → FX [qO, qF, qH, qS] f2 f3 → Ok L f3 → Q' L f3) → AL L f2 a' b' Q') (hA : AtX f qT qB B N b) (hOr : OrdX f qO qF qH qS o) (hF : FX [qT, qO, qF, qH, qS] f0 f) (hO : Ok L f) (hK : KX L qT qB qO qF qH qS f0 B N Q (lr B N o k (tE B N b))) : wp_Tp_step_w L f qT (fun (L_1 : List Nat) (f_1 : TF) => Ok L_1 f_1 → Ext W_Tp_step_w L f L_1 f_1 → ∀ x_1 : Int32, ti f_1 qT 5 = x_1 → wp_Tp_stepOverNumber_w L_1 f_1 qT (fun (r_1 : Int32) (L_2 : List Nat) (f_2 : TF) => Ok L_2 f_2 → Ext W_Tp_stepOverNumber_w L_1 f_1 L_2 f_2 → ((r_1 = 0 → Q 0 L_2 f_2) ∧ (r_1 = 1 → wp_Tp_stepOverWord_w L_2 f_2 qT 9 (fun (r_2 : Int32) (L_3 : List Nat) (f_3 : TF) => Ok L_3 f_3 → Ext W_Tp_stepOverWord_w L_2 f_2 L_3 f_3 → ((r_2 = 0 → Q 0 L_3 f_3) ∧ (r_2 = 1 → ∀ x_2 : Int32, ti f_3 qT 5 = x_2 → wp_Tp_stepOverNumber_w L_3 f_3 qT (fun (r_3 : Int32) (L_4 : List Nat) (f_4 : TF) => Ok L_4 f_4 → Ext W_Tp_stepOverNumber_w L_3 f_3 L_4 f_4 → ((r_3 = 0 → Q 0 L_4 f_4) ∧ (r_3 = 1 → ∀ x_9 : Int32, ti f_4 qT 2 = x_9 → ((x_9 = 3 → AL L_4 f_4 x_1 x_2 (fun (L_8 : List Nat) (f_8 : TF) => Ok L_8 f_8 → Ext WA L_4 f_4 L_8 f_8 → wp_Tp_step_w L_8 f_8 qT (fun (L_9 : List Nat) (f_9 : TF) => Ok L_9 f_9 → Ext W_Tp_step_w L_8 f_8 L_9 f_9 → Q 1 L_9 f_9))) ∧ (¬ (x_9 = 3) → Q 0 L_4 f_4)))))))))))) := by
  unfold lr at hK
  rw [if_neg (by omega), if_pos k6] at hK
  refine next_x hd.1 hN hA (fun f1 A1 fr1 hO1 _ _ => ?_)
  have O1 := hOr.tape hd fr1
  have F1 : FX [qT, qO, qF, qH, qS] f0 f1 := hF.trans (fr1.fx (by simp))
  have K1 := hK
  intro x1 e1
  refine num_K hd hN A1 O1 F1 hO1 K1 (fun c1 f2 A2 O2 F2 hO2 K2 _ _ => ⟨fun k => absurd k (by decide), fun _ => ?_⟩) (fun q _ _ => ⟨fun _ => q, fun k => absurd k (by decide)⟩)
  rw [A1.code.2.2.2.2 c1] at e1
  subst e1
  refine wd_K (si := 9) (by decide) (by decide) hd hN A2 O2 F2 hO2 K2 (fun f3 A3 O3 F3 hO3 K3 _ _ => ⟨fun k => absurd k (by decide), fun _ => ?_⟩) (fun q _ _ => ⟨fun _ => q, fun k => absurd k (by decide)⟩)
  intro x2 e2
  refine num_K hd hN A3 O3 F3 hO3 K3 (fun c2 f4 A4 O4 F4 hO4 K4 _ _ => ⟨fun k => absurd k (by decide), fun _ => ?_⟩) (fun q _ _ => ⟨fun _ => q, fun k => absurd k (by decide)⟩)
  rw [A3.code.2.2.2.2 c2] at e2
  subst e2
  intro x9 e9
  exact end_K hd hN A4 O4 F4 hO4 K4 e9 (fun Q' hq => hAL f4 _ _ Q' O4 hq)
theorem tail0 {k : Nat} {AL : List Nat → TF → Int32 → Int32 → Int32 → (List Nat → TF → Prop) → Prop} {WA : List (Nat × Nat)} (hd : Dis qT qB qO qF qH qS) (hN : N ≤ 400) (k01 : k = 0 ∨ k = 1) (hAL : ∀ (f2 : TF) (a' b' n' : Int32) (Q' : List Nat → TF → Prop), OrdX f2 qO qF qH qS o → (∀ f3 : TF, OrdX f3 qO qF qH qS (addO o k a' b' n') → FX [qO, qF, qH, qS] f2 f3 → Ok L f3 → Q' L f3) → AL L f2 a' b' n' Q') (hA : AtX f qT qB B N b) (hOr : OrdX f qO qF qH qS o) (hF : FX [qT, qO, qF, qH, qS] f0 f) (hO : Ok L f) (hK : KX L qT qB qO qF qH qS f0 B N Q (lr B N o k (tE B N b))) : wp_Tp_step_w L f qT (fun (L_1 : List Nat) (f_1 : TF) => Ok L_1 f_1 → Ext W_Tp_step_w L f L_1 f_1 → ∀ x_1 : Int32, ti f_1 qT 5 = x_1 → wp_Tp_stepOverNumber_w L_1 f_1 qT (fun (r_1 : Int32) (L_2 : List Nat) (f_2 : TF) => Ok L_2 f_2 → Ext W_Tp_stepOverNumber_w L_1 f_1 L_2 f_2 → ((r_1 = 0 → Q 0 L_2 f_2) ∧ (r_1 = 1 → wp_Tp_stepOverWord_w L_2 f_2 qT 9 (fun (r_2 : Int32) (L_3 : List Nat) (f_3 : TF) => Ok L_3 f_3 → Ext W_Tp_stepOverWord_w L_2 f_2 L_3 f_3 → ((r_2 = 0 → Q 0 L_3 f_3) ∧ (r_2 = 1 → ∀ x_2 : Int32, ti f_3 qT 5 = x_2 → wp_Tp_stepOverNumber_w L_3 f_3 qT (fun (r_3 : Int32) (L_4 : List Nat) (f_4 : TF) => Ok L_4 f_4 → Ext W_Tp_stepOverNumber_w L_3 f_3 L_4 f_4 → ((r_3 = 0 → Q 0 L_4 f_4) ∧ (r_3 = 1 → wp_Tp_stepOverWord_w L_4 f_4 qT 10 (fun (r_4 : Int32) (L_5 : List Nat) (f_5 : TF) => Ok L_5 f_5 → Ext W_Tp_stepOverWord_w L_4 f_4 L_5 f_5 → ((r_4 = 0 → Q 0 L_5 f_5) ∧ (r_4 = 1 → ∀ x_3 : Int32, ti f_5 qT 5 = x_3 → wp_Tp_stepOverNumber_w L_5 f_5 qT (fun (r_5 : Int32) (L_6 : List Nat) (f_6 : TF) => Ok L_6 f_6 → Ext W_Tp_stepOverNumber_w L_5 f_5 L_6 f_6 → ((r_5 = 0 → Q 0 L_6 f_6) ∧ (r_5 = 1 → ∀ x_9 : Int32, ti f_6 qT 2 = x_9 → ((x_9 = 3 → AL L_6 f_6 x_1 x_2 x_3 (fun (L_8 : List Nat) (f_8 : TF) => Ok L_8 f_8 → Ext WA L_6 f_6 L_8 f_8 → wp_Tp_step_w L_8 f_8 qT (fun (L_9 : List Nat) (f_9 : TF) => Ok L_9 f_9 → Ext W_Tp_step_w L_8 f_8 L_9 f_9 → Q 1 L_9 f_9))) ∧ (¬ (x_9 = 3) → Q 0 L_6 f_6)))))))))))))))))) := by
  unfold lr at hK
  rw [if_pos k01] at hK
  refine next_x hd.1 hN hA (fun f1 A1 fr1 hO1 _ _ => ?_)
  have O1 := hOr.tape hd fr1
  have F1 : FX [qT, qO, qF, qH, qS] f0 f1 := hF.trans (fr1.fx (by simp))
  have K1 := hK
  intro x1 e1
  refine num_K hd hN A1 O1 F1 hO1 K1 (fun c1 f2 A2 O2 F2 hO2 K2 _ _ => ⟨fun k => absurd k (by decide), fun _ => ?_⟩) (fun q _ _ => ⟨fun _ => q, fun k => absurd k (by decide)⟩)
  rw [A1.code.2.2.2.2 c1] at e1
  subst e1
  refine wd_K (si := 9) (by decide) (by decide) hd hN A2 O2 F2 hO2 K2 (fun f3 A3 O3 F3 hO3 K3 _ _ => ⟨fun k => absurd k (by decide), fun _ => ?_⟩) (fun q _ _ => ⟨fun _ => q, fun k => absurd k (by decide)⟩)
  intro x2 e2
  refine num_K hd hN A3 O3 F3 hO3 K3 (fun c2 f4 A4 O4 F4 hO4 K4 _ _ => ⟨fun k => absurd k (by decide), fun _ => ?_⟩) (fun q _ _ => ⟨fun _ => q, fun k => absurd k (by decide)⟩)
  rw [A3.code.2.2.2.2 c2] at e2
  subst e2
  refine wd_K (si := 10) (by decide) (by decide) hd hN A4 O4 F4 hO4 K4 (fun f5 A5 O5 F5 hO5 K5 _ _ => ⟨fun k => absurd k (by decide), fun _ => ?_⟩) (fun q _ _ => ⟨fun _ => q, fun k => absurd k (by decide)⟩)
  intro x3 e3
  refine num_K hd hN A5 O5 F5 hO5 K5 (fun c3 f6 A6 O6 F6 hO6 K6 _ _ => ⟨fun k => absurd k (by decide), fun _ => ?_⟩) (fun q _ _ => ⟨fun _ => q, fun k => absurd k (by decide)⟩)
  rw [A5.code.2.2.2.2 c3] at e3
  subst e3
  intro x9 e9
  exact end_K hd hN A6 O6 F6 hO6 K6 e9 (fun Q' hq => hAL f6 _ _ _ Q' O6 hq)
theorem readLine_x (hd : Dis qT qB qO qF qH qS) (hN : N ≤ 400) (hA : AtX f qT qB B N b) (hOr : OrdX f qO qF qH qS o) (hw : WfO o) (hO : Ok L f) (hK : KX L qT qB qO qF qH qS f B N Q (ln B N o b)) : wp_Tp_readLine_w L f qT qO Q := by
  intro x1 e1
  have hc := hA.code.2.2.2.1
  rw [e1] at hc
  have Z : ln B N o b = (false, b, o) → Q 0 L f := fun e => by rw [e] at hK; exact hK f hA hOr FX.rf hO
  refine ⟨fun g => ?_, fun g => Z (ln_low ?_)⟩
  · obtain ⟨l1, l2⟩ := hc.mp g
    refine kind_x hN hA l1 l2 ⟨fun k => Z (ln_low (kd_m k (tC_vals B N b))), fun k => ?_, fun k => ?_, fun k => ?_, fun k => ?_, fun k => ?_, fun k => ?_, fun k => ?_, fun k => ?_, fun k => ?_⟩
    · have ci := kd_c (i := 0) (by decide) k
      exact take0 hOr hw (fun hr => ⟨fun z => absurd z (by decide), fun _ => tail0 (k := 0) (AL := fun L f a b n Q' => wp_Or_addLine_0_w L f qO a b n Q') hd hN (Or.inl rfl) (fun f2 a b n Q' O2 hq => add0_x hd O2 hr hq) hA hOr FX.rf hO (by rw [ln_go (by decide) ci (by rw [hr]; decide)] at hK; exact hK)⟩) (fun hr => ⟨fun _ => Z (ln_full (by decide) ci hr), fun z => absurd z (by decide)⟩)
    · have ci := kd_c (i := 1) (by decide) k
      exact take1 hOr hw (fun hr => ⟨fun z => absurd z (by decide), fun _ => tail0 (k := 1) (AL := fun L f a b n Q' => wp_Or_addLine_1_w L f qO a b n Q') hd hN (Or.inr rfl) (fun f2 a b n Q' O2 hq => add1_x hd O2 hr hq) hA hOr FX.rf hO (by rw [ln_go (by decide) ci (by rw [hr]; decide)] at hK; exact hK)⟩) (fun hr => ⟨fun _ => Z (ln_full (by decide) ci hr), fun z => absurd z (by decide)⟩)
    · have ci := kd_c (i := 2) (by decide) k
      exact take2 hOr (fun hr => ⟨fun z => absurd z (by decide), fun _ => tail1 (k := 2) (AL := fun L f a Q' => wp_Or_addLine_2_w L f qO a 0 0 Q') hd hN (by decide) (by decide) (by decide) (fun f2 a Q' O2 hq q1 e1 f3 hf3 hO3 => by
        rw [O2.1.2.2] at e1; cases e1
        obtain ⟨y1, y2⟩ := adds_x (k := 2) hd O2 (by decide) (by decide) (by decide) (by decide) hf3
        exact hq f3 y1 y2 hO3) hA hOr FX.rf hO (by rw [ln_go (by decide) ci (by rw [hr]; decide)] at hK; exact hK)⟩) (fun hr => ⟨fun _ => Z (ln_full (by decide) ci hr), fun z => absurd z (by decide)⟩)
    · have ci := kd_c (i := 3) (by decide) k
      exact take3 hOr (fun hr => ⟨fun z => absurd z (by decide), fun _ => tail1 (k := 3) (AL := fun L f a Q' => wp_Or_addLine_3_w L f qO a 0 0 Q') hd hN (by decide) (by decide) (by decide) (fun f2 a Q' O2 hq q1 e1 f3 hf3 hO3 => by
        rw [O2.1.2.2] at e1; cases e1
        obtain ⟨y1, y2⟩ := adds_x (k := 3) hd O2 (by decide) (by decide) (by decide) (by decide) hf3
        exact hq f3 y1 y2 hO3) hA hOr FX.rf hO (by rw [ln_go (by decide) ci (by rw [hr]; decide)] at hK; exact hK)⟩) (fun hr => ⟨fun _ => Z (ln_full (by decide) ci hr), fun z => absurd z (by decide)⟩)
    · have ci := kd_c (i := 4) (by decide) k
      exact take4 hOr (fun hr => ⟨fun z => absurd z (by decide), fun _ => tail1 (k := 4) (AL := fun L f a Q' => wp_Or_addLine_4_w L f qO a 0 0 Q') hd hN (by decide) (by decide) (by decide) (fun f2 a Q' O2 hq q1 e1 f3 hf3 hO3 => by
        rw [O2.1.2.2] at e1; cases e1
        obtain ⟨y1, y2⟩ := adds_x (k := 4) hd O2 (by decide) (by decide) (by decide) (by decide) hf3
        exact hq f3 y1 y2 hO3) hA hOr FX.rf hO (by rw [ln_go (by decide) ci (by rw [hr]; decide)] at hK; exact hK)⟩) (fun hr => ⟨fun _ => Z (ln_full (by decide) ci hr), fun z => absurd z (by decide)⟩)
    · have ci := kd_c (i := 5) (by decide) k
      exact take5 hOr (fun hr => ⟨fun z => absurd z (by decide), fun _ => tail1 (k := 5) (AL := fun L f a Q' => wp_Or_addLine_5_w L f qO a 0 0 Q') hd hN (by decide) (by decide) (by decide) (fun f2 a Q' O2 hq q1 e1 f3 hf3 hO3 => by
        rw [O2.1.2.2] at e1; cases e1
        obtain ⟨y1, y2⟩ := adds_x (k := 5) hd O2 (by decide) (by decide) (by decide) (by decide) hf3
        exact hq f3 y1 y2 hO3) hA hOr FX.rf hO (by rw [ln_go (by decide) ci (by rw [hr]; decide)] at hK; exact hK)⟩) (fun hr => ⟨fun _ => Z (ln_full (by decide) ci hr), fun z => absurd z (by decide)⟩)
    · have ci := kd_c (i := 6) (by decide) k
      exact take6 hOr (fun hr => ⟨fun z => absurd z (by decide), fun _ => tail6 (k := 6) (AL := fun L f a b Q' => wp_Or_addLine_6_w L f qO a b 0 Q') hd hN rfl (fun f2 a b Q' O2 hq => add6_x hd O2 hq) hA hOr FX.rf hO (by rw [ln_go (by decide) ci (by rw [hr]; decide)] at hK; exact hK)⟩) (fun hr => ⟨fun _ => Z (ln_full (by decide) ci hr), fun z => absurd z (by decide)⟩)
    · have ci := kd_c (i := 7) (by decide) k
      exact take7 hOr (fun hr => ⟨fun z => absurd z (by decide), fun _ => tail1 (k := 7) (AL := fun L f a Q' => wp_Or_addLine_7_w L f qO a 0 0 Q') hd hN (by decide) (by decide) (by decide) (fun f2 a Q' O2 hq q1 e1 f3 hf3 hO3 => by
        rw [O2.1.2.2] at e1; cases e1
        obtain ⟨y1, y2⟩ := adds_x (k := 7) hd O2 (by decide) (by decide) (by decide) (by decide) hf3
        exact hq f3 y1 y2 hO3) hA hOr FX.rf hO (by rw [ln_go (by decide) ci (by rw [hr]; decide)] at hK; exact hK)⟩) (fun hr => ⟨fun _ => Z (ln_full (by decide) ci hr), fun z => absurd z (by decide)⟩)
    · have ci := kd_c (i := 8) (by decide) k
      exact take8 hOr (fun hr => ⟨fun z => absurd z (by decide), fun _ => tail1 (k := 8) (AL := fun L f a Q' => wp_Or_addLine_8_w L f qO a 0 0 Q') hd hN (by decide) (by decide) (by decide) (fun f2 a Q' O2 hq q1 e1 f3 hf3 hO3 => by
        rw [O2.1.2.2] at e1; cases e1
        obtain ⟨y1, y2⟩ := adds_x (k := 8) hd O2 (by decide) (by decide) (by decide) (by decide) hf3
        exact hq f3 y1 y2 hO3) hA hOr FX.rf hO (by rw [ln_go (by decide) ci (by rw [hr]; decide)] at hK; exact hK)⟩) (fun hr => ⟨fun _ => Z (ln_full (by decide) ci hr), fun z => absurd z (by decide)⟩)
  · rcases tC_vals B N b with h | ⟨i, hi, h⟩
    · exact h
    · exact absurd (hc.mpr (tC_let hA.2.2.2.2 hi h)) g
end RDX
end LINE
