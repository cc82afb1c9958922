section LINE
variable {L : List Nat} {f : TF} {B : Nat → Int32} {N : Nat}
def o0 : OS := ((0, fun _ => 0), (0, fun _ => 0), fun _ => -1, 0)
theorem o0_wf : WfO o0 := ⟨Nat.zero_le _, Nat.zero_le _, fun _ _ => Or.inl rfl, fun k h => absurd h (by show ¬ k < 0; omega), fun k h => absurd h (by show ¬ k < 0; omega)⟩
/-- a text read to its end or its fault, in n lines at most -/
def rdn (B : Nat → Int32) (N : Nat) : Nat → OS → Nat → Option (Int32 × OS)
  | 0, _, _ => none
  | n + 1, o, b => if (ln B N o b).1 = false then some (nI (tkS B N (ln B N o b).2.1), (ln B N o b).2.2) else if tC B N (ln B N o b).2.1 = 0 then some (-1, (ln B N o b).2.2) else rdn B N n (ln B N o b).2.2 (ln B N o b).2.1
def Rd (B : Nat → Int32) (N : Nat) (o : OS) (b : Nat) (r : Int32) (o' : OS) : Prop := ∃ n, rdn B N n o b = some (r, o')
theorem rdn_add : ∀ (n k : Nat) (o : OS) (b : Nat) (x : Int32 × OS), rdn B N n o b = some x → rdn B N (n + k) o b = some x := by
  intro n
  induction n with
  | zero => intro k o b x h; exact absurd h (by simp [rdn])
  | succ n ih =>
    intro k o b x h
    rw [Nat.add_right_comm]
    unfold rdn at h ⊢
    by_cases h1 : (ln B N o b).1 = false
    · rw [if_pos h1] at h ⊢; exact h
    · rw [if_neg h1] at h ⊢
      by_cases h2 : tC B N (ln B N o b).2.1 = 0
      · rw [if_pos h2] at h ⊢; exact h
      · rw [if_neg h2] at h ⊢; exact ih k _ _ _ h
theorem Rd.uni {o o' o'' : OS} {b : Nat} {r r' : Int32} (h : Rd B N o b r o') (h' : Rd B N o b r' o'') : r = r' ∧ o' = o'' := by
  obtain ⟨n, hn⟩ := h
  obtain ⟨m, hm⟩ := h'
  have a := rdn_add n m _ _ _ hn
  have b := rdn_add m n _ _ _ hm
  rw [Nat.add_comm, b] at a
  injection a with a
  injection a with a1 a2
  exact ⟨a1.symm, a2.symm⟩
theorem Rd.bad {o : OS} {b : Nat} (h : (ln B N o b).1 = false) : Rd B N o b (nI (tkS B N (ln B N o b).2.1)) (ln B N o b).2.2 := ⟨1, by unfold rdn; rw [if_pos h]⟩
theorem Rd.last {o : OS} {b : Nat} (h : ¬ (ln B N o b).1 = false) (h0 : tC B N (ln B N o b).2.1 = 0) : Rd B N o b (-1) (ln B N o b).2.2 := ⟨1, by unfold rdn; rw [if_neg h, if_pos h0]⟩
theorem Rd.more {o o' : OS} {b : Nat} {r : Int32} (h : ¬ (ln B N o b).1 = false) (h0 : ¬ tC B N (ln B N o b).2.1 = 0) (hr : Rd B N (ln B N o b).2.2 (ln B N o b).2.1 r o') : Rd B N o b r o' := by
  obtain ⟨n, hn⟩ := hr
  exact ⟨n + 1, by unfold rdn; rw [if_neg h, if_neg h0]; exact hn⟩
/-- what holds where a line stops -/
def LPx (N b : Nat) (r : LR) : Prop := WfO r.2.2 ∧ b ≤ r.2.1 ∧ r.2.1 ≤ N ∧ (r.1 = true → b < r.2.1)
theorem ex_P {o : OS} {c : Int32} {r : Nat → LR} {b b' : Nat} (hw : WfO o) (h1 : b ≤ b') (h2 : b' ≤ N) (hr : tC B N b' = c → b ≤ tE B N b' → tE B N b' ≤ N → LPx N b (r (tE B N b'))) : LPx N b (ex B N o c r b') := by
  have h := tE_le (B := B) h2
  by_cases hc : tC B N b' = c
  · rw [ex_y hc]; exact hr hc (by omega) h.2.2.1
  · rw [ex_n hc]; exact ⟨hw, h1, h2, fun k => absurd k Bool.false_ne_true⟩
theorem addL_nn {p : OL} {a b n : Int32} (h : ∀ k, k < p.1 → ¬ p.2 (3 * k + 2) < 0) (hn : ¬ n < 0) : ∀ k, k < (addL p a b n).1 → ¬ (addL p a b n).2 (3 * k + 2) < 0 := by
  intro k hk
  have hk' : k < p.1 + 1 := hk
  show ¬ (if 3 * k + 2 = 3 * p.1 then a else if 3 * k + 2 = 3 * p.1 + 1 then b else if 3 * k + 2 = 3 * p.1 + 2 then n else p.2 (3 * k + 2)) < 0
  rw [if_neg (by omega), if_neg (by omega)]
  by_cases e : k = p.1
  · rw [if_pos (by omega)]; exact hn
  · rw [if_neg (by omega)]; exact h k (by omega)
theorem addO_wf {o : OS} {k : Nat} {a b n : Int32} (hw : WfO o) (hr : roomO o k = true) (ha : ¬ a < 0) (hn : ¬ n < 0) : WfO (addO o k a b n) := by
  obtain ⟨w1, w2, w3, w4, w5⟩ := hw
  unfold addO
  by_cases k0 : k = 0
  · rw [if_pos k0]
    subst k0
    have : o.1.1 < 12 := of_decide_eq_true hr
    exact ⟨by show o.1.1 + 1 ≤ 12; omega, w2, w3, addL_nn w4 hn, w5⟩
  · rw [if_neg k0]
    by_cases k1 : k = 1
    · rw [if_pos k1]
      subst k1
      have : o.2.1.1 < 12 := of_decide_eq_true hr
      exact ⟨w1, by show o.2.1.1 + 1 ≤ 12; omega, w3, w4, addL_nn w5 hn⟩
    · rw [if_neg k1]
      refine ⟨w1, w2, fun j hj => ?_, w4, w5⟩
      show addS o.2.2.1 k a j = -1 ∨ ¬ addS o.2.2.1 k a j < 0
      unfold addS
      by_cases e : j = k
      · rw [if_pos e]; exact Or.inr ha
      · rw [if_neg e]; exact w3 j hj
theorem ln_P {o : OS} {b : Nat} (hw : WfO o) (hb : b ≤ N) : LPx N b (ln B N o b) := by
  have hno : LPx N b (false, b, o) := ⟨hw, Nat.le_refl _, hb, fun k => absurd k Bool.false_ne_true⟩
  rcases tC_vals B N b with h | ⟨k, hk, h⟩
  · rw [ln_low h]; exact hno
  · by_cases hr : roomO o k = false
    · rw [ln_full hk h hr]; exact hno
    · rw [ln_go hk h hr]
      have hr' : roomO o k = true := by simpa using hr
      obtain ⟨l1, l2⟩ := tC_let hb hk h
      obtain ⟨t1, t2, t3, t4⟩ := tE_le (B := B) hb
      have hlt : b < tE B N b := by have := t4 l1; omega
      have fin : ∀ (b' : Nat) (x y : Int32), tC B N (tE B N b) = 1 → ¬ y < 0 → tE B N b ≤ b' → b' ≤ N → LPx N b (true, b', addO o k (tV B N (tE B N b)) x y) := fun b' x y c hy h1 h2 => ⟨addO_wf hw hr' (tV_nn t3 c) hy, by show b ≤ b'; omega, h2, fun _ => by show b < b'; omega⟩
      unfold lr
      by_cases k01 : k = 0 ∨ k = 1
      · rw [if_pos k01]
        refine ex_P hw (by omega) t3 (fun c1 e1 e1' => ex_P hw e1 e1' (fun c2 e2 e2' => ex_P hw e2 e2' (fun c3 e3 e3' => ex_P hw e3 e3' (fun c4 e4 e4' => ex_P hw e4 e4' (fun c5 e5 e5' => ex_P hw e5 e5' (fun c6 e6 e6' => fin _ _ _ c1 (tV_nn e4' c5) ?_ e6'))))))
        have u1 := (tE_le (B := B) t3)
        have u2 := (tE_le (B := B) e1')
        have u3 := (tE_le (B := B) e2')
        have u4 := (tE_le (B := B) e3')
        have u5 := (tE_le (B := B) e4')
        have u6 := (tE_le (B := B) e5')
        omega
      · rw [if_neg k01]
        by_cases k6 : k = 6
        · rw [if_pos k6]
          refine ex_P hw (by omega) t3 (fun c1 e1 e1' => ex_P hw e1 e1' (fun c2 e2 e2' => ex_P hw e2 e2' (fun c3 e3 e3' => ex_P hw e3 e3' (fun c4 e4 e4' => fin _ _ _ c1 (by decide) ?_ e4'))))
          have u1 := (tE_le (B := B) t3)
          have u2 := (tE_le (B := B) e1')
          have u3 := (tE_le (B := B) e2')
          have u4 := (tE_le (B := B) e3')
          omega
        · rw [if_neg k6]
          refine ex_P hw (by omega) t3 (fun c1 e1 e1' => ex_P hw e1 e1' (fun c2 e2 e2' => fin _ _ _ c1 (by decide) ?_ e2'))
          have u1 := (tE_le (B := B) t3)
          have u2 := (tE_le (B := B) e1')
          omega
section WHO
variable {qT qB qO qF qH qS : Nat}
theorem clear_x {Q : List Nat → TF → Prop} (hd : Dis qT qB qO qF qH qS) (r1 : tr f qO 2 = some qF) (r2 : tr f qO 3 = some qH) (r3 : tr f qO 4 = some qS) (hq : ∀ f' : TF, OrdX f' qO qF qH qS o0 → FX [qO, qF, qH, qS] f f' → Ok L f' → Q L f') : wp_Or_clear_w L f qO Q := by
  obtain ⟨-, -, d1, d2, d3, d4, d5, d6⟩ := hd
  have hstep : ∀ (rc : Int32 → List Nat → TF → Prop) (k : Nat) (f1 : TF), k ≤ 9 → FX [qO, qF, qH, qS] f f1 → (∀ j, j < k → ti f1 qS j = -1) → (∀ f2 : TF, k + 1 ≤ 9 → FX [qO, qF, qH, qS] f f2 → (∀ j, j < k + 1 → ti f2 qS j = -1) → rc (nI (k + 1)) L f2) → wpB_Or_clear_w_2_1 L f qO Q rc (nI k) L f1 := by
    intro rc k f1 hk hx hall hrec hO1 hE1
    rw [show (9 : Int32) = nI 9 from rfl, nI_leI (by omega) (by omega)]
    refine ⟨fun g f2 hf2 _ f3 hf3 hO3 => ?_, fun g q5 e5 f2 hf2 hO2 => ?_⟩
    · have hx3 : FX [qO, qF, qH, qS] f f3 := by rw [hf3, hf2]; exact (hx.trans (FX.set (by simp))).trans (FX.set (by simp))
      refine hq f3 ⟨⟨(hx3.2 _ _).trans r1, (hx3.2 _ _).trans r2, (hx3.2 _ _).trans r3⟩, ?_, ?_, fun j hj => absurd hj (by show ¬ j < 3 * 0; omega), fun j hj => absurd hj (by show ¬ j < 3 * 0; omega), fun j hj => ?_, fun k => absurd rfl k⟩ hx3 hO3
      · rw [hf3, ti_sI_nj (by decide), hf2, ti_sI_eq]; exact nI_0.symm
      · rw [hf3, ti_sI_eq]; exact nI_0.symm
      · rw [hf3, hf2, ti_sI_ne d3, ti_sI_ne d3]; exact hall j (by omega)
    · rw [hx.2, r3] at e5; cases e5
      rw [nI_clamp (by omega)] at hf2
      rw [nI_1]
      refine hrec f2 (by omega) (by rw [hf2]; exact hx.trans (FX.set (by simp))) (fun j hj => ?_)
      rw [hf2, ti_sI]
      by_cases e : j = k
      · rw [if_pos ⟨rfl, e⟩]
      · rw [if_neg (fun z => e z.2)]; exact hall j (by omega)
  have hloop : ∀ (n k : Nat) (f1 : TF), k ≤ 9 → FX [qO, qF, qH, qS] f f1 → (∀ j, j < k → ti f1 qS j = -1) → wpL_Or_clear_w_2_1 L f qO Q n (nI k) L f1 := by
    intro n
    induction n with
    | zero => intro k f1 a1 a2 a3; exact hstep (fun _ _ _ => True) k f1 a1 a2 a3 (fun _ _ _ _ => trivial)
    | succ n ih => intro k f1 a1 a2 a3; exact hstep _ k f1 a1 a2 a3 (fun f2 b1 b2 b3 => ih (k + 1) f2 b1 b2 b3)
  have h0 := hloop (((9 : Int32).toInt - (0 : Int32).toInt).toNat) 0 f (by decide) FX.rf (fun j hj => absurd hj (by omega))
  rw [nI_0] at h0
  exact h0
theorem readInto_x {Q : Int32 → List Nat → TF → Prop} (hd : Dis qT qB qO qF qH qS) (hN : N ≤ 400) (hT : TapeX f qT qB B N) (r1 : tr f qO 2 = some qF) (r2 : tr f qO 3 = some qH) (r3 : tr f qO 4 = some qS) (hq : ∀ (r : Int32) (o' : OS) (f' : TF), Rd B N o0 0 r o' → WfO o' → OrdX f' qO qF qH qS o' → TapeX f' qT qB B N → FX [qT, qO, qF, qH, qS] f f' → Ok L f' → Q r L f') : wp_Tp_readInto_w L f qT qO Q := by
  refine clear_x hd r1 r2 r3 (fun f1 O1 X1 hO1 _ _ f2 hf2 hO2 => ?_)
  have hc : ∀ c z, c ∈ [qO, qF, qH, qS] → ti f2 c z = ti f1 c z := fun c z h => by rw [hf2]; exact ti_sI_ne (hd.2.1 c h).1
  have X2 : FX [qT, qO, qF, qH, qS] f f2 := (X1.mono (fun z hz => List.mem_cons_of_mem _ hz)).trans (by rw [hf2]; exact FX.set (by simp))
  have O2 : OrdX f2 qO qF qH qS o0 := O1.keep hc (fun c z => by rw [hf2]; exact tr_sI)
  have nT : qT ∉ [qO, qF, qH, qS] := fun h => (hd.2.1 _ h).1 rfl
  have nB : qB ∉ [qO, qF, qH, qS] := fun h => (hd.2.1 _ h).2 rfl
  have T2 : TapeX f2 qT qB B N := ⟨(X2.2 _ _).trans hT.1, by rw [hf2, ti_sI_nj (by decide), X1.1 _ _ nT]; exact hT.2.1, fun j => by rw [hf2, ti_sI_ne hd.1, X1.1 _ _ nB]; exact hT.2.2 j⟩
  refine first_x hd.1 hN T2 (by rw [hf2, ti_sI_eq]) (fun f3 A3 fr3 hO3 _ _ => ?_)
  have O3 := O2.tape hd fr3
  have X3 : FX [qT, qO, qF, qH, qS] f f3 := X2.trans (fr3.fx (by simp))
  have hloop : ∀ (n : Nat) (v : Nat) (o : OS) (b : Nat) (f4 : TF), v ≤ b → WfO o → AtX f4 qT qB B N b → OrdX f4 qO qF qH qS o → FX [qT, qO, qF, qH, qS] f f4 → (∀ r o', Rd B N o b r o' → Rd B N o0 0 r o') → wpL_Tp_readInto_w_15_4 L f qT qO L f1 f2 L f3 Q n (nI v) L f4 := by
    have hstep : ∀ (rc : Int32 → List Nat → TF → Prop) (v : Nat) (o : OS) (b : Nat) (f4 : TF), v ≤ b → WfO o → AtX f4 qT qB B N b → OrdX f4 qO qF qH qS o → FX [qT, qO, qF, qH, qS] f f4 → (∀ r o', Rd B N o b r o' → Rd B N o0 0 r o') → (∀ (o1 : OS) (b1 : Nat) (f5 : TF), v + 1 ≤ b1 → WfO o1 → AtX f5 qT qB B N b1 → OrdX f5 qO qF qH qS o1 → FX [qT, qO, qF, qH, qS] f f5 → (∀ r o', Rd B N o1 b1 r o' → Rd B N o0 0 r o') → rc (nI (v + 1)) L f5) → wpB_Tp_readInto_w_15_4 L f qT qO L f1 f2 L f3 Q rc (nI v) L f4 := by
      intro rc v o b f4 hv hw A4 O4 X4 hR hrec hO4 hE4
      have hb := A4.2.2.2.2
      refine ⟨fun g => ?_, fun g => ?_⟩
      · rw [show (400 : Int32) = nI 400 from rfl, nI_ltI (by omega) (by omega)] at g
        omega
      · obtain ⟨p1, p2, p3, p4⟩ := ln_P (B := B) hw hb
        refine readLine_x hd hN A4 O4 hw hO4 (fun f5 A5 O5 X5 hO5 _ _ => ?_)
        have X5' := X4.trans X5
        by_cases hl : (ln B N o b).1 = false
        · rw [hl]
          refine ⟨fun _ x8 e8 => ?_, fun k => absurd k (by decide)⟩
          rw [A5.2.1] at e8
          subst e8
          exact hq _ _ f5 (hR _ _ (Rd.bad hl)) p1 O5 A5.1 X5' hO5
        · have hl' : (ln B N o b).1 = true := by simpa using hl
          rw [hl']
          refine ⟨fun k => absurd k (by decide), fun _ x9 e9 => ?_⟩
          have hc := A5.code.1
          rw [e9] at hc
          refine ⟨fun g0 => hq _ _ f5 (hR _ _ (Rd.last hl (hc.mp g0))) p1 O5 A5.1 X5' hO5, fun g0 => ?_⟩
          rw [nI_1]
          have := p4 hl'
          exact hrec _ _ f5 (by omega) p1 A5 O5 X5' (fun r o' h => hR r o' (Rd.more hl (fun k => g0 (hc.mpr k)) h))
    intro n
    induction n with
    | zero => intro v o b f4 a1 a2 a3 a4 a5 a6; exact hstep (fun _ _ _ => True) v o b f4 a1 a2 a3 a4 a5 a6 (fun _ _ _ _ _ _ _ _ _ => trivial)
    | succ n ih => intro v o b f4 a1 a2 a3 a4 a5 a6; exact hstep _ v o b f4 a1 a2 a3 a4 a5 a6 (fun o1 b1 f5 c1 c2 c3 c4 c5 c6 => ih (v + 1) o1 b1 f5 c1 c2 c3 c4 c5 c6)
  have h0 := hloop (((401 : Int32).toInt - (0 : Int32).toInt).toNat) 0 o0 0 f3 (Nat.le_refl _) o0_wf A3 O3 X3 (fun _ _ h => h)
  rw [nI_0] at h0
  exact h0
end WHO
end LINE
