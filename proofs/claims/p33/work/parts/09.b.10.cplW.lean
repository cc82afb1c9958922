section LINE
variable {L : List Nat} {f : TF} {B : Nat → Int32} {N : Nat}
section ORM
variable {q1 mB i : Nat} {am : Nat → Nat} {p0 : Int32} {Q : Int32 → List Nat → TF → Prop}
theorem oloop20 {q6 q8 : Nat} {f1 f2 f3 f4 f5 : TF} {v10 : Int32} {L3 L5 : List Nat} {rec10 : Int32 → List Nat → TF → Prop} (hd : DisM q1 mB am) (hN : N ≤ 400) (hi : i < 20) (h30 : tr f q1 30 = some (am 30)) (h31 : tr f q1 31 = some (am 31))
    (hb : ∀ (s : Nat) (o' : OS) (f6 f7 : TF), s ≤ N → Rd B N o0 0 (nI s) o' → OrdM f6 q1 am i o' → FM q1 am i f f6 → f7 = sI f6 q1 28 0 → Ok L f7 → Q ((-100) - nI s) L f7)
    (hg : ∀ (o' : OS) (f6 f10 : TF), Rd B N o0 0 (-1) o' → WfO o' → OrdM f6 q1 am i o' → FM q1 am i f f6 → f10 = sI (sI (sI (sI f6 q1 28 0) (am 30) i p0) (am 31) i (ti f6 q1 1 / 720)) q1 29 (nI i + 1) → Ok L f10 → Q (nI i) L f10)
    (n31 : am 30 ≠ q1) :
    ∀ (n : Nat) (o : OS) (b : Nat) (f6 : TF), WfO o → AtM f6 q1 mB B N b → OrdM f6 q1 am i o → FM q1 am i f f6 → (∀ r o', Rd B N o b r o' → Rd B N o0 0 r o') → wpL_Md_order_w_80_20 L f q1 p0 (nI i) q6 f1 q8 f2 v10 L3 f3 rec10 f4 L5 f5 Q n 1 1 L f6 := by
  have hIi : (nI i).toNatClampNeg = i := nI_clamp (by omega)
  have hbad : ∀ (rc : Int32 → Int32 → List Nat → TF → Prop) (v4 : Int32) (b' : Nat) (o' : OS) (f6 : TF), AtM f6 q1 mB B N b' → OrdM f6 q1 am i o' → FM q1 am i f f6 → Rd B N o0 0 (nI (tkS B N b')) o' → wpB_Md_order_w_80_20 L f q1 p0 (nI i) q6 f1 q8 f2 v10 L3 f3 rec10 f4 L5 f5 Q rc 0 v4 L f6 := by
    intro rc v4 b' o' f6 A6 O6 F6 hR hO6 hE6
    refine ⟨fun _ f7 hf7 hO7 x e => ?_, fun h => absurd rfl h⟩
    rw [hf7, ti_sI_nj (by decide), A6.2.1] at e
    subst e
    have hs := tE_le (B := B) A6.2.2.2.2
    exact hb _ o' f6 f7 (by omega) hR O6 F6 hf7 hO7
  have hgood : ∀ (rc : Int32 → Int32 → List Nat → TF → Prop) (o' : OS) (f6 : TF), WfO o' → OrdM f6 q1 am i o' → FM q1 am i f f6 → Rd B N o0 0 (-1) o' → wpB_Md_order_w_80_20 L f q1 p0 (nI i) q6 f1 q8 f2 v10 L3 f3 rec10 f4 L5 f5 Q rc 1 0 L f6 := by
    intro rc o' f6 w6 O6 F6 hR hO6 hE6
    refine ⟨fun h => absurd h (by decide), fun _ => ⟨fun _ f7 hf7 hO7 q28 e28 f8 hf8 hO8 q30 e30 y hy f9 hf9 hO9 f10 hf10 hO10 => ?_, fun h => absurd rfl h⟩⟩
    rw [hf7, tr_sI, F6.2.2.2, h30] at e28; cases e28
    rw [hf8, tr_sI, hf7, tr_sI, F6.2.2.2, h31] at e30; cases e30
    rw [hIi] at hf8 hf9
    refine hg o' f6 f10 hR w6 O6 F6 ?_ hO10
    rw [hf10, hf9, hy, hf8, hf7, ti_sI_ne n31.symm, ti_sI_nj (by decide)]
  have hbadL : ∀ (n : Nat) (v4 : Int32) (b' : Nat) (o' : OS) (f6 : TF), AtM f6 q1 mB B N b' → OrdM f6 q1 am i o' → FM q1 am i f f6 → Rd B N o0 0 (nI (tkS B N b')) o' → wpL_Md_order_w_80_20 L f q1 p0 (nI i) q6 f1 q8 f2 v10 L3 f3 rec10 f4 L5 f5 Q n 0 v4 L f6 := by
    intro n
    cases n with
    | zero => exact hbad (fun _ _ _ _ => True)
    | succ n => exact hbad _
  have hgoodL : ∀ (n : Nat) (o' : OS) (f6 : TF), WfO o' → OrdM f6 q1 am i o' → FM q1 am i f f6 → Rd B N o0 0 (-1) o' → wpL_Md_order_w_80_20 L f q1 p0 (nI i) q6 f1 q8 f2 v10 L3 f3 rec10 f4 L5 f5 Q n 1 0 L f6 := by
    intro n
    cases n with
    | zero => exact hgood (fun _ _ _ _ => True)
    | succ n => exact hgood _
  have hstep : ∀ (rc : Int32 → Int32 → List Nat → TF → Prop) (o : OS) (b : Nat) (f6 : TF), WfO o → AtM f6 q1 mB B N b → OrdM f6 q1 am i o → FM q1 am i f f6 → (∀ r o', Rd B N o b r o' → Rd B N o0 0 r o') → (∀ (v4 : Int32) (b' : Nat) (o' : OS) (f7 : TF), AtM f7 q1 mB B N b' → OrdM f7 q1 am i o' → FM q1 am i f f7 → Rd B N o0 0 (nI (tkS B N b')) o' → rc 0 v4 L f7) → (∀ (o' : OS) (f7 : TF), WfO o' → OrdM f7 q1 am i o' → FM q1 am i f f7 → Rd B N o0 0 (-1) o' → rc 1 0 L f7) → (∀ (o1 : OS) (b1 : Nat) (f7 : TF), WfO o1 → AtM f7 q1 mB B N b1 → OrdM f7 q1 am i o1 → FM q1 am i f f7 → (∀ r o', Rd B N o1 b1 r o' → Rd B N o0 0 r o') → rc 1 1 L f7) → wpB_Md_order_w_80_20 L f q1 p0 (nI i) q6 f1 q8 f2 v10 L3 f3 rec10 f4 L5 f5 Q rc 1 1 L f6 := by
    intro rc o b f6 hw A6 O6 F6 hR hc0 hc1 hc2 hO6 hE6
    refine ⟨fun h => absurd h (by decide), fun _ => ⟨fun h => absurd h (by decide), fun _ => ?_⟩⟩
    obtain ⟨p1, p2, p3, p4⟩ := ln_P (B := B) hw A6.2.2.2.2
    refine line_m hd hN hi A6 O6 hw hO6 (fun f7 A7 O7 F7 hO7 _ _ => ?_)
    have F7' := F6.trans F7
    by_cases hl : (ln B N o b).1 = false
    · rw [hl]
      exact ⟨fun _ x e => ⟨fun _ => hc0 _ _ _ f7 A7 O7 F7' (hR _ _ (Rd.bad hl)), fun _ => hc0 _ _ _ f7 A7 O7 F7' (hR _ _ (Rd.bad hl))⟩, fun k => absurd k (by decide)⟩
    · have hl' : (ln B N o b).1 = true := by simpa using hl
      rw [hl']
      refine ⟨fun k => absurd k (by decide), fun _ x e => ?_⟩
      rw [A7.code.1] at e
      exact ⟨fun g0 => hc1 _ f7 p1 O7 F7' (hR _ _ (Rd.last hl (e.trans g0))), fun g0 => hc2 _ _ f7 p1 A7 O7 F7' (fun r o' h => hR r o' (Rd.more hl (fun k => g0 (e.symm.trans k)) h))⟩
  intro n
  induction n with
  | zero => intro o b f6 a1 a2 a3 a4 a5; exact hstep (fun _ _ _ _ => True) o b f6 a1 a2 a3 a4 a5 (fun _ _ _ _ _ _ _ _ => trivial) (fun _ _ _ _ _ _ => trivial) (fun _ _ _ _ _ _ _ _ => trivial)
  | succ n ih => intro o b f6 a1 a2 a3 a4 a5; exact hstep _ o b f6 a1 a2 a3 a4 a5 (hbadL n) (hgoodL n) ih
theorem oloop47 {q6 q8 : Nat} {f1 f2 f3 f4 f5 : TF} {v10 : Int32} {L3 L5 : List Nat} {rec10 : Int32 → List Nat → TF → Prop} (hd : DisM q1 mB am) (hN : N ≤ 400) (hi : i < 20) (h30 : tr f q1 30 = some (am 30)) (h31 : tr f q1 31 = some (am 31))
    (hb : ∀ (s : Nat) (o' : OS) (f6 f7 : TF), s ≤ N → Rd B N o0 0 (nI s) o' → OrdM f6 q1 am i o' → FM q1 am i f f6 → f7 = sI f6 q1 28 0 → Ok L f7 → Q ((-100) - nI s) L f7)
    (hg : ∀ (o' : OS) (f6 f10 : TF), Rd B N o0 0 (-1) o' → WfO o' → OrdM f6 q1 am i o' → FM q1 am i f f6 → f10 = sI (sI (sI (sI f6 q1 28 0) (am 30) i p0) (am 31) i (ti f6 q1 1 / 720)) q1 29 (nI i + 1) → Ok L f10 → Q (nI i) L f10)
    (n31 : am 30 ≠ q1) :
    ∀ (n : Nat) (o : OS) (b : Nat) (f6 : TF), WfO o → AtM f6 q1 mB B N b → OrdM f6 q1 am i o → FM q1 am i f f6 → (∀ r o', Rd B N o b r o' → Rd B N o0 0 r o') → wpL_Md_order_w_80_47 L f q1 p0 (nI i) q6 f1 q8 f2 v10 L3 f3 rec10 f4 L5 f5 Q n 1 1 L f6 := by
  have hIi : (nI i).toNatClampNeg = i := nI_clamp (by omega)
  have hbad : ∀ (rc : Int32 → Int32 → List Nat → TF → Prop) (v4 : Int32) (b' : Nat) (o' : OS) (f6 : TF), AtM f6 q1 mB B N b' → OrdM f6 q1 am i o' → FM q1 am i f f6 → Rd B N o0 0 (nI (tkS B N b')) o' → wpB_Md_order_w_80_47 L f q1 p0 (nI i) q6 f1 q8 f2 v10 L3 f3 rec10 f4 L5 f5 Q rc 0 v4 L f6 := by
    intro rc v4 b' o' f6 A6 O6 F6 hR hO6 hE6
    refine ⟨fun _ f7 hf7 hO7 x e => ?_, fun h => absurd rfl h⟩
    rw [hf7, ti_sI_nj (by decide), A6.2.1] at e
    subst e
    have hs := tE_le (B := B) A6.2.2.2.2
    exact hb _ o' f6 f7 (by omega) hR O6 F6 hf7 hO7
  have hgood : ∀ (rc : Int32 → Int32 → List Nat → TF → Prop) (o' : OS) (f6 : TF), WfO o' → OrdM f6 q1 am i o' → FM q1 am i f f6 → Rd B N o0 0 (-1) o' → wpB_Md_order_w_80_47 L f q1 p0 (nI i) q6 f1 q8 f2 v10 L3 f3 rec10 f4 L5 f5 Q rc 1 0 L f6 := by
    intro rc o' f6 w6 O6 F6 hR hO6 hE6
    refine ⟨fun h => absurd h (by decide), fun _ => ⟨fun _ f7 hf7 hO7 q28 e28 f8 hf8 hO8 q30 e30 y hy f9 hf9 hO9 f10 hf10 hO10 => ?_, fun h => absurd rfl h⟩⟩
    rw [hf7, tr_sI, F6.2.2.2, h30] at e28; cases e28
    rw [hf8, tr_sI, hf7, tr_sI, F6.2.2.2, h31] at e30; cases e30
    rw [hIi] at hf8 hf9
    refine hg o' f6 f10 hR w6 O6 F6 ?_ hO10
    rw [hf10, hf9, hy, hf8, hf7, ti_sI_ne n31.symm, ti_sI_nj (by decide)]
  have hbadL : ∀ (n : Nat) (v4 : Int32) (b' : Nat) (o' : OS) (f6 : TF), AtM f6 q1 mB B N b' → OrdM f6 q1 am i o' → FM q1 am i f f6 → Rd B N o0 0 (nI (tkS B N b')) o' → wpL_Md_order_w_80_47 L f q1 p0 (nI i) q6 f1 q8 f2 v10 L3 f3 rec10 f4 L5 f5 Q n 0 v4 L f6 := by
    intro n
    cases n with
    | zero => exact hbad (fun _ _ _ _ => True)
    | succ n => exact hbad _
  have hgoodL : ∀ (n : Nat) (o' : OS) (f6 : TF), WfO o' → OrdM f6 q1 am i o' → FM q1 am i f f6 → Rd B N o0 0 (-1) o' → wpL_Md_order_w_80_47 L f q1 p0 (nI i) q6 f1 q8 f2 v10 L3 f3 rec10 f4 L5 f5 Q n 1 0 L f6 := by
    intro n
    cases n with
    | zero => exact hgood (fun _ _ _ _ => True)
    | succ n => exact hgood _
  have hstep : ∀ (rc : Int32 → Int32 → List Nat → TF → Prop) (o : OS) (b : Nat) (f6 : TF), WfO o → AtM f6 q1 mB B N b → OrdM f6 q1 am i o → FM q1 am i f f6 → (∀ r o', Rd B N o b r o' → Rd B N o0 0 r o') → (∀ (v4 : Int32) (b' : Nat) (o' : OS) (f7 : TF), AtM f7 q1 mB B N b' → OrdM f7 q1 am i o' → FM q1 am i f f7 → Rd B N o0 0 (nI (tkS B N b')) o' → rc 0 v4 L f7) → (∀ (o' : OS) (f7 : TF), WfO o' → OrdM f7 q1 am i o' → FM q1 am i f f7 → Rd B N o0 0 (-1) o' → rc 1 0 L f7) → (∀ (o1 : OS) (b1 : Nat) (f7 : TF), WfO o1 → AtM f7 q1 mB B N b1 → OrdM f7 q1 am i o1 → FM q1 am i f f7 → (∀ r o', Rd B N o1 b1 r o' → Rd B N o0 0 r o') → rc 1 1 L f7) → wpB_Md_order_w_80_47 L f q1 p0 (nI i) q6 f1 q8 f2 v10 L3 f3 rec10 f4 L5 f5 Q rc 1 1 L f6 := by
    intro rc o b f6 hw A6 O6 F6 hR hc0 hc1 hc2 hO6 hE6
    refine ⟨fun h => absurd h (by decide), fun _ => ⟨fun h => absurd h (by decide), fun _ => ?_⟩⟩
    obtain ⟨p1, p2, p3, p4⟩ := ln_P (B := B) hw A6.2.2.2.2
    refine line_m hd hN hi A6 O6 hw hO6 (fun f7 A7 O7 F7 hO7 _ _ => ?_)
    have F7' := F6.trans F7
    by_cases hl : (ln B N o b).1 = false
    · rw [hl]
      exact ⟨fun _ x e => ⟨fun _ => hc0 _ _ _ f7 A7 O7 F7' (hR _ _ (Rd.bad hl)), fun _ => hc0 _ _ _ f7 A7 O7 F7' (hR _ _ (Rd.bad hl))⟩, fun k => absurd k (by decide)⟩
    · have hl' : (ln B N o b).1 = true := by simpa using hl
      rw [hl']
      refine ⟨fun k => absurd k (by decide), fun _ x e => ?_⟩
      rw [A7.code.1] at e
      exact ⟨fun g0 => hc1 _ f7 p1 O7 F7' (hR _ _ (Rd.last hl (e.trans g0))), fun g0 => hc2 _ _ f7 p1 A7 O7 F7' (fun r o' h => hR r o' (Rd.more hl (fun k => g0 (e.symm.trans k)) h))⟩
  intro n
  induction n with
  | zero => intro o b f6 a1 a2 a3 a4 a5; exact hstep (fun _ _ _ _ => True) o b f6 a1 a2 a3 a4 a5 (fun _ _ _ _ _ _ _ _ => trivial) (fun _ _ _ _ _ _ => trivial) (fun _ _ _ _ _ _ _ _ => trivial)
  | succ n ih => intro o b f6 a1 a2 a3 a4 a5; exact hstep _ o b f6 a1 a2 a3 a4 a5 (hbadL n) (hgoodL n) ih
theorem order_m (hd : DisM q1 mB am) (hN : N ≤ 400) (hi : i < 20) (hT : TapeM f q1 mB B N) (hr : ∀ k, 30 ≤ k → k ≤ 41 → tr f q1 k = some (am k)) (hc : ti f q1 29 = nI i) (n31 : am 30 ≠ q1) (hp0 : ¬ p0 < 0) (hp1 : ¬ 499 < p0)
    (hb : ∀ (s : Nat) (o' : OS) (f6 f7 : TF), s ≤ N → Rd B N o0 0 (nI s) o' → OrdM f6 q1 am i o' → FM q1 am i f f6 → f7 = sI f6 q1 28 0 → Ok L f7 → Q ((-100) - nI s) L f7)
    (hg : ∀ (o' : OS) (f6 f10 : TF), Rd B N o0 0 (-1) o' → WfO o' → OrdM f6 q1 am i o' → FM q1 am i f f6 → f10 = sI (sI (sI (sI f6 q1 28 0) (am 30) i p0) (am 31) i (ti f6 q1 1 / 720)) q1 29 (nI i + 1) → Ok L f10 → Q (nI i) L f10) : wp_Md_order_w L f q1 p0 Q := by
  have hIi : (nI i).toNatClampNeg = i := nI_clamp (by omega)
  refine ⟨fun h => absurd h hp0, fun _ => ⟨fun h => absurd h hp1, fun _ x4 e4 => ?_⟩⟩
  rw [hc] at e4
  subst e4
  refine ⟨fun h => absurd h ?_, fun _ q6 e6 f1 hf1 hO1 q8 e8 f2 hf2 hO2 => ?_⟩
  · rw [show (20 : Int32) = nI 20 from rfl, nI_eq (by omega) (by omega)]; omega
  rw [hr 32 (by decide) (by decide)] at e6; cases e6
  rw [hf1, tr_sI, hr 36 (by decide) (by decide)] at e8; cases e8
  rw [hIi] at hf1 hf2
  have ne : ∀ x y, 32 ≤ x → x ≤ 41 → 32 ≤ y → y ≤ 41 → x ≠ y → am x ≠ am y := fun x y a1 a2 b1 b2 h e => h (hd.2.2 x y a1 a2 b1 b2 e)
  have F2 : FM q1 am i f f2 := by
    rw [hf2, hf1]
    exact (FM.set hd (by decide) (by decide) (by show 1 * i ≤ _; omega)).trans (FM.set hd (by decide) (by decide) (by show 1 * i ≤ _; omega))
  have c32 : ti f2 (am 32) i = 0 := by rw [hf2, ti_sI_ne (ne _ _ (by decide) (by decide) (by decide) (by decide) (by decide)), hf1, ti_sI_eq]
  have c36 : ti f2 (am 36) i = 0 := by rw [hf2, ti_sI_eq]
  have hstep : ∀ (rc : Int32 → List Nat → TF → Prop) (k : Nat) (f3 : TF), k ≤ 9 → FM q1 am i f f3 → ti f3 (am 32) i = 0 → ti f3 (am 36) i = 0 → (∀ j, j < k → ti f3 (am 40) (9 * i + j) = -1) → (∀ f4 : TF, k + 1 ≤ 9 → FM q1 am i f f4 → ti f4 (am 32) i = 0 → ti f4 (am 36) i = 0 → (∀ j, j < k + 1 → ti f4 (am 40) (9 * i + j) = -1) → rc (nI (k + 1)) L f4) → wpB_Md_order_w_42_10 L f q1 p0 (nI i) (am 32) f1 (am 36) f2 Q rc (nI k) L f3 := by
    intro rc k f3 hk F3 c3 c6 hall hrec hO3 hE3
    rw [show (9 : Int32) = nI 9 from rfl, nI_leI (by omega) (by omega)]
    refine ⟨fun g f4 hf4 hO4 => ?_, fun g q74 e74 f4 hf4 hO4 => ?_⟩
    · have fr4 : Fr [42, 43, 44, 45, 46] q1 f3 f4 := by rw [hf4]; exact Fr.set (by decide)
      have F4 : FM q1 am i f f4 := F3.trans (FM.fr hd fr4)
      have am4 : ∀ y z, 32 ≤ y → y ≤ 41 → ti f4 (am y) z = ti f3 (am y) z := fun y z b1 b2 => fr4.1 _ z (Or.inl (hd.2.1 y b1 b2).1)
      have O4 : OrdM f4 q1 am i o0 := ⟨fun y b1 b2 => (F4.2.2.2 _ _).trans (hr y (by omega) b2), ⟨((am4 32 _ (by decide) (by decide)).trans c3).trans nI_0.symm, fun j hj => absurd hj (by show ¬ j < 0; omega)⟩, ⟨((am4 36 _ (by decide) (by decide)).trans c6).trans nI_0.symm, fun j hj => absurd hj (by show ¬ j < 0; omega)⟩, fun j hj => (am4 40 _ (by decide) (by decide)).trans (hall j (by omega)), fun h => absurd rfl h⟩
      have T4 : TapeM f4 q1 mB B N := ⟨(F4.2.2.2 _ _).trans hT.1, (F4.2.1 28 (by decide)).trans hT.2.1, fun j => (F4.1 mB j hd.1 (fun y b1 b2 e => (hd.2.1 y b1 b2).2 e.symm)).trans (hT.2.2 j)⟩
      refine first_m hd.1 hN T4 (by rw [hf4, ti_sI_eq]) (fun f5 A5 fr5 hO5 _ _ => ?_)
      have O5 := O4.fr hd (fr5.mono (by decide))
      have F5 : FM q1 am i f f5 := F4.trans (FM.fr hd (fr5.mono (by decide)))
      exact ⟨oloop20 hd hN hi (hr 30 (by decide) (by decide)) (hr 31 (by decide) (by decide)) hb hg n31 _ o0 0 f5 o0_wf A5 O5 F5 (fun _ _ h => h), oloop47 hd hN hi (hr 30 (by decide) (by decide)) (hr 31 (by decide) (by decide)) hb hg n31 _ o0 0 f5 o0_wf A5 O5 F5 (fun _ _ h => h)⟩
    · rw [F3.2.2.2, hr 40 (by decide) (by decide)] at e74; cases e74
      rw [pk_mul, nI_add, nI_clamp (by omega)] at hf4
      rw [nI_1]
      refine hrec f4 (by omega) (F3.trans (by rw [hf4]; exact FM.set hd (by decide) (by decide) (by show 9 * i ≤ _; omega))) (by rw [hf4, ti_sI_ne (ne _ _ (by decide) (by decide) (by decide) (by decide) (by decide))]; exact c3) (by rw [hf4, ti_sI_ne (ne _ _ (by decide) (by decide) (by decide) (by decide) (by decide))]; exact c6) (fun j hj => ?_)
      rw [hf4, ti_sI]
      by_cases e : j = k
      · rw [if_pos ⟨rfl, by omega⟩]
      · rw [if_neg (fun z => e (by omega))]; exact hall j (by omega)
  have hloop : ∀ (n k : Nat) (f3 : TF), k ≤ 9 → FM q1 am i f f3 → ti f3 (am 32) i = 0 → ti f3 (am 36) i = 0 → (∀ j, j < k → ti f3 (am 40) (9 * i + j) = -1) → wpL_Md_order_w_42_10 L f q1 p0 (nI i) (am 32) f1 (am 36) f2 Q n (nI k) L f3 := by
    intro n
    induction n with
    | zero => intro k f3 a1 a2 a3 a4 a5; exact hstep (fun _ _ _ => True) k f3 a1 a2 a3 a4 a5 (fun _ _ _ _ _ _ => trivial)
    | succ n ih => intro k f3 a1 a2 a3 a4 a5; exact hstep _ k f3 a1 a2 a3 a4 a5 (fun f4 b1 b2 b3 b4 b5 => ih (k + 1) f4 b1 b2 b3 b4 b5)
  have h0 := hloop (((9 : Int32).toInt - (0 : Int32).toInt).toNat) 0 f2 (by decide) F2 c32 c36 (fun j hj => absurd hj (by omega))
  rw [nI_0] at h0
  exact h0
end ORM
end LINE
