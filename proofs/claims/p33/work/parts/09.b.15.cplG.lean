section FARX
variable {L : List Nat} {f : TF} {q0 q1 : Nat}
theorem mul3 (k : Nat) : nI k * 3 = nI (3 * k) := by rw [show (3 : Int32) = nI 3 from rfl, pk_mul, Nat.mul_comm]
theorem mul31 (k : Nat) : nI k * 3 + 1 = nI (3 * k + 1) := by rw [mul3, nI_1]
theorem mul32 (k : Nat) : nI k * 3 + 2 = nI (3 * k + 2) := by rw [mul3, show (2 : Int32) = nI 2 from rfl, nI_add]
theorem lh_16 {q k : Nat} {p : OL} {v : Int32} {Q : Int32 → Prop} (hF : ∀ j, j < 3 * p.1 → ti f q j = p.2 j) (hp : p.1 ≤ 12) (hk : k < p.1) (h1 : lnH p k v → Q 1) (h0 : ¬ lnH p k v → Q 0) : wp_Or_lineHolds_k16_w L f q (nI k) v Q := by
  intro x1 e1
  rw [mul3, nI_clamp (by omega), hF _ (by omega)] at e1
  subst e1
  refine ⟨fun g => h0 (fun z => z.1 g), fun g x3 e3 => ?_⟩
  rw [mul31, nI_clamp (by omega), hF _ (by omega)] at e3
  subst e3
  exact ⟨fun g2 => h0 (fun z => z.2 g2), fun g2 => h1 ⟨g, g2⟩⟩
theorem lh_17 {q k : Nat} {p : OL} {v : Int32} {Q : Int32 → Prop} (hF : ∀ j, j < 3 * p.1 → ti f q j = p.2 j) (hp : p.1 ≤ 12) (hk : k < p.1) (h1 : lnH p k v → Q 1) (h0 : ¬ lnH p k v → Q 0) : wp_Or_lineHolds_k17_w L f q (nI k) v Q := by
  intro x1 e1
  rw [mul3, nI_clamp (by omega), hF _ (by omega)] at e1
  subst e1
  refine ⟨fun g => h0 (fun z => z.1 g), fun g x3 e3 => ?_⟩
  rw [mul31, nI_clamp (by omega), hF _ (by omega)] at e3
  subst e3
  exact ⟨fun g2 => h0 (fun z => z.2 g2), fun g2 => h1 ⟨g, g2⟩⟩
theorem base_x {qO qF qH qS : Nat} {o : OS} {d : Int32} {Q : Int32 → Prop} (hX : OrdX f qO qF qH qS o) (hw : WfO o) (hq : Q (bsP o.1 d o.1.1 0)) : wp_Or_basePrice_w L f qO d Q := by
  obtain ⟨⟨r1, r2, r3⟩, a1, a2, a3, a4, a5, a6⟩ := hX
  have w1 := hw.1
  have hstep : ∀ (rc : Int32 → Prop) (k : Nat), k ≤ o.1.1 → Q (bsP o.1 d (o.1.1 - k) k) → (k < o.1.1 → Q (bsP o.1 d (o.1.1 - (k + 1)) (k + 1)) → rc (nI (k + 1))) → wpB_Or_basePrice_w_2_1 L f qO d Q rc (nI k) := by
    intro rc k hk hqk hrec x2 e2
    rw [a1] at e2
    subst e2
    refine ⟨fun g => ?_, fun g q4 e4 => ?_⟩
    · rw [nI_leI (by omega) (by omega)] at g
      rw [bsP_z g] at hqk
      exact hqk
    · rw [nI_leI (by omega) (by omega)] at g
      have hlt : k < o.1.1 := by omega
      rw [r1] at e4; cases e4
      rw [bsP_s hlt] at hqk
      refine lh_16 a3 w1 hlt (fun h => ⟨fun z => absurd z (by decide), fun _ x6 e6 => ?_⟩) (fun h => ⟨fun _ => ?_, fun z => absurd z (by decide)⟩)
      · rw [mul32, nI_clamp (by omega), a3 _ (by omega)] at e6
        subst e6
        rw [if_pos h] at hqk
        exact hqk
      · rw [if_neg h] at hqk
        rw [nI_1]
        exact hrec hlt hqk
  have hloop : ∀ (m k : Nat), k ≤ o.1.1 → Q (bsP o.1 d (o.1.1 - k) k) → wpL_Or_basePrice_w_2_1 L f qO d Q m (nI k) := by
    intro m
    induction m with
    | zero => intro k b1 b2; exact hstep (fun _ => True) k b1 b2 (fun _ _ => trivial)
    | succ m ih => intro k b1 b2; exact hstep _ k b1 b2 (fun c1 c2 => ih _ (by omega) c2)
  exact hloop _ 0 (Nat.zero_le _) hq
/-- the end of a price behind the hours -/
theorem tail_x {qS : Nat} {S : Nat → Int32} {day oars v : Int32} {Q : Int32 → Prop} (hS : ∀ j, j < 9 → ti f qS j = S j) (hq : Q (frE S day oars v)) : (((day - day / 7 * 7) = 0 → ∀ x_41 : Int32, ti f qS (4 : Int32).toNatClampNeg = x_41 → wp_Or_scaled_w L f v x_41 (fun (r_42 : Int32) => ((oars = 2 → ∀ x_46 : Int32, ti f qS (8 : Int32).toNatClampNeg = x_46 → wp_Or_scaled_w L f r_42 x_46 (fun (r_47 : Int32) => ∀ x_48 : Int32, ti f qS (5 : Int32).toNatClampNeg = x_48 → ∀ y_49 : Int32, y_49 = (if r_47 < x_48 then x_48 else r_47) → Q y_49)) ∧ (¬ (oars = 2) → ∀ x_44 : Int32, ti f qS (5 : Int32).toNatClampNeg = x_44 → ∀ y_45 : Int32, y_45 = (if r_42 < x_44 then x_44 else r_42) → Q y_45)))) ∧ (¬ ((day - day / 7 * 7) = 0) → ((oars = 2 → ∀ x_53 : Int32, ti f qS (8 : Int32).toNatClampNeg = x_53 → wp_Or_scaled_w L f v x_53 (fun (r_54 : Int32) => ∀ x_55 : Int32, ti f qS (5 : Int32).toNatClampNeg = x_55 → ∀ y_56 : Int32, y_56 = (if r_54 < x_55 then x_55 else r_54) → Q y_56)) ∧ (¬ (oars = 2) → ∀ x_51 : Int32, ti f qS (5 : Int32).toNatClampNeg = x_51 → ∀ y_52 : Int32, y_52 = (if v < x_51 then x_51 else v) → Q y_52)))) := by
  have z4 : (4 : Int32).toNatClampNeg = 4 := by decide
  have z5 : (5 : Int32).toNatClampNeg = 5 := by decide
  have z8 : (8 : Int32).toNatClampNeg = 8 := by decide
  rw [z4, z5, z8, hS 4 (by decide), hS 5 (by decide), hS 8 (by decide)]
  unfold frE frO mx at hq
  refine ⟨fun g x e => ?_, fun g => ?_⟩
  · subst e
    rw [if_pos g] at hq
    refine scaled_x ⟨fun g2 x e => ?_, fun g2 x e y ey => ?_⟩
    · subst e
      rw [if_pos g2] at hq
      refine scaled_x (fun x e y ey => ?_)
      subst e ey
      exact hq
    · rw [if_neg g2] at hq
      subst e ey
      exact hq
  · rw [if_neg g] at hq
    refine ⟨fun g2 x e => ?_, fun g2 x e y ey => ?_⟩
    · subst e
      rw [if_pos g2] at hq
      refine scaled_x (fun x e y ey => ?_)
      subst e ey
      exact hq
    · rw [if_neg g2] at hq
      subst e ey
      exact hq
theorem pl_5 {qO qF qH qS : Nat} {o : OS} {p0 p1 day hour oars r1 : Int32} {Q : Int32 → Prop} (hX : OrdX f qO qF qH qS o) (hw : WfO o) : ∀ (m k : Nat) (v : Int32), k ≤ o.2.1.1 → Q (frE o.2.2.1 day oars (hrP o.2.1 hour (o.2.1.1 - k) k v)) → wpL_Or_price_w_55_5 L f qO p0 p1 day hour oars r1 Q m v (nI k) := by
  obtain ⟨⟨r1', r2, r3⟩, a1, a2, a3, a4, a5, a6⟩ := hX
  have w1 := hw.2.1
  have hstep : ∀ (rc : Int32 → Int32 → Prop) (k : Nat) (v : Int32), k ≤ o.2.1.1 → Q (frE o.2.2.1 day oars (hrP o.2.1 hour (o.2.1.1 - k) k v)) → (∀ v' : Int32, k < o.2.1.1 → Q (frE o.2.2.1 day oars (hrP o.2.1 hour (o.2.1.1 - (k + 1)) (k + 1) v')) → rc v' (nI (k + 1))) → wpB_Or_price_w_55_5 L f qO p0 p1 day hour oars r1 Q rc v (nI k) := by
    intro rc k v hk hqk hrec x2 e2
    rw [a2] at e2
    subst e2
    refine ⟨fun g => ?_, fun g q4 e4 => ?_⟩
    · rw [nI_leI (by omega) (by omega)] at g
      rw [hrP_z g] at hqk
      have ht := tail_x (L := L) a5 hqk
      refine ⟨fun g q10 e10 => ?_, fun g => ⟨fun g2 q24 e24 => ?_, fun g2 q21 e21 => ?_⟩⟩
      · rw [r3] at e10; cases e10
        exact ht.1 g
      · rw [r3] at e24; cases e24
        exact (ht.2 g).1 g2
      · rw [r3] at e21; cases e21
        exact (ht.2 g).2 g2
    · rw [nI_leI (by omega) (by omega)] at g
      have hlt : k < o.2.1.1 := by omega
      rw [r2] at e4; cases e4
      rw [hrP_s hlt] at hqk
      refine lh_17 a4 w1 hlt (fun h => ⟨fun z => absurd z (by decide), fun _ x6 e6 => ?_⟩) (fun h => ⟨fun _ => ?_, fun z => absurd z (by decide)⟩)
      · rw [mul32, nI_clamp (by omega), a4 _ (by omega)] at e6
        subst e6
        rw [if_pos h] at hqk
        rw [nI_1]
        exact scaled_x (hrec _ hlt hqk)
      · rw [if_neg h] at hqk
        rw [nI_1]
        exact hrec _ hlt hqk
  intro m
  induction m with
  | zero => intro k v b1 b2; exact hstep (fun _ _ => True) k v b1 b2 (fun _ _ _ => trivial)
  | succ m ih => intro k v b1 b2; exact hstep _ k v b1 b2 (fun v' c1 c2 => ih _ _ (by omega) c2)
theorem pl_36 {qO qF qH qS : Nat} {o : OS} {p0 p1 day hour oars r1 x34 r35 : Int32} {Q : Int32 → Prop} (hX : OrdX f qO qF qH qS o) (hw : WfO o) : ∀ (m k : Nat) (v : Int32), k ≤ o.2.1.1 → Q (frE o.2.2.1 day oars (hrP o.2.1 hour (o.2.1.1 - k) k v)) → wpL_Or_price_w_55_36 L f qO p0 p1 day hour oars r1 qS x34 r35 Q m v (nI k) := by
  obtain ⟨⟨r1', r2, r3⟩, a1, a2, a3, a4, a5, a6⟩ := hX
  have w1 := hw.2.1
  have hstep : ∀ (rc : Int32 → Int32 → Prop) (k : Nat) (v : Int32), k ≤ o.2.1.1 → Q (frE o.2.2.1 day oars (hrP o.2.1 hour (o.2.1.1 - k) k v)) → (∀ v' : Int32, k < o.2.1.1 → Q (frE o.2.2.1 day oars (hrP o.2.1 hour (o.2.1.1 - (k + 1)) (k + 1) v')) → rc v' (nI (k + 1))) → wpB_Or_price_w_55_36 L f qO p0 p1 day hour oars r1 qS x34 r35 Q rc v (nI k) := by
    intro rc k v hk hqk hrec x2 e2
    rw [a2] at e2
    subst e2
    refine ⟨fun g => ?_, fun g q4 e4 => ?_⟩
    · rw [nI_leI (by omega) (by omega)] at g
      rw [hrP_z g] at hqk
      exact tail_x a5 hqk
    · rw [nI_leI (by omega) (by omega)] at g
      have hlt : k < o.2.1.1 := by omega
      rw [r2] at e4; cases e4
      rw [hrP_s hlt] at hqk
      refine lh_17 a4 w1 hlt (fun h => ⟨fun z => absurd z (by decide), fun _ x6 e6 => ?_⟩) (fun h => ⟨fun _ => ?_, fun z => absurd z (by decide)⟩)
      · rw [mul32, nI_clamp (by omega), a4 _ (by omega)] at e6
        subst e6
        rw [if_pos h] at hqk
        rw [nI_1]
        exact scaled_x (hrec _ hlt hqk)
      · rw [if_neg h] at hqk
        rw [nI_1]
        exact hrec _ hlt hqk
  intro m
  induction m with
  | zero => intro k v b1 b2; exact hstep (fun _ _ => True) k v b1 b2 (fun _ _ _ => trivial)
  | succ m ih => intro k v b1 b2; exact hstep _ k v b1 b2 (fun v' c1 c2 => ih _ _ (by omega) c2)
theorem pl_64 {qO qF qH qS : Nat} {o : OS} {p0 p1 day hour oars r1 x34 r35 : Int32} {Q : Int32 → Prop} (hX : OrdX f qO qF qH qS o) (hw : WfO o) : ∀ (m k : Nat) (v : Int32), k ≤ o.2.1.1 → Q (frE o.2.2.1 day oars (hrP o.2.1 hour (o.2.1.1 - k) k v)) → wpL_Or_price_w_55_64 L f qO p0 p1 day hour oars r1 qS x34 r35 Q m v (nI k) := by
  obtain ⟨⟨r1', r2, r3⟩, a1, a2, a3, a4, a5, a6⟩ := hX
  have w1 := hw.2.1
  have hstep : ∀ (rc : Int32 → Int32 → Prop) (k : Nat) (v : Int32), k ≤ o.2.1.1 → Q (frE o.2.2.1 day oars (hrP o.2.1 hour (o.2.1.1 - k) k v)) → (∀ v' : Int32, k < o.2.1.1 → Q (frE o.2.2.1 day oars (hrP o.2.1 hour (o.2.1.1 - (k + 1)) (k + 1) v')) → rc v' (nI (k + 1))) → wpB_Or_price_w_55_64 L f qO p0 p1 day hour oars r1 qS x34 r35 Q rc v (nI k) := by
    intro rc k v hk hqk hrec x2 e2
    rw [a2] at e2
    subst e2
    refine ⟨fun g => ?_, fun g q4 e4 => ?_⟩
    · rw [nI_leI (by omega) (by omega)] at g
      rw [hrP_z g] at hqk
      exact tail_x a5 hqk
    · rw [nI_leI (by omega) (by omega)] at g
      have hlt : k < o.2.1.1 := by omega
      rw [r2] at e4; cases e4
      rw [hrP_s hlt] at hqk
      refine lh_17 a4 w1 hlt (fun h => ⟨fun z => absurd z (by decide), fun _ x6 e6 => ?_⟩) (fun h => ⟨fun _ => ?_, fun z => absurd z (by decide)⟩)
      · rw [mul32, nI_clamp (by omega), a4 _ (by omega)] at e6
        subst e6
        rw [if_pos h] at hqk
        rw [nI_1]
        exact scaled_x (hrec _ hlt hqk)
      · rw [if_neg h] at hqk
        rw [nI_1]
        exact hrec _ hlt hqk
  intro m
  induction m with
  | zero => intro k v b1 b2; exact hstep (fun _ _ => True) k v b1 b2 (fun _ _ _ => trivial)
  | succ m ih => intro k v b1 b2; exact hstep _ k v b1 b2 (fun v' c1 c2 => ih _ _ (by omega) c2)
/-- which way the water helps, by the program -/
def drv (fl : Int32) (up : Bool) : Int32 := if fl = 0 then 0 else if fl ≤ 0 then (if up = true then -1 else 1) else (if up = true then 1 else -1)
theorem price_x {qO qF qH qS : Nat} {o : OS} {d fl day hour oars : Int32} {up : Bool} {Q : Int32 → Prop} (hX : OrdX f qO qF qH qS o) (hw : WfO o) (hq : Q (FR o d fl up day hour oars)) : wp_Or_price_w L f qO d (drv fl up) day hour oars Q := by
  refine base_x hX hw ⟨fun g => ?_, fun g => ?_⟩
  · unfold FR at hq
    rw [if_pos g] at hq
    exact hq
  unfold FR at hq
  rw [if_neg g] at hq
  have r3 := hX.1.2.2
  have a5 := hX.2.2.2.2.2.1
  have z2 : (2 : Int32).toNatClampNeg = 2 := by decide
  have z3 : (3 : Int32).toNatClampNeg = 3 := by decide
  have hcase : (fl = 0 ∧ drv fl up = 0 ∧ ∀ v, frW o.2.2.1 fl up v = v) ∨ (drv fl up = 1 ∧ ∀ v, frW o.2.2.1 fl up v = bym v (o.2.2.1 2)) ∨ (drv fl up = -1 ∧ ∀ v, frW o.2.2.1 fl up v = bym v (o.2.2.1 3)) := by
    unfold drv frW
    by_cases h0 : fl = 0
    · exact Or.inl ⟨h0, if_pos h0, fun v => if_pos h0⟩
    · by_cases h1 : fl ≤ 0
      · cases up
        · exact Or.inr (Or.inl ⟨by simp [h0, h1], fun v => by simp [h0, h1]⟩)
        · exact Or.inr (Or.inr ⟨by simp [h0, h1], fun v => by simp [h0, h1]⟩)
      · cases up
        · exact Or.inr (Or.inr ⟨by simp [h0, h1], fun v => by simp [h0, h1]⟩)
        · exact Or.inr (Or.inl ⟨by simp [h0, h1], fun v => by simp [h0, h1]⟩)
  generalize bsP o.1 d o.1.1 0 = b at *
  rcases hcase with ⟨-, hd, hf⟩ | ⟨hd, hf⟩ | ⟨hd, hf⟩
  · rw [hd]
    rw [hf] at hq
    exact ⟨fun _ => ⟨fun _ => pl_5 hX hw _ 0 _ (Nat.zero_le _) hq, fun z => absurd (by decide) z⟩, fun z => absurd (by decide) z⟩
  · rw [hd]
    rw [hf] at hq
    refine ⟨fun z => absurd z (by decide), fun _ q e x e' => ?_⟩
    rw [r3] at e; cases e
    rw [z2, a5 2 (by decide)] at e'
    subst e'
    exact scaled_x (pl_64 hX hw _ 0 _ (Nat.zero_le _) hq)
  · rw [hd]
    rw [hf] at hq
    refine ⟨fun _ => ⟨fun z => absurd z (by decide), fun _ q e x e' => ?_⟩, fun z => absurd (by decide) z⟩
    rw [r3] at e; cases e
    rw [z3, a5 3 (by decide)] at e'
    subst e'
    exact scaled_x (pl_36 hX hw _ 0 _ (Nat.zero_le _) hq)
end FARX
