section ORD
variable {L : List Nat} {f : TF} {q0 q1 : Nat}
/-- the number of the order in force among the first i -/
def fi (f : TF) (am : Nat → Nat) (p0 p1 : Int32) : Nat → Int32
  | 0 => -2
  | i + 1 => if p1 < ti f (am 31) i then fi f am p0 p1 i else if p0 < ti f (am 30) i then fi f am p0 p1 i else nI i
theorem nI_m1 (i : Nat) : nI i + (-1) = nI i - 1 := (Int32.sub_eq_add_neg (nI i) 1).symm
theorem nI_0m : nI 0 - 1 < 0 := by decide
/-- what is known of the orders while nothing is written -/
def CO' (f : TF) (q0 q1 n qx : Nat) (cO am : Nat → Nat) : Prop := n ≤ 20 ∧ ti f q0 8 = nI n ∧ ti f q1 29 = nI n ∧ tr f q0 3 = some qx ∧ (∀ k, 30 ≤ k → k ≤ 41 → tr f q1 k = some (am k)) ∧ ∀ i, i < n → tr f qx i = some (cO i) ∧ ti f (cO i) 0 = ti f (am 31) i ∧ ti f (cO i) 1 = ti f (am 30) i
theorem CO.short (h : CO f q0 q1) : ∃ n qx cO am, CO' f q0 q1 n qx cO am := by
  obtain ⟨n, qx, cO, cF, cH, cS, am, h1, h2, h3, h4, h5, h6, h7, h8, h9⟩ := h
  exact ⟨n, qx, cO, am, h1, h2, h3, h4, h6, fun i hi => ⟨(h9 i hi).1, (h9 i hi).2.1, (h9 i hi).2.2.1⟩⟩
theorem orderAt_x {n qx i : Nat} {cO am : Nat → Nat} {Q : Option Nat → Prop} (h : CO' f q0 q1 n qx cO am) (hi : i < n) (hq : Q (some (cO i))) : wp_WM_orderAt_w L f q0 (nI i) Q := by
  obtain ⟨h1, h2, h3, h4, h6, h9⟩ := h
  refine ⟨fun k => absurd k (nI_pos (by omega)), fun _ x2 e2 => ?_⟩
  rw [h2] at e2
  subst e2
  refine ⟨fun k => ?_, fun _ q4 e4 => ?_⟩
  · rw [nI_leI (by omega) (by omega)] at k; omega
  · rw [h4] at e4; cases e4
    rw [nI_clamp (by omega), (h9 i hi).1]
    exact ⟨fun k => absurd k (by simp), fun q5 e5 => by cases e5; exact hq⟩
theorem nif_x {n qx : Nat} {cO am : Nat → Nat} {p0 p1 : Int32} {Q : Int32 → Prop} (h : CO' f q0 q1 n qx cO am) (hq : Q (fi f am p0 p1 n)) : wp_WM_numberInForce_w L f q0 p0 p1 Q := by
  obtain ⟨h1, h2, h3, h4, h6, h9⟩ := id h
  intro x1 e1
  rw [h2] at e1
  subst e1
  have hstep : ∀ (rc : Int32 → Prop) (i : Nat), i ≤ n → Q (fi f am p0 p1 i) → (∀ j, j < i → Q (fi f am p0 p1 j) → rc (nI j - 1)) → wpB_WM_numberInForce_w_7_2 L f q0 p0 p1 (nI n) Q rc (nI i - 1) := by
    intro rc i hi hqi hrec
    cases i with
    | zero => exact ⟨fun _ => hqi, fun k => absurd nI_0m k⟩
    | succ i =>
      rw [nI_pred]
      refine ⟨fun k => absurd k (nI_pos (by omega)), fun _ => orderAt_x h (by omega) ⟨fun k => absurd k (by simp), fun q4 e4 x5 e5 => ?_⟩⟩
      cases e4
      obtain ⟨a1, a2, a3⟩ := h9 i (by omega)
      rw [a2] at e5
      subst e5
      rw [nI_m1]
      unfold fi at hqi
      refine ⟨fun g => ?_, fun g x7 e7 => ?_⟩
      · rw [if_pos g] at hqi
        exact hrec i (by omega) hqi
      · rw [if_neg g] at hqi
        rw [a3] at e7
        subst e7
        refine ⟨fun g2 => ?_, fun g2 => ?_⟩
        · rw [if_pos g2] at hqi
          exact hrec i (by omega) hqi
        · rw [if_neg g2] at hqi
          exact hqi
  have hloop : ∀ (m i : Nat), i ≤ n → Q (fi f am p0 p1 i) → wpL_WM_numberInForce_w_7_2 L f q0 p0 p1 (nI n) Q m (nI i - 1) := by
    intro m
    induction m with
    | zero => intro i a1 a2; exact hstep (fun _ => True) i a1 a2 (fun _ _ _ => trivial)
    | succ m ih => intro i a1 a2; exact hstep _ i a1 a2 (fun j b1 b2 => ih j (by omega) b2)
  exact hloop _ n (Nat.le_refl _) hq
theorem nif_m {n qx : Nat} {cO am : Nat → Nat} {p0 p1 : Int32} {Q : Int32 → Prop} (h : CO' f q0 q1 n qx cO am) (hq : Q (fi f am p0 p1 n)) : wp_Md_forceOn_w L f q1 p0 p1 Q := by
  obtain ⟨h1, h2, h3, h4, h6, h9⟩ := id h
  intro x1 e1
  rw [h3] at e1
  subst e1
  have hstep : ∀ (rc : Int32 → Prop) (i : Nat), i ≤ n → Q (fi f am p0 p1 i) → (∀ j, j < i → Q (fi f am p0 p1 j) → rc (nI j - 1)) → wpB_Md_forceOn_w_7_2 L f q1 p0 p1 (nI n) Q rc (nI i - 1) := by
    intro rc i hi hqi hrec
    cases i with
    | zero => exact ⟨fun _ => hqi, fun k => absurd nI_0m k⟩
    | succ i =>
      rw [nI_pred]
      refine ⟨fun k => absurd k (nI_pos (by omega)), fun _ q4 e4 x5 e5 => ?_⟩
      rw [h6 31 (by decide) (by decide)] at e4; cases e4
      rw [nI_clamp (by omega)] at e5
      subst e5
      rw [nI_m1]
      unfold fi at hqi
      refine ⟨fun g => ?_, fun g q7 e7 x8 e8 => ?_⟩
      · rw [if_pos g] at hqi
        exact hrec i (by omega) hqi
      · rw [if_neg g] at hqi
        rw [h6 30 (by decide) (by decide)] at e7; cases e7
        rw [nI_clamp (by omega)] at e8
        subst e8
        refine ⟨fun g2 => ?_, fun g2 => ?_⟩
        · rw [if_pos g2] at hqi
          exact hrec i (by omega) hqi
        · rw [if_neg g2] at hqi
          exact hqi
  have hloop : ∀ (m i : Nat), i ≤ n → Q (fi f am p0 p1 i) → wpL_Md_forceOn_w_7_2 L f q1 p0 p1 (nI n) Q m (nI i - 1) := by
    intro m
    induction m with
    | zero => intro i a1 a2; exact hstep (fun _ => True) i a1 a2 (fun _ _ _ => trivial)
    | succ m ih => intro i a1 a2; exact hstep _ i a1 a2 (fun j b1 b2 => ih j (by omega) b2)
  exact hloop _ n (Nat.le_refl _) hq
theorem d500 {p : Int32} : 500 ≤ p ↔ 499 < p := by
  rw [Int32.le_iff_toInt_le, Int32.lt_iff_toInt_lt]
  have z1 : (500 : Int32).toInt = 500 := by decide
  have z2 : (499 : Int32).toInt = 499 := by decide
  omega
theorem pr_inForce (hO : Ok L f) (m0 : q0 ∈ L ∧ tk f q0 = 0) (m1 : q1 ∈ L ∧ tk f q1 = 27) (hC : CO f q0 q1) (p_0 p_1 : Int32) : wp_WM_inForce_w L f q0 p_0 p_1 (fun r => wp_Md_inForce_w L f q1 p_0 p_1 (fun r' => r = r')) := by
  obtain ⟨n, qx, cO, am, h⟩ := hC.short
  refine ⟨fun a => ⟨fun _ => rfl, fun k => absurd a k⟩, fun a => ⟨fun b => ⟨fun k => absurd k a, fun _ => ⟨fun _ => rfl, fun k => absurd (d500.mp b) k⟩⟩, fun b => ⟨fun c => ⟨fun k => absurd k a, fun _ => ⟨fun k => absurd (d500.mpr k) b, fun _ => ⟨fun _ => rfl, fun k => absurd c k⟩⟩⟩, fun c => ⟨fun d => ⟨fun k => absurd k a, fun _ => ⟨fun k => absurd (d500.mpr k) b, fun _ => ⟨fun k => absurd k c, fun _ => ⟨fun _ => rfl, fun k => absurd (d500.mp d) k⟩⟩⟩⟩, fun d => ?_⟩⟩⟩⟩
  refine nif_x h ⟨fun k => absurd k a, fun _ => ⟨fun k => absurd (d500.mpr k) b, fun _ => ⟨fun k => absurd k c, fun _ => ⟨fun k => absurd (d500.mpr k) d, fun _ => ?_⟩⟩⟩⟩
  exact nif_m h ⟨fun k => k, rfl⟩
end ORD
