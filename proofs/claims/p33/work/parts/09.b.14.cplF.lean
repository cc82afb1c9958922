section FARE
variable {L : List Nat} {f : TF} {q0 q1 : Nat}
/-- v by n hundredths, a million at most -/
def byv (v n : Int32) : Int32 := if lg_cmp (v.toInt64 * n.toInt64 / 100) 1000000 ≤ 0 then (v.toInt64 * n.toInt64 / 100).toInt32 else 1000000
def bym (v n : Int32) : Int32 := if n = -1 then v else byv v n
theorem scaled_x {v n : Int32} {Q : Int32 → Prop} (h : Q (bym v n)) : wp_Or_scaled_w L f v n Q := by
  unfold bym at h
  refine ⟨fun k => by rw [if_pos k] at h; exact h, fun k y2 e2 y3 e3 y4 e4 => ?_⟩
  rw [if_neg k] at h
  unfold byv at h
  subst e2 e3 e4
  refine ⟨fun g y6 e6 => ?_, fun g => ?_⟩
  · rw [if_pos g] at h; subst e6; exact h
  · rw [if_neg g] at h; exact h
theorem by_m {v n : Int32} {Q : Int32 → Prop} (h : Q (byv v n)) : wp_Md_by_w L f v n Q := by
  unfold byv at h
  intro y2 e2 y3 e3 y4 e4
  subst e2 e3 e4
  refine ⟨fun g y6 e6 => ?_, fun g => ?_⟩
  · rw [if_pos g] at h; subst e6; exact h
  · rw [if_neg g] at h; exact h
theorem mul_bd {a b : Int} (ha : 0 ≤ a) (ha2 : a < 2147483648) (hb : 0 ≤ b) (hb2 : b < 2147483648) : 0 ≤ a * b ∧ a * b < 4611686018427387904 := by
  refine ⟨Int.mul_nonneg ha hb, ?_⟩
  have h1 : a * b ≤ 2147483647 * b := Int.mul_le_mul_of_nonneg_right (by omega) hb
  omega
theorem byv_nn {v n : Int32} (hv : ¬ v < 0) (hn : ¬ n < 0) : ¬ byv v n < 0 := by
  have z0 : (0 : Int32).toInt = 0 := by decide
  rw [Int32.lt_iff_toInt_lt, z0] at hv hn
  have v2 := Int32.toInt_lt v
  have n2 := Int32.toInt_lt n
  obtain ⟨p1, p2⟩ := mul_bd (a := v.toInt) (b := n.toInt) (by omega) (by omega) (by omega) (by omega)
  have e1 : (v.toInt64 * n.toInt64).toInt = v.toInt * n.toInt := by
    rw [Int64.toInt_mul, Int32.toInt_toInt64, Int32.toInt_toInt64]
    exact Int.bmod_eq_of_le (by omega) (by omega)
  have e2 : (v.toInt64 * n.toInt64 / 100).toInt = v.toInt * n.toInt / 100 := by
    rw [Int64.toInt_div, e1, show (100 : Int64).toInt = 100 by decide, Int.tdiv_eq_ediv_of_nonneg p1]
    exact Int.bmod_eq_of_le (by omega) (by omega)
  unfold byv
  generalize v.toInt64 * n.toInt64 / 100 = w at e2
  have hw0 : 0 ≤ w.toInt := by rw [e2]; omega
  have zm : (1000000 : Int64).toInt = 1000000 := by decide
  split
  · rename_i h
    unfold lg_cmp at h
    have hle : ¬ w > 1000000 := by
      intro k
      rw [if_pos k] at h
      exact absurd h (by decide)
    have hle' : ¬ (1000000 : Int64).toInt < w.toInt := fun k => hle (Int64.lt_iff_toInt_lt.mpr k)
    rw [Int32.lt_iff_toInt_lt, Int64.toInt_toInt32, z0, Int.bmod_eq_of_le (by omega) (by omega)]
    omega
  · decide
theorem bym_nn {v n : Int32} (hv : ¬ v < 0) (hn : n = -1 ∨ ¬ n < 0) : ¬ bym v n < 0 := by
  unfold bym
  split
  · exact hv
  · rename_i h
    rcases hn with hn | hn
    · exact absurd hn h
    · exact byv_nn hv hn
theorem bym_y {v n : Int32} (hn : ¬ n < 0) : bym v n = byv v n := if_neg (by rintro rfl; exact hn (by decide))
/-- line k of p holds v -/
abbrev lnH (p : OL) (k : Nat) (v : Int32) : Prop := ¬ v < p.2 (3 * k) ∧ ¬ p.2 (3 * k + 1) < v
/-- the fare of the first of m lines from k on that holds d -/
def bsP (p : OL) (d : Int32) : Nat → Nat → Int32
  | 0, _ => -1
  | m + 1, k => if lnH p k d then p.2 (3 * k + 2) else bsP p d m (k + 1)
/-- v by all of m lines from k on that hold h -/
def hrP (p : OL) (h : Int32) : Nat → Nat → Int32 → Int32
  | 0, _, v => v
  | m + 1, k, v => hrP p h m (k + 1) (if lnH p k h then bym v (p.2 (3 * k + 2)) else v)
theorem bsP_z {p : OL} {d : Int32} {k : Nat} (h : p.1 ≤ k) : bsP p d (p.1 - k) k = -1 := by rw [show p.1 - k = 0 by omega]; rfl
theorem bsP_s {p : OL} {d : Int32} {k : Nat} (h : k < p.1) : bsP p d (p.1 - k) k = if lnH p k d then p.2 (3 * k + 2) else bsP p d (p.1 - (k + 1)) (k + 1) := by rw [show p.1 - k = p.1 - (k + 1) + 1 by omega]; rfl
theorem hrP_z {p : OL} {d v : Int32} {k : Nat} (h : p.1 ≤ k) : hrP p d (p.1 - k) k v = v := by rw [show p.1 - k = 0 by omega]; rfl
theorem hrP_s {p : OL} {d v : Int32} {k : Nat} (h : k < p.1) : hrP p d (p.1 - k) k v = hrP p d (p.1 - (k + 1)) (k + 1) (if lnH p k d then bym v (p.2 (3 * k + 2)) else v) := by rw [show p.1 - k = p.1 - (k + 1) + 1 by omega]; rfl
theorem bsP_nn {p : OL} {d : Int32} (hp : ∀ k, k < p.1 → ¬ p.2 (3 * k + 2) < 0) : ∀ m k : Nat, k + m ≤ p.1 → bsP p d m k = -1 ∨ ¬ bsP p d m k < 0 := by
  intro m
  induction m with
  | zero => intro k _; exact Or.inl rfl
  | succ m ih =>
    intro k hk
    show (if lnH p k d then p.2 (3 * k + 2) else bsP p d m (k + 1)) = -1 ∨ ¬ (if lnH p k d then p.2 (3 * k + 2) else bsP p d m (k + 1)) < 0
    by_cases g : lnH p k d
    · rw [if_pos g]; exact Or.inr (hp k (by omega))
    · rw [if_neg g]; exact ih (k + 1) (by omega)
theorem hrP_nn {p : OL} {h : Int32} (hp : ∀ k, k < p.1 → ¬ p.2 (3 * k + 2) < 0) : ∀ (m k : Nat) (v : Int32), k + m ≤ p.1 → ¬ v < 0 → ¬ hrP p h m k v < 0 := by
  intro m
  induction m with
  | zero => intro k v _ hv; exact hv
  | succ m ih =>
    intro k v hk hv
    refine ih (k + 1) _ (by omega) ?_
    split
    · exact bym_nn hv (Or.inr (hp k (by omega)))
    · exact hv
def mx (a b : Int32) : Int32 := if a < b then b else a
def frO (S : Nat → Int32) (oars v : Int32) : Int32 := mx (if oars = 2 then bym v (S 8) else v) (S 5)
def frE (S : Nat → Int32) (day oars v : Int32) : Int32 := frO S oars (if day - day / 7 * 7 = 0 then bym v (S 4) else v)
def frW (S : Nat → Int32) (fl : Int32) (up : Bool) (v : Int32) : Int32 := if fl = 0 then v else if fl ≤ 0 then (if up = true then bym v (S 3) else bym v (S 2)) else (if up = true then bym v (S 2) else bym v (S 3))
/-- the fare by an order: -1 where it has none -/
def FR (o : OS) (d fl : Int32) (up : Bool) (day hour oars : Int32) : Int32 := if bsP o.1 d o.1.1 0 = -1 then -1 else frE o.2.2.1 day oars (hrP o.2.1 hour o.2.1.1 0 (frW o.2.2.1 fl up (bsP o.1 d o.1.1 0)))
theorem mx_nn {a b : Int32} (ha : ¬ a < 0) : ¬ mx a b < 0 := by
  unfold mx
  split
  · rename_i h
    rw [Int32.lt_iff_toInt_lt] at *
    omega
  · exact ha
theorem frO_nn {S : Nat → Int32} {oars v : Int32} (hS : ∀ j, j < 9 → S j = -1 ∨ ¬ S j < 0) (hv : ¬ v < 0) : ¬ frO S oars v < 0 := by
  refine mx_nn ?_
  split
  · exact bym_nn hv (hS 8 (by decide))
  · exact hv
theorem frE_nn {S : Nat → Int32} {day oars v : Int32} (hS : ∀ j, j < 9 → S j = -1 ∨ ¬ S j < 0) (hv : ¬ v < 0) : ¬ frE S day oars v < 0 := by
  refine frO_nn hS ?_
  split
  · exact bym_nn hv (hS 4 (by decide))
  · exact hv
theorem frW_nn {S : Nat → Int32} {fl v : Int32} {up : Bool} (hS : ∀ j, j < 9 → S j = -1 ∨ ¬ S j < 0) (hv : ¬ v < 0) : ¬ frW S fl up v < 0 := by
  unfold frW
  repeat' split
  all_goals first
    | exact hv
    | exact bym_nn hv (hS 2 (by decide))
    | exact bym_nn hv (hS 3 (by decide))
theorem FR_nn {o : OS} {d fl day hour oars : Int32} {up : Bool} (hw : WfO o) (hb : ¬ bsP o.1 d o.1.1 0 = -1) : ¬ FR o d fl up day hour oars < 0 := by
  obtain ⟨w1, w2, w3, w4, w5⟩ := hw
  unfold FR
  rw [if_neg hb]
  refine frE_nn w3 (hrP_nn w5 _ _ _ (by omega) (frW_nn w3 ?_))
  rcases bsP_nn (d := d) w4 o.1.1 0 (by omega) with h | h
  · exact absurd h hb
  · exact h
end FARE
