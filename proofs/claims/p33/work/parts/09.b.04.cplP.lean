/-- how far a sort goes -/
def spanE (p : Int32 → Bool) (B : Nat → Int32) : Nat → Nat → Nat
  | 0, i => i
  | k + 1, i => if p (B i) then spanE p B k (i + 1) else i
theorem spanE_is (p : Int32 → Bool) (B : Nat → Int32) (N : Nat) : ∀ (k i : Nat), i + k = N → Span (fun j => p (B j) = true) N i (spanE p B k i) := by
  intro k
  induction k with
  | zero =>
    intro i hi
    exact ⟨Nat.le_refl _, by show i ≤ N; omega, fun j h1 h2 => absurd h2 (by show ¬ j < i; omega), fun h => absurd h (by show ¬ i < N; omega)⟩
  | succ k ih =>
    intro i hi
    unfold spanE
    by_cases h : p (B i) = true
    · rw [if_pos h]
      obtain ⟨a1, a2, a3, a4⟩ := ih (i + 1) (by omega)
      refine ⟨by omega, a2, fun j h1 h2 => ?_, a4⟩
      by_cases e : j = i
      · subst e; exact h
      · exact a3 j (by omega) h2
    · rw [if_neg h]
      exact ⟨Nat.le_refl _, by omega, fun j h1 h2 => absurd h2 (by omega), fun _ => h⟩
def bSp (x : Int32) : Bool := x == 32
def bLt (x : Int32) : Bool := !(decide (x < 97)) && !(decide (122 < x))
def bDg (x : Int32) : Bool := !(decide (x < 48)) && !(decide (57 < x))
theorem bSp_is {B : Nat → Int32} : (fun j => bSp (B j) = true) = isSp B := by
  funext j
  simp [bSp, isSp]
theorem bLt_is {B : Nat → Int32} : (fun j => bLt (B j) = true) = isLt B := by
  funext j
  simp [bLt, isLt]
theorem bDg_is {B : Nat → Int32} : (fun j => bDg (B j) = true) = isDg B := by
  funext j
  simp [bDg, isDg]
def tkS (B : Nat → Int32) (N b : Nat) : Nat := spanE bSp B (N - b) b
def tkE (B : Nat → Int32) (N s : Nat) : Nat := if s = N then s else if bLt (B s) then spanE bLt B (N - s) s else if bDg (B s) then spanE bDg B (N - s) s else s + 1
def tkC (B : Nat → Int32) (N s e : Nat) : Int32 := if s = N then 0 else if bLt (B s) then (if e - s ≤ 7 then wcode (wnum B s (e - s)) else 3) else if bDg (B s) then (if e - s ≤ 5 then 1 else 3) else if B s = 59 then 2 else 3
theorem isLt_b {B : Nat → Int32} {s : Nat} : isLt B s ↔ bLt (B s) = true := by
  have := congrFun (bLt_is (B := B)) s
  exact ⟨fun h => by rw [this]; exact h, fun h => by rw [← this]; exact h⟩
theorem isDg_b {B : Nat → Int32} {s : Nat} : isDg B s ↔ bDg (B s) = true := by
  have := congrFun (bDg_is (B := B)) s
  exact ⟨fun h => by rw [this]; exact h, fun h => by rw [← this]; exact h⟩
theorem tok_is {B : Nat → Int32} {N b : Nat} (hb : b ≤ N) : Tok B N b (tkS B N b) (tkE B N (tkS B N b)) := by
  have h1 : Span (isSp B) N b (tkS B N b) := by
    have := spanE_is bSp B N (N - b) b (by omega)
    rw [bSp_is] at this
    exact this
  refine ⟨h1, ?_⟩
  have hs := h1.2.1
  generalize tkS B N b = s at hs
  by_cases e : s = N
  · exact Or.inl ⟨e, by unfold tkE; rw [if_pos e]⟩
  · refine Or.inr ⟨by omega, fun h => ?_, fun h h2 => ?_, fun h h2 => ?_⟩
    · unfold tkE
      rw [if_neg e, if_pos (isLt_b.mp h)]
      have := spanE_is bLt B N (N - s) s (by omega)
      rw [bLt_is] at this
      exact this
    · unfold tkE
      rw [if_neg e, if_neg (fun k => h (isLt_b.mpr k)), if_pos (isDg_b.mp h2)]
      have := spanE_is bDg B N (N - s) s (by omega)
      rw [bDg_is] at this
      exact this
    · unfold tkE
      rw [if_neg e, if_neg (fun k => h (isLt_b.mpr k)), if_neg (fun k => h2 (isDg_b.mpr k))]
/-- the reference's number follows what is read -/
theorem SM.code {f' : TF} {q1 : Nat} {B : Nat → Int32} {N s e : Nat} (hs : s ≤ N) (h : SM f' q1 B N s e) : ti f' q1 43 = tkC B N s e ∧ (ti f' q1 43 = 1 → ti f' q1 45 = dnum B s (e - s)) := by
  have hw : ∀ w : Int64, wcode w ≠ 1 := by
    intro w
    unfold wcode
    repeat' split
    all_goals decide
  obtain ⟨h1, h2, h3, h4⟩ := h
  unfold tkC
  by_cases e0 : s = N
  · rw [if_pos e0, h1 e0]
    exact ⟨rfl, fun k => absurd k (by decide)⟩
  · rw [if_neg e0]
    have hlt : s < N := by omega
    by_cases hl : bLt (B s) = true
    · rw [if_pos hl]
      obtain ⟨a, b⟩ := h2 hlt (isLt_b.mpr hl)
      by_cases h7 : e - s ≤ 7
      · rw [if_pos h7, a h7]; exact ⟨rfl, fun k => absurd k (hw _)⟩
      · rw [if_neg h7, b h7]; exact ⟨rfl, fun k => absurd k (by decide)⟩
    · rw [if_neg hl]
      have hl' : ¬ isLt B s := fun k => hl (isLt_b.mp k)
      by_cases hd : bDg (B s) = true
      · rw [if_pos hd]
        obtain ⟨a, b⟩ := h3 hlt hl' (isDg_b.mpr hd)
        by_cases h5 : e - s ≤ 5
        · rw [if_pos h5, (a h5).1]; exact ⟨rfl, fun _ => (a h5).2⟩
        · rw [if_neg h5, b h5]; exact ⟨rfl, fun k => absurd k (by decide)⟩
      · rw [if_neg hd]
        obtain ⟨a, b⟩ := h4 hlt hl' (fun k => hd (isDg_b.mp k))
        by_cases h59 : B s = 59
        · rw [if_pos h59, a h59]; exact ⟨rfl, fun k => absurd k (by decide)⟩
        · rw [if_neg h59, b h59]; exact ⟨rfl, fun k => absurd k (by decide)⟩
theorem wcode_cases (w : Int64) : (w = 555 ∧ wcode w = 4) ∨ (w = 262 ∧ wcode w = 5) ∨ (w = 119318 ∧ wcode w = 10) ∨ (w = 168984 ∧ wcode w = 11) ∨ (w = 459818 ∧ wcode w = 12) ∨ (w = 488582165 ∧ wcode w = 13) ∨ (w = 284068024 ∧ wcode w = 14) ∨ (w = 6476969 ∧ wcode w = 15) ∨ (w = 38444009 ∧ wcode w = 16) ∨ (w = 161140 ∧ wcode w = 17) ∨ (w = 296479 ∧ wcode w = 18) ∨ (w ≠ 555 ∧ w ≠ 262 ∧ w ≠ 119318 ∧ w ≠ 168984 ∧ w ≠ 459818 ∧ w ≠ 488582165 ∧ w ≠ 284068024 ∧ w ≠ 6476969 ∧ w ≠ 38444009 ∧ w ≠ 161140 ∧ w ≠ 296479 ∧ wcode w = 3) := by
  unfold wcode
  by_cases h0 : w = 555
  · exact (Or.inl ⟨h0, if_pos h0⟩)
  rw [if_neg h0]
  by_cases h1 : w = 262
  · exact Or.inr ((Or.inl ⟨h1, if_pos h1⟩))
  rw [if_neg h1]
  by_cases h2 : w = 119318
  · exact Or.inr (Or.inr ((Or.inl ⟨h2, if_pos h2⟩)))
  rw [if_neg h2]
  by_cases h3 : w = 168984
  · exact Or.inr (Or.inr (Or.inr ((Or.inl ⟨h3, if_pos h3⟩))))
  rw [if_neg h3]
  by_cases h4 : w = 459818
  · exact Or.inr (Or.inr (Or.inr (Or.inr ((Or.inl ⟨h4, if_pos h4⟩)))))
  rw [if_neg h4]
  by_cases h5 : w = 488582165
  · exact Or.inr (Or.inr (Or.inr (Or.inr (Or.inr ((Or.inl ⟨h5, if_pos h5⟩))))))
  rw [if_neg h5]
  by_cases h6 : w = 284068024
  · exact Or.inr (Or.inr (Or.inr (Or.inr (Or.inr (Or.inr ((Or.inl ⟨h6, if_pos h6⟩)))))))
  rw [if_neg h6]
  by_cases h7 : w = 6476969
  · exact Or.inr (Or.inr (Or.inr (Or.inr (Or.inr (Or.inr (Or.inr ((Or.inl ⟨h7, if_pos h7⟩))))))))
  rw [if_neg h7]
  by_cases h8 : w = 38444009
  · exact Or.inr (Or.inr (Or.inr (Or.inr (Or.inr (Or.inr (Or.inr (Or.inr ((Or.inl ⟨h8, if_pos h8⟩)))))))))
  rw [if_neg h8]
  by_cases h9 : w = 161140
  · exact Or.inr (Or.inr (Or.inr (Or.inr (Or.inr (Or.inr (Or.inr (Or.inr (Or.inr ((Or.inl ⟨h9, if_pos h9⟩))))))))))
  rw [if_neg h9]
  by_cases h10 : w = 296479
  · exact Or.inr (Or.inr (Or.inr (Or.inr (Or.inr (Or.inr (Or.inr (Or.inr (Or.inr (Or.inr ((Or.inl ⟨h10, if_pos h10⟩)))))))))))
  rw [if_neg h10]
  exact Or.inr (Or.inr (Or.inr (Or.inr (Or.inr (Or.inr (Or.inr (Or.inr (Or.inr (Or.inr (Or.inr (⟨h0, h1, h2, h3, h4, h5, h6, h7, h8, h9, h10, rfl⟩)))))))))))
theorem wcode_v (w : Int64) : wcode w ≠ 0 ∧ wcode w ≠ 1 ∧ wcode w ≠ 2 := by
  unfold wcode
  repeat' split
  all_goals decide
/-- the program's sort follows what is read -/
theorem SX.code {f' : TF} {qT : Nat} {B : Nat → Int32} {N s e : Nat} (hs : s ≤ N) (h : SX f' qT B N s e) : (ti f' qT 2 = 0 ↔ tkC B N s e = 0) ∧ (ti f' qT 2 = 2 ↔ tkC B N s e = 1) ∧ (ti f' qT 2 = 3 ↔ tkC B N s e = 2) ∧ (ti f' qT 2 = 1 ↔ (s < N ∧ isLt B s)) ∧ (tkC B N s e = 1 → ti f' qT 5 = dnum B s (e - s)) := by
  obtain ⟨h1, h2, h3, h4⟩ := h
  unfold tkC
  by_cases e0 : s = N
  · rw [if_pos e0, h1 e0]
    refine ⟨by decide, by decide, by decide, ⟨fun k => absurd k (by decide), fun k => absurd k.1 (by omega)⟩, fun k => absurd k (by decide)⟩
  · rw [if_neg e0]
    have hlt : s < N := by omega
    by_cases hl : bLt (B s) = true
    · rw [if_pos hl, h2 hlt (isLt_b.mpr hl)]
      have hv : ∀ c : Int32, (c ≠ 0 ∧ c ≠ 1 ∧ c ≠ 2) → ((1 : Int32) = 0 ↔ c = 0) ∧ ((1 : Int32) = 2 ↔ c = 1) ∧ ((1 : Int32) = 3 ↔ c = 2) ∧ ((1 : Int32) = 1 ↔ (s < N ∧ isLt B s)) ∧ (c = 1 → ti f' qT 5 = dnum B s (e - s)) := fun c hc => ⟨⟨fun k => absurd k (by decide), fun k => absurd k hc.1⟩, ⟨fun k => absurd k (by decide), fun k => absurd k hc.2.1⟩, ⟨fun k => absurd k (by decide), fun k => absurd k hc.2.2⟩, ⟨fun _ => ⟨hlt, isLt_b.mpr hl⟩, fun _ => rfl⟩, fun k => absurd k hc.2.1⟩
      by_cases h7 : e - s ≤ 7
      · rw [if_pos h7]; exact hv _ (wcode_v _)
      · rw [if_neg h7]; exact hv 3 (by decide)
    · rw [if_neg hl]
      have hl' : ¬ isLt B s := fun k => hl (isLt_b.mp k)
      by_cases hd : bDg (B s) = true
      · rw [if_pos hd]
        obtain ⟨a, b⟩ := h3 hlt hl' (isDg_b.mpr hd)
        by_cases h5 : e - s ≤ 5
        · rw [if_pos h5, (a h5).1]
          exact ⟨by decide, by decide, by decide, ⟨fun k => absurd k (by decide), fun k => absurd k.2 hl'⟩, fun _ => (a h5).2⟩
        · rw [if_neg h5, b h5]
          exact ⟨by decide, by decide, by decide, ⟨fun k => absurd k (by decide), fun k => absurd k.2 hl'⟩, fun k => absurd k (by decide)⟩
      · rw [if_neg hd]
        obtain ⟨a, b⟩ := h4 hlt hl' (fun k => hd (isDg_b.mp k))
        by_cases h59 : B s = 59
        · rw [if_pos h59, a h59]
          exact ⟨by decide, by decide, by decide, ⟨fun k => absurd k (by decide), fun k => absurd k.2 hl'⟩, fun k => absurd k (by decide)⟩
        · rw [if_neg h59, b h59]
          exact ⟨by decide, by decide, by decide, ⟨fun k => absurd k (by decide), fun k => absurd k.2 hl'⟩, fun k => absurd k (by decide)⟩
