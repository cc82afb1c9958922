section GAPS
/-- a sum of n values -/
def sumN (g : Nat → Int) : Nat → Int
  | 0 => 0
  | n + 1 => sumN g n + g n
theorem sumN_sub {g h : Nat → Int} : ∀ n, sumN (fun i => g i - h i) n = sumN g n - sumN h n := by
  intro n
  induction n with
  | zero => rfl
  | succ n ih => show sumN _ n + (g n - h n) = (sumN g n + g n) - (sumN h n + h n); rw [ih]; omega
theorem sumN_nn {g : Nat → Int} (h : ∀ i, 0 ≤ g i) : ∀ n, 0 ≤ sumN g n := by
  intro n
  induction n with
  | zero => exact Int.le_refl 0
  | succ n ih => have := h n; show 0 ≤ sumN g n + g n; omega
theorem sumN_one : ∀ n : Nat, sumN (fun _ => 1) n = n := by
  intro n
  induction n with
  | zero => rfl
  | succ n ih => show sumN _ n + 1 = _; rw [ih]; omega
theorem sumN_ind {S a e : Int} (h1 : S ≤ a) (h2 : a ≤ e) : ∀ n : Nat, sumN (fun i => if a ≤ S + (i : Int) ∧ S + (i : Int) < e then 1 else 0) n = if S + (n : Int) ≤ a then 0 else if S + (n : Int) ≤ e then S + (n : Int) - a else e - a := by
  intro n
  induction n with
  | zero => show (0 : Int) = _; rw [if_pos (by omega)]
  | succ n ih =>
    show sumN _ n + (if a ≤ S + (n : Int) ∧ S + (n : Int) < e then (1 : Int) else 0) = _
    rw [ih]
    have hc : ((n + 1 : Nat) : Int) = (n : Int) + 1 := by omega
    rw [hc]
    repeat' split
    all_goals omega
/-- a day that the first n gaps leave: 1, else 0 -/
def freeD (S : Int) (a e : Nat → Int) : Nat → Nat → Int
  | 0, _ => 1
  | n + 1, i => freeD S a e n i - (if a n ≤ S + (i : Int) ∧ S + (i : Int) < e n then 1 else 0)
def lenS (a e : Nat → Int) : Nat → Int
  | 0 => 0
  | n + 1 => lenS a e n + (e n - a n)
theorem freeD_01 {S : Int} {a e : Nat → Int} {G : Nat} (hd : ∀ k k', k < G → k' < G → k ≠ k' → e k ≤ a k' ∨ e k' ≤ a k) : ∀ n, n ≤ G → ∀ i : Nat, freeD S a e n i = 1 ∨ (freeD S a e n i = 0 ∧ ∃ k, k < n ∧ a k ≤ S + (i : Int) ∧ S + (i : Int) < e k) := by
  intro n
  induction n with
  | zero => intro _ i; exact Or.inl rfl
  | succ n ih =>
    intro hn i
    have hs : freeD S a e (n + 1) i = freeD S a e n i - (if a n ≤ S + (i : Int) ∧ S + (i : Int) < e n then 1 else 0) := rfl
    by_cases h : a n ≤ S + (i : Int) ∧ S + (i : Int) < e n
    · rw [if_pos h] at hs
      rcases ih (by omega) i with h1 | ⟨h1, k, hk, h2, h3⟩
      · exact Or.inr ⟨by omega, n, by omega, h.1, h.2⟩
      · rcases hd k n (by omega) (by omega) (by omega) with h4 | h4 <;> omega
    · rw [if_neg h] at hs
      rcases ih (by omega) i with h1 | ⟨h1, k, hk, h2, h3⟩
      · exact Or.inl (by omega)
      · exact Or.inr ⟨by omega, k, by omega, h2, h3⟩
theorem freeD_sum {S : Int} {a e : Nat → Int} {G N : Nat} (hb : ∀ k, k < G → S ≤ a k ∧ a k ≤ e k ∧ e k ≤ S + (N : Int)) : ∀ n, n ≤ G → sumN (freeD S a e n) N = (N : Int) - lenS a e n := by
  intro n
  induction n with
  | zero => intro _; show sumN (fun _ => 1) N = _; rw [sumN_one]; show _ = (N : Int) - 0; omega
  | succ n ih =>
    intro hn
    obtain ⟨b1, b2, b3⟩ := hb n (by omega)
    show sumN (fun i => freeD S a e n i - (if a n ≤ S + (i : Int) ∧ S + (i : Int) < e n then 1 else 0)) N = (N : Int) - (lenS a e n + (e n - a n))
    rw [sumN_sub (g := freeD S a e n) (h := fun i => if a n ≤ S + (i : Int) ∧ S + (i : Int) < e n then 1 else 0), sumN_ind b1 b2]
    have := ih (by omega)
    repeat' split
    all_goals omega
theorem lenS_le {S D : Int} {a e : Nat → Int} {G : Nat} (hSD : S ≤ D) (hb : ∀ k, k < G → S ≤ a k ∧ a k ≤ e k ∧ e k ≤ D) (hd : ∀ k k', k < G → k' < G → k ≠ k' → e k ≤ a k' ∨ e k' ≤ a k) : ∀ n, n ≤ G → lenS a e n ≤ D - S ∧ 0 ≤ lenS a e n := by
  intro n hn
  have hN : ((D - S).toNat : Int) = D - S := by omega
  have h1 := freeD_sum (N := (D - S).toNat) (fun k hk => by obtain ⟨x, y, z⟩ := hb k hk; exact ⟨x, y, by omega⟩) n hn
  have h2 := sumN_nn (g := freeD S a e n) (fun i => by
    rcases freeD_01 (S := S) hd n hn i with h | ⟨h, -⟩
    · rw [h]; decide
    · rw [h]; decide) (D - S).toNat
  refine ⟨by omega, ?_⟩
  clear h1 h2
  induction n with
  | zero => exact Int.le_refl 0
  | succ n ih => have := ih (by omega); obtain ⟨x, y, z⟩ := hb n (by omega); show 0 ≤ lenS a e n + (e n - a n); omega
/-- the gaps of a bound man are sound on day D -/
def GapOk (S D : Int) (G : Nat) (a b : Nat → Int32) : Prop := 0 ≤ S ∧ S ≤ D ∧ D ≤ 499 ∧ (∀ k, k < G → S ≤ (a k).toInt ∧ (a k).toInt ≤ (b k).toInt ∧ (b k).toInt ≤ D) ∧ ∀ k k', k < G → k' < G → k ≠ k' → (b k).toInt + 1 < (a k').toInt ∨ (b k').toInt + 1 < (a k).toInt
theorem GapOk.mono {S D D' : Int} {G : Nat} {a b : Nat → Int32} (h : GapOk S D G a b) (h1 : D ≤ D') (h2 : D' ≤ 499) : GapOk S D' G a b := by
  obtain ⟨a1, a2, a3, a4, a5⟩ := h
  exact ⟨a1, by omega, h2, fun k hk => ⟨(a4 k hk).1, (a4 k hk).2.1, by have := (a4 k hk).2.2; omega⟩, a5⟩
/-- the days served: n gaps from k on -/
def dsv (T : Int32) (a b : Nat → Int32) : Nat → Nat → Int32 → Int32
  | 0, _, v => v
  | n + 1, k, v => dsv T a b n (k + 1) (v - ((if T < b k + 1 then T else b k + 1) - a k))
theorem dsv_z {T v : Int32} {a b : Nat → Int32} {G k : Nat} (h : G ≤ k) : dsv T a b (G - k) k v = v := by rw [show G - k = 0 by omega]; rfl
theorem dsv_s {T v : Int32} {a b : Nat → Int32} {G k : Nat} (h : k < G) : dsv T a b (G - k) k v = dsv T a b (G - (k + 1)) (k + 1) (v - ((if T < b k + 1 then T else b k + 1) - a k)) := by rw [show G - k = G - (k + 1) + 1 by omega]; rfl
/-- the step's length in whole numbers -/
theorem gap_len {S : Int} {T : Int32} {G k : Nat} {a b : Nat → Int32} (h : GapOk S T.toInt G a b) (hk : k < G) : ((if T < b k + 1 then T else b k + 1) - a k).toInt = (if T.toInt < (b k).toInt + 1 then T.toInt else (b k).toInt + 1) - (a k).toInt := by
  obtain ⟨a1, a2, a3, a4, a5⟩ := h
  obtain ⟨b1, b2, b3⟩ := a4 k hk
  have z1 : (1 : Int32).toInt = 1 := by decide
  have e1 : (b k + 1).toInt = (b k).toInt + 1 := by rw [fb_addI (by omega) (by omega)]; omega
  by_cases g : T < b k + 1
  · have g' := g
    rw [Int32.lt_iff_toInt_lt, e1] at g'
    rw [if_pos g, if_pos g', fb_subI (by omega) (by omega)]
  · have g' := g
    rw [Int32.lt_iff_toInt_lt, e1] at g'
    rw [if_neg g, if_neg g', fb_subI (by omega) (by omega)]
    omega
/-- what the reference takes off is the same -/
theorem gap_ref {S : Int} {T : Int32} {G k : Nat} {a b : Nat → Int32} (h : GapOk S T.toInt G a b) (hk : k < G) : (T ≤ b k → ((T - 1) - a k) + 1 = (if T < b k + 1 then T else b k + 1) - a k) ∧ (¬ T ≤ b k → (b k - a k) + 1 = (if T < b k + 1 then T else b k + 1) - a k) := by
  have hl := gap_len h hk
  obtain ⟨a1, a2, a3, a4, a5⟩ := h
  obtain ⟨b1, b2, b3⟩ := a4 k hk
  have z1 : (1 : Int32).toInt = 1 := by decide
  refine ⟨fun g => ?_, fun g => ?_⟩
  · rw [Int32.le_iff_toInt_le] at g
    have e1 : (T - 1).toInt = T.toInt - 1 := by rw [fb_subI (by omega) (by omega)]; omega
    have e2 : (T - 1 - a k).toInt = T.toInt - 1 - (a k).toInt := by rw [fb_subI (by omega) (by omega)]; omega
    have e3 : (T - 1 - a k + 1).toInt = T.toInt - (a k).toInt := by rw [fb_addI (by omega) (by omega)]; omega
    rw [← Int32.toInt_inj, e3, hl, if_pos (by omega)]
  · rw [Int32.le_iff_toInt_le] at g
    have e2 : (b k - a k).toInt = (b k).toInt - (a k).toInt := by rw [fb_subI (by omega) (by omega)]
    have e3 : (b k - a k + 1).toInt = (b k).toInt - (a k).toInt + 1 := by rw [fb_addI (by omega) (by omega)]; omega
    rw [← Int32.toInt_inj, e3, hl]
    split <;> omega
theorem dsv_val {S : Int} {T : Int32} {G : Nat} {a b : Nat → Int32} (h : GapOk S T.toInt G a b) : ∀ (n k : Nat) (v : Int32), k + n = G → v.toInt = T.toInt - S - lenS (fun k => (a k).toInt) (fun k => if T.toInt < (b k).toInt + 1 then T.toInt else (b k).toInt + 1) k → 0 ≤ (dsv T a b n k v).toInt := by
  have hle := lenS_le (S := S) (D := T.toInt) (a := fun k => (a k).toInt) (e := fun k => if T.toInt < (b k).toInt + 1 then T.toInt else (b k).toInt + 1) (G := G) h.2.1 (fun k hk => by
    obtain ⟨b1, b2, b3⟩ := h.2.2.2.1 k hk
    refine ⟨b1, ?_, ?_⟩
    · show (a k).toInt ≤ if T.toInt < (b k).toInt + 1 then T.toInt else (b k).toInt + 1
      split <;> omega
    · show (if T.toInt < (b k).toInt + 1 then T.toInt else (b k).toInt + 1) ≤ T.toInt
      split <;> omega) (fun k k' hk hk' hne => by
    obtain ⟨b1, b2, b3⟩ := h.2.2.2.1 k hk
    obtain ⟨c1, c2, c3⟩ := h.2.2.2.1 k' hk'
    show (if T.toInt < (b k).toInt + 1 then T.toInt else (b k).toInt + 1) ≤ (a k').toInt ∨ (if T.toInt < (b k').toInt + 1 then T.toInt else (b k').toInt + 1) ≤ (a k).toInt
    rcases h.2.2.2.2 k k' hk hk' hne with g | g
    · left; split <;> omega
    · right; split <;> omega)
  obtain ⟨a1, a2, a3, -, -⟩ := id h
  intro n
  induction n with
  | zero =>
    intro k v hk hv
    have := hle k (by omega)
    show 0 ≤ v.toInt
    omega
  | succ n ih =>
    intro k v hk hv
    refine ih (k + 1) _ (by omega) ?_
    have hg := gap_len h (show k < G by omega)
    have l1 := hle k (by omega)
    have l2 := hle (k + 1) (by omega)
    have hs : lenS (fun k => (a k).toInt) (fun k => if T.toInt < (b k).toInt + 1 then T.toInt else (b k).toInt + 1) (k + 1) = lenS (fun k => (a k).toInt) (fun k => if T.toInt < (b k).toInt + 1 then T.toInt else (b k).toInt + 1) k + ((if T.toInt < (b k).toInt + 1 then T.toInt else (b k).toInt + 1) - (a k).toInt) := rfl
    rw [hs] at l2 ⊢
    generalize (if T < b k + 1 then T else b k + 1) - a k = w at hg ⊢
    generalize (if T.toInt < (b k).toInt + 1 then T.toInt else (b k).toInt + 1) = y at hg l2 hs ⊢
    rw [fb_subI (by omega) (by omega)]
    omega
end GAPS
