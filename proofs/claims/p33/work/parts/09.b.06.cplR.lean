section LINE
variable {L : List Nat} {f : TF} {B : Nat → Int32} {N : Nat}
/-- cells apart from these keep their ints; no cell's references change -/
def FX (S : List Nat) (f f' : TF) : Prop := (∀ c z, c ∉ S → ti f' c z = ti f c z) ∧ ∀ c z, tr f' c z = tr f c z
theorem FX.rf {S : List Nat} : FX S f f := ⟨fun _ _ _ => rfl, fun _ _ => rfl⟩
theorem FX.trans {S : List Nat} {f1 f2 f3 : TF} (h : FX S f1 f2) (h' : FX S f2 f3) : FX S f1 f3 := ⟨fun c z hc => (h'.1 c z hc).trans (h.1 c z hc), fun c z => (h'.2 c z).trans (h.2 c z)⟩
theorem FX.mono {S S' : List Nat} {f1 f2 : TF} (h : FX S f1 f2) (hs : ∀ z ∈ S, z ∈ S') : FX S' f1 f2 := ⟨fun c z hc => h.1 c z (fun k => hc (hs c k)), h.2⟩
theorem FX.set {S : List Nat} {q k : Nat} {v : Int32} (hq : q ∈ S) : FX S f (sI f q k v) := ⟨fun c z hc => ti_sI_ne (fun e => hc (e ▸ hq)), fun c z => tr_sI⟩
theorem Fr.fx {S S' : List Nat} {q : Nat} {f1 f2 : TF} (h : Fr S q f1 f2) (hq : q ∈ S') : FX S' f1 f2 := ⟨fun c z hc => h.1 c z (Or.inl (fun e => hc (e ▸ hq))), h.2⟩
/-- lines of one sort: how many, and their numbers in threes -/
abbrev OL : Type := Nat × (Nat → Int32)
/-- an order as it is being read: fare lines, hour lines, the lines that stand once, the bridge line's second number -/
abbrev OS : Type := OL × OL × (Nat → Int32) × Int32
def addL (p : OL) (a b n : Int32) : OL := (p.1 + 1, fun j => if j = 3 * p.1 then a else if j = 3 * p.1 + 1 then b else if j = 3 * p.1 + 2 then n else p.2 j)
def addS (g : Nat → Int32) (k : Nat) (a : Int32) (j : Nat) : Int32 := if j = k then a else g j
def addO (o : OS) (k : Nat) (a b n : Int32) : OS := if k = 0 then (addL o.1 a b n, o.2) else if k = 1 then (o.1, addL o.2.1 a b n, o.2.2) else (o.1, o.2.1, addS o.2.2.1 k a, if k = 6 then b else o.2.2.2)
def roomO (o : OS) (k : Nat) : Bool := if k = 0 then decide (o.1.1 < 12) else if k = 1 then decide (o.2.1.1 < 12) else decide (o.2.2.1 k = -1)
def WfO (o : OS) : Prop := o.1.1 ≤ 12 ∧ o.2.1.1 ≤ 12 ∧ (∀ j, j < 9 → o.2.2.1 j = -1 ∨ ¬ o.2.2.1 j < 0) ∧ (∀ k, k < o.1.1 → ¬ o.1.2 (3 * k + 2) < 0) ∧ ∀ k, k < o.2.1.1 → ¬ o.2.1.2 (3 * k + 2) < 0
abbrev LR : Type := Bool × Nat × OS
/-- c is wanted from b on -/
def ex (B : Nat → Int32) (N : Nat) (o : OS) (c : Int32) (r : Nat → LR) (b : Nat) : LR := if tC B N b = c then r (tE B N b) else (false, b, o)
theorem ex_y {o : OS} {c : Int32} {r : Nat → LR} {b : Nat} (h : tC B N b = c) : ex B N o c r b = r (tE B N b) := if_pos h
theorem ex_n {o : OS} {c : Int32} {r : Nat → LR} {b : Nat} (h : ¬ tC B N b = c) : ex B N o c r b = (false, b, o) := if_neg h
/-- a line behind its first word -/
def lr (B : Nat → Int32) (N : Nat) (o : OS) (k : Nat) (b : Nat) : LR :=
  if k = 0 ∨ k = 1 then ex B N o 1 (ex B N o 4 (ex B N o 1 (ex B N o 5 (ex B N o 1 (ex B N o 2 (fun b' => (true, b', addO o k (tV B N b) (tV B N (tE B N (tE B N b))) (tV B N (tE B N (tE B N (tE B N (tE B N b)))))))))))) b
  else if k = 6 then ex B N o 1 (ex B N o 4 (ex B N o 1 (ex B N o 2 (fun b' => (true, b', addO o k (tV B N b) (tV B N (tE B N (tE B N b))) 0))))) b
  else ex B N o 1 (ex B N o 2 (fun b' => (true, b', addO o k (tV B N b) 0 0))) b
def kk (c : Int32) : Nat := (c - 10).toNatClampNeg
def ln (B : Nat → Int32) (N : Nat) (o : OS) (b : Nat) : LR := if tC B N b < 10 then (false, b, o) else if roomO o (kk (tC B N b)) = false then (false, b, o) else lr B N o (kk (tC B N b)) (tE B N b)
theorem wc_10 : ∀ i : Nat, i < 9 → ¬ wc i < 10 ∧ kk (wc i) = i := by decide +kernel
theorem ln_low {o : OS} {b : Nat} (h : tC B N b < 10) : ln B N o b = (false, b, o) := if_pos h
theorem ln_full {o : OS} {b i : Nat} (hi : i < 9) (h : tC B N b = wc i) (hr : roomO o i = false) : ln B N o b = (false, b, o) := by
  unfold ln
  rw [h, (wc_10 i hi).2, if_neg (wc_10 i hi).1, if_pos hr]
theorem ln_go {o : OS} {b i : Nat} (hi : i < 9) (h : tC B N b = wc i) (hr : ¬ roomO o i = false) : ln B N o b = lr B N o i (tE B N b) := by
  unfold ln
  rw [h, (wc_10 i hi).2, if_neg (wc_10 i hi).1, if_neg hr]
theorem kd_c {c : Int32} {i : Nat} (hi : i < 9) (h : kdOf c = nI i) : c = wc i := by
  unfold kdOf at h
  have hw : wc i = nI i + 10 := by
    have : ∀ i : Nat, i < 9 → wc i = nI i + 10 := by decide +kernel
    exact this i hi
  have hm : ∀ i : Nat, i < 9 → ¬ (-1 : Int32) = nI i := by decide +kernel
  split at h
  · exact absurd h (hm i hi)
  · rw [hw, ← h, Int32.sub_add_cancel]
theorem kd_m {c : Int32} (h : kdOf c = -1) (hc : c < 10 ∨ ∃ i : Nat, i < 9 ∧ c = wc i) : c < 10 := by
  rcases hc with hc | ⟨i, hi, rfl⟩
  · exact hc
  · rw [kdOf_wc i hi] at h
    have hm : ∀ i : Nat, i < 9 → ¬ nI i = (-1 : Int32) := by decide +kernel
    exact absurd h (hm i hi)
theorem wcode_vals (w : Int64) : wcode w < 10 ∨ ∃ i : Nat, i < 9 ∧ wcode w = wc i := by
  rcases wcode_cases w with ⟨-, hc⟩ | ⟨-, hc⟩ | ⟨-, hc⟩ | ⟨-, hc⟩ | ⟨-, hc⟩ | ⟨-, hc⟩ | ⟨-, hc⟩ | ⟨-, hc⟩ | ⟨-, hc⟩ | ⟨-, hc⟩ | ⟨-, hc⟩ | ⟨-, -, -, -, -, -, -, -, -, -, -, hc⟩
  · exact Or.inl (by rw [hc]; decide)
  · exact Or.inl (by rw [hc]; decide)
  · exact Or.inr ⟨0, by decide, hc.trans (by decide +kernel)⟩
  · exact Or.inr ⟨1, by decide, hc.trans (by decide +kernel)⟩
  · exact Or.inr ⟨2, by decide, hc.trans (by decide +kernel)⟩
  · exact Or.inr ⟨3, by decide, hc.trans (by decide +kernel)⟩
  · exact Or.inr ⟨4, by decide, hc.trans (by decide +kernel)⟩
  · exact Or.inr ⟨5, by decide, hc.trans (by decide +kernel)⟩
  · exact Or.inr ⟨6, by decide, hc.trans (by decide +kernel)⟩
  · exact Or.inr ⟨7, by decide, hc.trans (by decide +kernel)⟩
  · exact Or.inr ⟨8, by decide, hc.trans (by decide +kernel)⟩
  · exact Or.inl (by rw [hc]; decide)
theorem tC_vals (B : Nat → Int32) (N b : Nat) : tC B N b < 10 ∨ ∃ i : Nat, i < 9 ∧ tC B N b = wc i := by
  unfold tC tkC
  repeat' split
  all_goals first
    | exact Or.inl (by decide)
    | exact wcode_vals _
theorem tC_let {b : Nat} (hb : b ≤ N) {i : Nat} (hi : i < 9) (h : tC B N b = wc i) : tkS B N b < N ∧ isLt B (tkS B N b) := by
  have hs := tE_le (B := B) hb
  exact Classical.byContradiction fun k => code_n (e := tE B N b) k (by omega) (by omega) h
theorem isDg_int {j : Nat} (h : isDg B j) : 48 ≤ (B j).toInt ∧ (B j).toInt ≤ 57 := by
  obtain ⟨h1, h2⟩ := h
  rw [Int32.lt_iff_toInt_lt] at h1 h2
  have z1 : (48 : Int32).toInt = 48 := by decide
  have z2 : (57 : Int32).toInt = 57 := by decide
  omega
theorem dnum_v {s : Nat} : ∀ n : Nat, n ≤ 5 → (∀ j, j < n → isDg B (s + j)) → 0 ≤ (dnum B s n).toInt ∧ (dnum B s n).toInt < 10 ^ n := by
  intro n
  induction n with
  | zero => intro _ _; show 0 ≤ (0 : Int32).toInt ∧ (0 : Int32).toInt < 10 ^ 0; decide
  | succ n ih =>
    intro hn h
    obtain ⟨i1, i2⟩ := ih (by omega) (fun j hj => h j (by omega))
    have i3 := isDg_int (h n (by omega))
    have i4 : (10 : Int) ^ n ≤ 10 ^ 4 := by
      have : n = 0 ∨ n = 1 ∨ n = 2 ∨ n = 3 ∨ n = 4 := by omega
      rcases this with rfl | rfl | rfl | rfl | rfl <;> decide
    have i5 : (dnum B s n).toInt < 10000 := Int.lt_of_lt_of_le i2 i4
    have z1 : (10 : Int32).toInt = 10 := by decide
    have z2 : (48 : Int32).toInt = 48 := by decide
    have s1 : (dnum B s n * 10).toInt = (dnum B s n).toInt * 10 := by
      rw [Int32.toInt_mul, z1]
      exact Int.bmod_eq_of_le (by omega) (by omega)
    have s2 : (B (s + n) - 48).toInt = (B (s + n)).toInt - 48 := by
      rw [Int32.toInt_sub, z2]
      exact Int.bmod_eq_of_le (by omega) (by omega)
    have s3 : (dnum B s (n + 1)).toInt = (dnum B s n).toInt * 10 + ((B (s + n)).toInt - 48) := by
      show (dnum B s n * 10 + (B (s + n) - 48)).toInt = _
      rw [Int32.toInt_add, s1, s2]
      exact Int.bmod_eq_of_le (by omega) (by omega)
    rw [s3, Int.pow_succ]
    omega
theorem tV_nn {b : Nat} (hb : b ≤ N) (h : tC B N b = 1) : ¬ tV B N b < 0 := by
  have hs := tE_le (B := B) hb
  have ht := (tok_at (B := B) hb).2
  unfold tC tkC at h
  unfold tV
  generalize tkS B N b = s at *
  generalize tE B N b = e at *
  by_cases e0 : s = N
  · rw [if_pos e0] at h; exact absurd h (by decide)
  · rw [if_neg e0] at h
    by_cases hl : bLt (B s) = true
    · rw [if_pos hl] at h
      by_cases h7 : e - s ≤ 7
      · rw [if_pos h7] at h; exact absurd h (wcode_v _).2.1
      · rw [if_neg h7] at h; exact absurd h (by decide)
    · rw [if_neg hl] at h
      by_cases hd : bDg (B s) = true
      · rw [if_pos hd] at h
        by_cases h5 : e - s ≤ 5
        · rcases ht with a | ⟨a1, a2, a3, a4⟩
          · exact absurd a.1 e0
          · have hS := a3 (fun k => hl (isLt_b.mp k)) (isDg_b.mpr hd)
            have hv := dnum_v (B := B) (s := s) (e - s) h5 (fun j hj => hS.2.2.1 (s + j) (by omega) (by omega))
            rw [Int32.lt_iff_toInt_lt]
            have z0 : (0 : Int32).toInt = 0 := by decide
            omega
        · rw [if_neg h5] at h; exact absurd h (by decide)
      · rw [if_neg hd] at h
        by_cases h59 : B s = 59
        · rw [if_pos h59] at h; exact absurd h (by decide)
        · rw [if_neg h59] at h; exact absurd h (by decide)
/-- the program's order as it is being read -/
def OrdX (f : TF) (qO qF qH qS : Nat) (o : OS) : Prop := (tr f qO 2 = some qF ∧ tr f qO 3 = some qH ∧ tr f qO 4 = some qS) ∧ ti f qO 5 = nI o.1.1 ∧ ti f qO 6 = nI o.2.1.1 ∧ (∀ j, j < 3 * o.1.1 → ti f qF j = o.1.2 j) ∧ (∀ j, j < 3 * o.2.1.1 → ti f qH j = o.2.1.2 j) ∧ (∀ j, j < 9 → ti f qS j = o.2.2.1 j) ∧ (o.2.2.1 6 ≠ -1 → ti f qO 7 = o.2.2.1 6 ∧ ti f qO 8 = o.2.2.2)
theorem OrdX.keep {f' : TF} {qO qF qH qS : Nat} {o : OS} (h : OrdX f qO qF qH qS o) (hi : ∀ c z, c ∈ [qO, qF, qH, qS] → ti f' c z = ti f c z) (hr : ∀ c z, tr f' c z = tr f c z) : OrdX f' qO qF qH qS o := by
  obtain ⟨⟨r1, r2, r3⟩, a1, a2, a3, a4, a5, a6⟩ := h
  refine ⟨⟨(hr _ _).trans r1, (hr _ _).trans r2, (hr _ _).trans r3⟩, (hi _ _ (by simp)).trans a1, (hi _ _ (by simp)).trans a2, fun j hj => (hi _ _ (by simp)).trans (a3 j hj), fun j hj => (hi _ _ (by simp)).trans (a4 j hj), fun j hj => (hi _ _ (by simp)).trans (a5 j hj), fun k => ⟨(hi _ _ (by simp)).trans (a6 k).1, (hi _ _ (by simp)).trans (a6 k).2⟩⟩
/-- the cells are all different -/
def Dis (qT qB qO qF qH qS : Nat) : Prop := qB ≠ qT ∧ (∀ c, c ∈ [qO, qF, qH, qS] → c ≠ qT ∧ c ≠ qB) ∧ qF ≠ qO ∧ qH ≠ qO ∧ qS ≠ qO ∧ qH ≠ qF ∧ qS ≠ qF ∧ qS ≠ qH
theorem OrdX.tape {f' : TF} {qT qB qO qF qH qS : Nat} {o : OS} (h : OrdX f qO qF qH qS o) (hd : Dis qT qB qO qF qH qS) (hf : Fr [2, 3, 4, 5] qT f f') : OrdX f' qO qF qH qS o := h.keep (fun c z hc => hf.1 c z (Or.inl (hd.2.1 c hc).1)) hf.2
theorem AtX.keep {f' : TF} {qT qB b : Nat} (h : AtX f qT qB B N b) (hi : ∀ c z, c = qT ∨ c = qB → ti f' c z = ti f c z) (hr : ∀ c z, tr f' c z = tr f c z) : AtX f' qT qB B N b := by
  obtain ⟨⟨t1, t2, t3⟩, a1, a2, a3, a4⟩ := h
  have e2 : ti f' qT 2 = ti f qT 2 := hi _ _ (Or.inl rfl)
  have e5 : ti f' qT 5 = ti f qT 5 := hi _ _ (Or.inl rfl)
  refine ⟨⟨(hr _ _).trans t1, (hi _ _ (Or.inl rfl)).trans t2, fun j => (hi _ _ (Or.inr rfl)).trans (t3 j)⟩, (hi _ _ (Or.inl rfl)).trans a1, (hi _ _ (Or.inl rfl)).trans a2, ?_, a4⟩
  unfold SX at a3 ⊢
  rw [e2, e5]
  exact a3
theorem AtX.ord {f' : TF} {qT qB qO qF qH qS b : Nat} (h : AtX f qT qB B N b) (hd : Dis qT qB qO qF qH qS) (hf : FX [qO, qF, qH, qS] f f') : AtX f' qT qB B N b := h.keep (fun c z hc => hf.1 c z (fun k => by
  rcases hc with rfl | rfl
  · exact (hd.2.1 _ k).1 rfl
  · exact (hd.2.1 _ k).2 rfl)) hf.2
/-- three numbers of a line are written -/
theorem line3 {q n : Nat} {a b c : Int32} {g : Nat → Int32} (hn : n < 12) (h : ∀ j, j < 3 * n → ti f q j = g j) : ∀ j, j < 3 * (n + 1) → ti (sI (sI (sI f q (nI n * 3 : Int32).toNatClampNeg a) q ((nI n * 3) + 1 : Int32).toNatClampNeg b) q ((nI n * 3) + 2 : Int32).toNatClampNeg c) q j = (addL (n, g) a b c).2 j := by
  have e0 : (nI n * 3 : Int32).toNatClampNeg = 3 * n := by rw [show (3 : Int32) = nI 3 from rfl, pk_mul, nI_clamp (by omega)]; omega
  have e1 : ((nI n * 3) + 1 : Int32).toNatClampNeg = 3 * n + 1 := by rw [show (3 : Int32) = nI 3 from rfl, show (1 : Int32) = nI 1 from rfl, pk_mul, nI_add, nI_clamp (by omega)]; omega
  have e2 : ((nI n * 3) + 2 : Int32).toNatClampNeg = 3 * n + 2 := by rw [show (3 : Int32) = nI 3 from rfl, show (2 : Int32) = nI 2 from rfl, pk_mul, nI_add, nI_clamp (by omega)]; omega
  rw [e0, e1, e2]
  intro j hj
  show _ = if j = 3 * n then a else if j = 3 * n + 1 then b else if j = 3 * n + 2 then c else g j
  rw [ti_sI, ti_sI, ti_sI]
  by_cases k2 : j = 3 * n + 2
  · rw [if_pos ⟨rfl, k2⟩, if_neg (by omega), if_neg (by omega), if_pos k2]
  · rw [if_neg (fun k => k2 k.2)]
    by_cases k1 : j = 3 * n + 1
    · rw [if_pos ⟨rfl, k1⟩, if_neg (by omega), if_pos k1]
    · rw [if_neg (fun k => k1 k.2)]
      by_cases k0 : j = 3 * n
      · rw [if_pos ⟨rfl, k0⟩, if_pos k0]
      · rw [if_neg (fun k => k0 k.2), if_neg k0, if_neg k1, if_neg k2]
        exact h j (by omega)
theorem add0_x {qT qB qO qF qH qS : Nat} {o : OS} {a b n : Int32} {Q : List Nat → TF → Prop} (hd : Dis qT qB qO qF qH qS) (h : OrdX f qO qF qH qS o) (hr : roomO o 0 = true) (hq : ∀ f' : TF, OrdX f' qO qF qH qS (addO o 0 a b n) → FX [qO, qF, qH, qS] f f' → Ok L f' → Q L f') : wp_Or_addLine_0_w L f qO a b n Q := by
  obtain ⟨⟨r1, r2, r3⟩, a1, a2, a3, a4, a5, a6⟩ := h
  obtain ⟨-, -, d1, d2, d3, d4, d5, d6⟩ := hd
  have hn : o.1.1 < 12 := of_decide_eq_true hr
  intro q1 e1
  rw [r1] at e1; cases e1
  rw [a1]
  intro f1 hf1 _ f2 hf2 _ f3 hf3 _ _ _ f4 hf4 hO4
  have hx : FX [qO, qF, qH, qS] f f4 := by
    subst hf1 hf2 hf3 hf4
    exact ((FX.set (by simp)).trans (FX.set (by simp))).trans ((FX.set (by simp)).trans (FX.set (by simp)))
  have hF : ∀ c z, c ≠ qO → ti f4 c z = ti f3 c z := fun c z hc => by rw [hf4]; exact ti_sI_ne hc
  have hO : ∀ c z, c ≠ qF → ti f3 c z = ti f c z := fun c z hc => by rw [hf3, hf2, hf1, ti_sI_ne hc, ti_sI_ne hc, ti_sI_ne hc]
  have hOz : ∀ z, z ≠ 5 → ti f4 qO z = ti f qO z := fun z hz => by rw [hf4, ti_sI_nj hz]; exact hO _ _ d1.symm
  refine hq f4 ⟨⟨(hx.2 _ _).trans r1, (hx.2 _ _).trans r2, (hx.2 _ _).trans r3⟩, ?_, (hOz 6 (by decide)).trans a2, fun j hj => ?_, fun j hj => ?_, fun j hj => ?_, fun k => ⟨(hOz 7 (by decide)).trans (a6 k).1, (hOz 8 (by decide)).trans (a6 k).2⟩⟩ hx hO4
  · rw [hf4, ti_sI_eq, nI_1]; rfl
  · rw [hF _ _ d1, hf3, hf2, hf1]
    exact line3 hn a3 j hj
  · rw [hF _ _ d2, hO _ _ d4]; exact a4 j hj
  · rw [hF _ _ d3, hO _ _ d5]; exact a5 j hj
theorem add1_x {qT qB qO qF qH qS : Nat} {o : OS} {a b n : Int32} {Q : List Nat → TF → Prop} (hd : Dis qT qB qO qF qH qS) (h : OrdX f qO qF qH qS o) (hr : roomO o 1 = true) (hq : ∀ f' : TF, OrdX f' qO qF qH qS (addO o 1 a b n) → FX [qO, qF, qH, qS] f f' → Ok L f' → Q L f') : wp_Or_addLine_1_w L f qO a b n Q := by
  obtain ⟨⟨r1, r2, r3⟩, a1, a2, a3, a4, a5, a6⟩ := h
  obtain ⟨-, -, d1, d2, d3, d4, d5, d6⟩ := hd
  have hn : o.2.1.1 < 12 := of_decide_eq_true hr
  intro q1 e1
  rw [r2] at e1; cases e1
  rw [a2]
  intro f1 hf1 _ f2 hf2 _ f3 hf3 _ _ _ f4 hf4 hO4
  have hx : FX [qO, qF, qH, qS] f f4 := by
    subst hf1 hf2 hf3 hf4
    exact ((FX.set (by simp)).trans (FX.set (by simp))).trans ((FX.set (by simp)).trans (FX.set (by simp)))
  have hF : ∀ c z, c ≠ qO → ti f4 c z = ti f3 c z := fun c z hc => by rw [hf4]; exact ti_sI_ne hc
  have hO : ∀ c z, c ≠ qH → ti f3 c z = ti f c z := fun c z hc => by rw [hf3, hf2, hf1, ti_sI_ne hc, ti_sI_ne hc, ti_sI_ne hc]
  have hOz : ∀ z, z ≠ 6 → ti f4 qO z = ti f qO z := fun z hz => by rw [hf4, ti_sI_nj hz]; exact hO _ _ d2.symm
  refine hq f4 ⟨⟨(hx.2 _ _).trans r1, (hx.2 _ _).trans r2, (hx.2 _ _).trans r3⟩, (hOz 5 (by decide)).trans a1, ?_, fun j hj => ?_, fun j hj => ?_, fun j hj => ?_, fun k => ⟨(hOz 7 (by decide)).trans (a6 k).1, (hOz 8 (by decide)).trans (a6 k).2⟩⟩ hx hO4
  · rw [hf4, ti_sI_eq, nI_1]; rfl
  · rw [hF _ _ d1, hO _ _ d4.symm]; exact a3 j hj
  · rw [hF _ _ d2, hf3, hf2, hf1]
    exact line3 hn a4 j hj
  · rw [hF _ _ d3, hO _ _ d6]; exact a5 j hj
/-- a line that may stand once, not the bridge's -/
theorem adds_x {qT qB qO qF qH qS k : Nat} {o : OS} {a : Int32} {f1 : TF} (hd : Dis qT qB qO qF qH qS) (h : OrdX f qO qF qH qS o) (hk : k < 9) (k0 : k ≠ 0) (k1 : k ≠ 1) (k6 : k ≠ 6) (hf1 : f1 = sI f qS k a) : OrdX f1 qO qF qH qS (addO o k a 0 0) ∧ FX [qO, qF, qH, qS] f f1 := by
  obtain ⟨⟨r1, r2, r3⟩, a1, a2, a3, a4, a5, a6⟩ := h
  obtain ⟨-, -, d1, d2, d3, d4, d5, d6⟩ := hd
  have hx : FX [qO, qF, qH, qS] f f1 := by subst hf1; exact FX.set (by simp)
  have hF : ∀ c z, c ≠ qS → ti f1 c z = ti f c z := fun c z hc => by rw [hf1]; exact ti_sI_ne hc
  have ha : addO o k a 0 0 = (o.1, o.2.1, addS o.2.2.1 k a, o.2.2.2) := by unfold addO; rw [if_neg k0, if_neg k1, if_neg k6]
  rw [ha]
  refine ⟨⟨⟨(hx.2 _ _).trans r1, (hx.2 _ _).trans r2, (hx.2 _ _).trans r3⟩, (hF _ _ d3.symm).trans a1, (hF _ _ d3.symm).trans a2, fun j hj => (hF _ _ d5.symm).trans (a3 j hj), fun j hj => (hF _ _ d6.symm).trans (a4 j hj), fun j hj => ?_, fun k' => ?_⟩, hx⟩
  · show _ = if j = k then a else o.2.2.1 j
    rw [hf1, ti_sI]
    by_cases e : j = k
    · rw [if_pos ⟨rfl, e⟩, if_pos e]
    · rw [if_neg (fun z => e z.2), if_neg e]; exact a5 j hj
  · have e6 : addS o.2.2.1 k a 6 = o.2.2.1 6 := by unfold addS; rw [if_neg (fun z => k6 z.symm)]
    have k'' : o.2.2.1 6 ≠ -1 := fun z => k' (e6.trans z)
    exact ⟨((hF _ _ d3.symm).trans (a6 k'').1).trans e6.symm, (hF _ _ d3.symm).trans (a6 k'').2⟩
theorem add6_x {qT qB qO qF qH qS : Nat} {o : OS} {a b n : Int32} {Q : List Nat → TF → Prop} (hd : Dis qT qB qO qF qH qS) (h : OrdX f qO qF qH qS o) (hq : ∀ f' : TF, OrdX f' qO qF qH qS (addO o 6 a b n) → FX [qO, qF, qH, qS] f f' → Ok L f' → Q L f') : wp_Or_addLine_6_w L f qO a b n Q := by
  obtain ⟨⟨r1, r2, r3⟩, a1, a2, a3, a4, a5, a6⟩ := h
  obtain ⟨-, -, d1, d2, d3, d4, d5, d6⟩ := hd
  intro q1 e1
  rw [r3] at e1; cases e1
  intro f1 hf1 _ f2 hf2 _ f3 hf3 hO3
  have hx : FX [qO, qF, qH, qS] f f3 := by
    subst hf1 hf2 hf3
    exact ((FX.set (by simp)).trans (FX.set (by simp))).trans (FX.set (by simp))
  have e6 : (6 : Int32).toNatClampNeg = 6 := by decide
  rw [e6] at hf1
  have hF : ∀ c z, c ≠ qS → c ≠ qO → ti f3 c z = ti f c z := fun c z hc hc' => by rw [hf3, hf2, hf1, ti_sI_ne hc', ti_sI_ne hc', ti_sI_ne hc]
  have hOz : ∀ z, z ≠ 7 → z ≠ 8 → ti f3 qO z = ti f qO z := fun z h7 h8 => by rw [hf3, hf2, hf1, ti_sI_nj h8, ti_sI_nj h7, ti_sI_ne d3.symm]
  refine hq f3 ⟨⟨(hx.2 _ _).trans r1, (hx.2 _ _).trans r2, (hx.2 _ _).trans r3⟩, (hOz 5 (by decide) (by decide)).trans a1, (hOz 6 (by decide) (by decide)).trans a2, fun j hj => (hF _ _ d5.symm d1).trans (a3 j hj), fun j hj => (hF _ _ d6.symm d2).trans (a4 j hj), fun j hj => ?_, fun k' => ⟨?_, ?_⟩⟩ hx hO3
  · show _ = if j = 6 then a else o.2.2.1 j
    rw [hf3, hf2, hf1, ti_sI_ne d3, ti_sI_ne d3, ti_sI]
    by_cases e : j = 6
    · rw [if_pos ⟨rfl, e⟩, if_pos e]
    · rw [if_neg (fun z => e z.2), if_neg e]; exact a5 j hj
  · show _ = addS o.2.2.1 6 a 6
    rw [hf3, hf2, ti_sI_nj (by decide), ti_sI_eq]
    unfold addS; rw [if_pos rfl]
  · show _ = b
    rw [hf3, ti_sI_eq]
end LINE
