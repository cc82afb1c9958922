section HIN
variable {L : List Nat} {f : TF} {q0 q1 : Nat} {ad ad' : Nat → Nat}
/-- the orders with what each says -/
def COf (f : TF) (q0 q1 n qx : Nat) (cO cF cH cS am : Nat → Nat) (oo : Nat → OS) : Prop := CO' f q0 q1 n qx cO am ∧ ∀ i, i < n → WfO (oo i) ∧ OrdX f (cO i) (cF i) (cH i) (cS i) (oo i) ∧ OrdM f q1 am i (oo i)
theorem CO.full (h : CO f q0 q1) : ∃ n qx cO cF cH cS am oo, COf f q0 q1 n qx cO cF cH cS am oo := by
  obtain ⟨n, qx, cO, cF, cH, cS, am, h1, h2, h3, h4, h5, h6, h7, h8, h9⟩ := h
  have hex : ∀ i, ∃ o : OS, i < n → WfO o ∧ OrdX f (cO i) (cF i) (cH i) (cS i) o ∧ OrdM f q1 am i o := by
    intro i
    by_cases hi : i < n
    · obtain ⟨-, -, -, o, h⟩ := h9 i hi
      exact ⟨o, fun _ => h⟩
    · exact ⟨((0, fun _ => 0), (0, fun _ => 0), fun _ => 0, 0), fun h => absurd h hi⟩
  exact ⟨n, qx, cO, cF, cH, cS, am, fun i => Classical.choose (hex i), ⟨h1, h2, h3, h4, h6, fun i hi => ⟨(h9 i hi).1, (h9 i hi).2.1, (h9 i hi).2.2.1⟩⟩, fun i hi => Classical.choose_spec (hex i) hi⟩
theorem fi_cases {am : Nat → Nat} {p0 p1 : Int32} : ∀ n, fi f am p0 p1 n = -2 ∨ ∃ i, i < n ∧ fi f am p0 p1 n = nI i := by
  intro n
  induction n with
  | zero => exact Or.inl rfl
  | succ n ih =>
    have ih' : fi f am p0 p1 n = -2 ∨ ∃ i, i < n + 1 ∧ fi f am p0 p1 n = nI i := ih.elim Or.inl (fun ⟨i, hi, e⟩ => Or.inr ⟨i, by omega, e⟩)
    unfold fi
    split
    · exact ih'
    · split
      · exact ih'
      · exact Or.inr ⟨n, by omega, rfl⟩
theorem m2_nI {i : Nat} (h : i < 2147483648) : ¬ nI i = -2 := by
  intro e
  have := nI_pos (n := i) (by omega)
  rw [e] at this
  exact this (by decide)
/-- hours of the day -/
def hrs (T : Int32) : Int32 := (T - T / 720 * 720) / 60
theorem tb_n (hO : Ok L f) (m1 : q1 ∈ L ∧ tk f q1 = 27) : ∃ n, n ≤ 359999 ∧ ti f q1 1 = nI n := by
  obtain ⟨b1, b2⟩ := hO.i m1 (show slotD 27 1 = some (.inl (0, 359999)) from rfl)
  exact nI_of2 (M := 359999) (n := 359999) (by decide) b1 (by rw [Int32.lt_iff_toInt_lt] at b2; rw [Int32.le_iff_toInt_le]; omega)
theorem hrs_x {T : Int32} {n : Nat} (h : n ≤ 359999) (e : T = nI n) : T / 60 - T / 60 / 12 * 12 = hrs T ∧ T / 60 / 12 = T / 720 := by
  subst e
  unfold hrs
  rw [show (60 : Int32) = nI 60 from rfl, show (12 : Int32) = nI 12 from rfl, show (720 : Int32) = nI 720 from rfl, pk_div (by omega) (by decide) (by decide), pk_rem (by omega) (by decide) (by decide), pk_rem (by omega) (by decide) (by decide), pk_div (by omega) (by decide) (by decide), pk_div (by omega) (by decide) (by decide), pk_div (by omega) (by decide) (by decide)]
  exact ⟨by congr 1; omega, by congr 1; omega⟩
theorem hrs_b {T : Int32} {n : Nat} (h : n ≤ 359999) (e : T = nI n) : (¬ T / 720 < 0 ∧ ¬ 499 < T / 720) ∧ ¬ hrs T < 0 ∧ ¬ 11 < hrs T := by
  subst e
  unfold hrs
  rw [show (60 : Int32) = nI 60 from rfl, show (720 : Int32) = nI 720 from rfl, pk_rem (by omega) (by decide) (by decide), pk_div (by omega) (by decide) (by decide), pk_div (by omega) (by decide) (by decide), show (499 : Int32) = nI 499 from rfl, show (11 : Int32) = nI 11 from rfl, nI_ltI (by decide) (by omega), nI_ltI (by decide) (by omega)]
  exact ⟨⟨nI_pos (by omega), by omega⟩, nI_pos (by omega), by omega⟩
theorem hour_x {T : Int32} {n : Nat} {Q : Int32 → Prop} (ht : ti f q0 10 = T) (h : n ≤ 359999) (e : T = nI n) (hq : Q (hrs T)) : wp_WM_hourNow_w L f q0 Q := by
  intro x1 e1 y2 e2 y3 e3
  rw [ht] at e1
  subst e1 e2 e3
  rw [(hrs_x h e).1]
  exact hq
theorem hour_m {T : Int32} {Q : Int32 → Prop} (ht : ti f q1 1 = T) (hq : Q (hrs T)) : wp_Md_hourNow_w L f q1 Q := by
  intro x1 e1 y2 e2 y3 e3
  rw [ht] at e1
  subst e1 e2 e3
  exact hq
theorem drift_x {a b day hour : Int32} {Q : Int32 → Prop} (hR : Refs f q0 q1 ad') (hV : Vals f q0 q1 ad') (s1 : mup f ad' a b ≤ 0 ↔ b ≤ a) (t1 : ¬ day < 0) (t2 : ¬ 499 < day) (t3 : ¬ hour < 0) (t4 : ¬ 11 < hour) (hq : Q (drv (flv f ad' day hour) (decide (¬ mup f ad' a b ≤ 0)))) : wp_Rv_drift_w L f (ad' 1) a b day hour Q := by
  refine flow_x hR hV day hour t1 t2 t3 t4 ?_
  generalize flv f ad' day hour = fl at *
  have s3 : b ≤ a → decide (¬ mup f ad' a b ≤ 0) = false := fun h => decide_eq_false (fun z => z (s1.mpr h))
  have s4 : ¬ b ≤ a → decide (¬ mup f ad' a b ≤ 0) = true := fun h => decide_eq_true (fun z => h (s1.mp z))
  generalize decide (¬ mup f ad' a b ≤ 0) = up at *
  unfold drv at hq
  refine ⟨fun g => ?_, fun g => ⟨fun g1 => ⟨fun g2 => ?_, fun g2 => ?_⟩, fun g1 => ⟨fun g2 => ?_, fun g2 => ?_⟩⟩⟩
  · rw [if_pos g] at hq; exact hq
  · rw [if_neg g, if_pos g1, s3 g2] at hq; exact hq
  · rw [if_neg g, if_pos g1, s4 g2] at hq; exact hq
  · rw [if_neg g, if_neg g1, s3 g2] at hq; exact hq
  · rw [if_neg g, if_neg g1, s4 g2] at hq; exact hq
theorem dist_x {a b : Int32} {Q : Int32 → Prop} (hR : Refs f q0 q1 ad') (hV : Vals f q0 q1 ad') (s2 : (if 0 ≤ mup f ad' a b then mup f ad' a b else 0 - mup f ad' a b) = mdi f ad' a b) (hq : Q (mdi f ad' a b)) : wp_Rv_distance_w L f (ad' 1) a b Q := by
  intro q1' e1 x2 e2 x3 e3 y4 e4
  rw [hR.2.1] at e1; cases e1
  rw [hV.2.2.1] at e2 e3
  subst e2 e3 e4
  rw [← s2] at hq
  exact hq
/-- the minutes of a way: m miles up, the flow fl -/
def mnE (m fl : Int32) : Int32 := if fl = 0 then 10 else if fl ≤ 0 then (if m ≤ 0 then 7 else 14) else (if m ≤ 0 then 14 else 7)
def mnA (m : Int32) : Int32 := if 0 ≤ m then m else -m
def mn1 (w : Int32) : Int32 := if 1 ≤ w then w else 1
def mnv (m fl oars : Int32) : Int32 := mn1 (if oars = 2 then mnA m * mnE m fl * 2 / 3 else mnA m * mnE m fl)
theorem mnA_d {a b : Int32} : mdi f ad' a b = mnA (mup f ad' a b) := by
  unfold mdi mnA
  generalize mup f ad' a b = m
  by_cases h : m ≤ 0
  · rw [if_pos h]
    by_cases h' : 0 ≤ m
    · have : m = 0 := by
        rw [Int32.le_iff_toInt_le] at h h'
        rw [← Int32.toInt_inj]
        omega
      subst this
      rfl
    · rw [if_neg h']
  · rw [if_neg h, if_pos (by rw [Int32.le_iff_toInt_le] at h ⊢; omega)]
theorem mn1_x {w : Int32} : (if 1 < w then w else 1) = mn1 w := by
  unfold mn1
  by_cases h : 1 < w
  · rw [if_pos h, if_pos (by rw [Int32.lt_iff_toInt_lt] at h; rw [Int32.le_iff_toInt_le]; omega)]
  · rw [if_neg h]
    by_cases h' : 1 ≤ w
    · rw [if_pos h']
      rw [Int32.lt_iff_toInt_lt] at h
      rw [Int32.le_iff_toInt_le] at h'
      rw [← Int32.toInt_inj]
      omega
    · rw [if_neg h']
theorem mnv_b {m fl oars : Int32} (h1 : -60 ≤ m.toInt) (h2 : m.toInt ≤ 60) : 1 ≤ (mnv m fl oars).toInt ∧ (mnv m fl oars).toInt ≤ 840 := by
  have z0 : (0 : Int32).toInt = 0 := by decide
  have z1 : (1 : Int32).toInt = 1 := by decide
  have z2 : (2 : Int32).toInt = 2 := by decide
  have z3 : (3 : Int32).toInt = 3 := by decide
  have hA : 0 ≤ (mnA m).toInt ∧ (mnA m).toInt ≤ 60 := by
    unfold mnA
    by_cases h : 0 ≤ m
    · rw [if_pos h]; rw [Int32.le_iff_toInt_le] at h; omega
    · rw [if_neg h]
      rw [Int32.le_iff_toInt_le] at h
      rw [Int32.toInt_neg, Int.bmod_eq_of_le (by omega) (by omega)]
      omega
  have hE : mnE m fl = 7 ∨ mnE m fl = 10 ∨ mnE m fl = 14 := by
    unfold mnE
    repeat' split
    · exact Or.inr (Or.inl rfl)
    · exact Or.inl rfl
    · exact Or.inr (Or.inr rfl)
    · exact Or.inr (Or.inr rfl)
    · exact Or.inl rfl
  have z7 : (7 : Int32).toInt = 7 := by decide
  have z10 : (10 : Int32).toInt = 10 := by decide
  have z14 : (14 : Int32).toInt = 14 := by decide
  have hM : 0 ≤ (mnA m * mnE m fl).toInt ∧ (mnA m * mnE m fl).toInt ≤ 840 := by
    rcases hE with e | e | e
    · rw [e, fb_mulI (by rw [z7]; omega) (by rw [z7]; omega), z7]; omega
    · rw [e, fb_mulI (by rw [z10]; omega) (by rw [z10]; omega), z10]; omega
    · rw [e, fb_mulI (by rw [z14]; omega) (by rw [z14]; omega), z14]; omega
  unfold mnv mn1
  generalize mnA m * mnE m fl = a at hM ⊢
  have hW : 0 ≤ (if oars = 2 then a * 2 / 3 else a).toInt ∧ (if oars = 2 then a * 2 / 3 else a).toInt ≤ 840 := by
    by_cases h : oars = 2
    · rw [if_pos h]
      have e2 : (a * 2).toInt = a.toInt * 2 := by rw [fb_mulI (by rw [z2]; omega) (by rw [z2]; omega), z2]
      rw [hb_divI (by omega) (by rw [z3]; omega), e2, z3]
      omega
    · rw [if_neg h]; exact hM
  generalize (if oars = 2 then a * 2 / 3 else a) = w at hW ⊢
  by_cases h : 1 ≤ w
  · rw [if_pos h]
    rw [Int32.le_iff_toInt_le] at h
    omega
  · rw [if_neg h]
    omega
end HIN
