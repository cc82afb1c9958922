/-- the word si stands from s to e -/
def Mat (B : Nat → Int32) (s e si : Nat) : Prop := e - s = SLen.getD si 0 ∧ ∀ j, j < e - s → B (s + j) = sCh si j
theorem isWord_x {L : List Nat} {f : TF} {B : Nat → Int32} {N qT qB s e si : Nat} {Q : Int32 → Prop} (hN : N ≤ 400) (hT : TapeX f qT qB B N) (h3 : ti f qT 3 = nI s) (h4 : ti f qT 4 = nI e) (hse : s ≤ e) (he : e ≤ N) (hsi : si < 11) (h1 : Mat B s e si → Q 1) (h0 : ¬ Mat B s e si → Q 0) : wp_Tp_isWord_w L f qT si Q := by
  intro x1 e1 x2 e2
  rw [h4] at e1
  rw [h3] at e2
  subst e1 e2
  have hl := sLn_in si hsi
  refine ⟨fun g => ?_, fun g => h0 (fun m => g ?_)⟩
  · have g' : nI e - nI s = nI (SLen.getD si 0) := g
    rw [pk_sub hse] at g'
    have hlen : e - s = SLen.getD si 0 := (nI_eq (by omega) (by omega)).mp g'
    have hstep : ∀ (rc : Int32 → Prop) (k : Nat), k ≤ e - s → (∀ j, j < k → B (s + j) = sCh si j) → (k + 1 ≤ e - s → (∀ j, j < k + 1 → B (s + j) = sCh si j) → rc (nI (k + 1))) → wpB_Tp_isWord_w_20_5 L f qT si (nI e) (nI s) Q rc (nI k) := by
      intro rc k hk hall hrec
      refine ⟨fun g1 => h1 ⟨hlen, fun j hj => hall j ?_⟩, fun g1 q8 e8 x9 e9 r10 e10 => ?_⟩
      · have g2 : nI (SLen.getD si 0) ≤ nI k := g1
        rw [nI_leI (by omega) (by omega)] at g2
        omega
      · have g2 : ¬ nI (SLen.getD si 0) ≤ nI k := g1
        rw [nI_leI (by omega) (by omega)] at g2
        rw [hT.1] at e8; cases e8
        rw [nI_add, nI_clamp (by omega), hT.2.2] at e9
        rw [nI_clamp (by omega)] at e10
        subst e9 e10
        refine ⟨fun c => ?_, fun c => h0 (fun m => c (m.2 k (by omega)))⟩
        rw [nI_1]
        refine hrec (by omega) (fun j hj => ?_)
        by_cases ej : j = k
        · subst ej; exact c
        · exact hall j (by omega)
    have hloop : ∀ (n k : Nat), k ≤ e - s → (∀ j, j < k → B (s + j) = sCh si j) → wpL_Tp_isWord_w_20_5 L f qT si (nI e) (nI s) Q n (nI k) := by
      intro n
      induction n with
      | zero => intro k a1 a2; exact hstep (fun _ => True) k a1 a2 (fun _ _ => trivial)
      | succ n ih => intro k a1 a2; exact hstep _ k a1 a2 (fun b1 b2 => ih (k + 1) b1 b2)
    have hl0 := hloop (((7 : Int32).toInt - (0 : Int32).toInt).toNat) 0 (by omega) (fun j hj => absurd hj (by omega))
    rw [nI_0] at hl0
    exact hl0
  · show nI e - nI s = nI (SLen.getD si 0)
    rw [pk_sub hse, m.1]
def wv (d : Nat → Nat) : Nat → Nat
  | 0 => 0
  | k + 1 => wv d k * 27 + d k
theorem wv_inj : ∀ (n m : Nat) (d d' : Nat → Nat), (∀ j, j < n → 1 ≤ d j ∧ d j ≤ 26) → (∀ j, j < m → 1 ≤ d' j ∧ d' j ≤ 26) → wv d n = wv d' m → n = m ∧ ∀ j, j < n → d j = d' j := by
  intro n
  induction n with
  | zero =>
    intro m d d' h h' e
    cases m with
    | zero => exact ⟨rfl, fun j hj => absurd hj (by omega)⟩
    | succ m => have := h' m (by omega); simp only [wv] at e; omega
  | succ n ih =>
    intro m d d' h h' e
    cases m with
    | zero => have := h n (by omega); simp only [wv] at e; omega
    | succ m =>
      have a := h n (by omega)
      have b := h' m (by omega)
      simp only [wv] at e
      have e1 : d n = d' m := by omega
      obtain ⟨c1, c2⟩ := ih m d d' (fun j hj => h j (by omega)) (fun j hj => h' j (by omega)) (by omega)
      subst c1
      refine ⟨rfl, fun j hj => ?_⟩
      by_cases ej : j = n
      · subst ej; exact e1
      · exact c2 j (by omega)
theorem wv_lt (d : Nat → Nat) : ∀ n : Nat, (∀ j, j < n → d j ≤ 26) → wv d n < 27 ^ n := by
  intro n
  induction n with
  | zero => intro _; simp [wv]
  | succ n ih =>
    intro h
    have h1 := h n (by omega)
    have h2 := ih (fun j hj => h j (by omega))
    simp only [wv, Nat.pow_succ]
    omega
theorem wv_congr {d d' : Nat → Nat} : ∀ n : Nat, (∀ j, j < n → d j = d' j) → wv d n = wv d' n := by
  intro n
  induction n with
  | zero => intro _; rfl
  | succ n ih =>
    intro h
    simp only [wv]
    rw [ih (fun j hj => h j (by omega)), h n (by omega)]
def dB (B : Nat → Int32) (s j : Nat) : Nat := (B (s + j)).toInt.toNat - 96
theorem isLt_int {B : Nat → Int32} {j : Nat} (h : isLt B j) : 97 ≤ (B j).toInt ∧ (B j).toInt ≤ 122 := by
  obtain ⟨h1, h2⟩ := h
  rw [Int32.lt_iff_toInt_lt] at h1 h2
  have z1 : (97 : Int32).toInt = 97 := by decide
  have z2 : (122 : Int32).toInt = 122 := by decide
  omega
theorem wnum_v {B : Nat → Int32} {s : Nat} : ∀ n : Nat, n ≤ 7 → (∀ j, j < n → isLt B (s + j)) → (wnum B s n).toInt = (wv (dB B s) n : Int) := by
  intro n
  induction n with
  | zero => intro _ _; show (0 : Int64).toInt = ((0 : Nat) : Int); decide
  | succ n ih =>
    intro hn h
    have i1 := ih (by omega) (fun j hj => h j (by omega))
    have i2 := isLt_int (h n (by omega))
    have i3 := wv_lt (dB B s) n (fun j hj => by have := isLt_int (h j (by omega)); unfold dB; omega)
    have i4 : 27 ^ n ≤ 27 ^ 6 := Nat.pow_le_pow_right (by decide) (by omega)
    have i6 : wv (dB B s) n < 387420489 := Nat.lt_of_lt_of_le i3 i4
    have i5 : dB B s n = (B (s + n)).toInt.toNat - 96 := rfl
    have z1 : (27 : Int64).toInt = 27 := by decide
    have z2 : (96 : Int64).toInt = 96 := by decide
    have s1 : (wnum B s n * 27).toInt = (wv (dB B s) n : Int) * 27 := by
      rw [Int64.toInt_mul, i1, z1]
      exact Int.bmod_eq_of_le (by omega) (by omega)
    have s2 : (wnum B s n * 27 + (B (s + n)).toInt64).toInt = (wv (dB B s) n : Int) * 27 + (B (s + n)).toInt := by
      rw [Int64.toInt_add, s1, Int32.toInt_toInt64]
      exact Int.bmod_eq_of_le (by omega) (by omega)
    show (wnum B s n * 27 + (B (s + n)).toInt64 - 96).toInt = ((wv (dB B s) n * 27 + dB B s n : Nat) : Int)
    rw [Int64.toInt_sub, s2, z2, Int.bmod_eq_of_le (by omega) (by omega)]
    omega
def WV : List Nat := [119318, 168984, 459818, 488582165, 284068024, 6476969, 38444009, 161140, 296479, 555, 262]
def dW (si j : Nat) : Nat := (sCh si j).toInt.toNat - 96
theorem WV_is : ∀ i : Nat, i < 11 → wv (dW i) (SLen.getD i 0) = WV.getD i 0 := by decide +kernel
theorem WV_int : ∀ i : Nat, i < 11 → (Int64.ofNat (WV.getD i 0)).toInt = (WV.getD i 0 : Int) := by decide +kernel
theorem dW_b : ∀ i : Nat, i < 11 → ∀ j : Nat, j < SLen.getD i 0 → 97 ≤ (sCh i j).toInt ∧ (sCh i j).toInt ≤ 122 := by decide +kernel
theorem mat_w {B : Nat → Int32} {s e si : Nat} (hsi : si < 11) (hl : ∀ j, s ≤ j → j < e → isLt B j) (h7 : e - s ≤ 7) : Mat B s e si ↔ wnum B s (e - s) = Int64.ofNat (WV.getD si 0) := by
  have hL : ∀ j, j < e - s → isLt B (s + j) := fun j hj => hl (s + j) (by omega) (by omega)
  have hv := wnum_v (e - s) h7 hL
  have h1 := WV_is si hsi
  have h2 := WV_int si hsi
  constructor
  · rintro ⟨m1, m2⟩
    have hc : wv (dB B s) (e - s) = wv (dW si) (e - s) := wv_congr (e - s) (fun j hj => by unfold dB dW; rw [m2 j hj])
    refine Int64.toInt_inj.mp ?_
    rw [hv, h2, hc, m1, h1]
  · intro h
    have h3 : wv (dB B s) (e - s) = wv (dW si) (SLen.getD si 0) := by
      rw [h, h2] at hv
      rw [h1]
      omega
    obtain ⟨c1, c2⟩ := wv_inj _ _ _ _ (fun j hj => by have := isLt_int (hL j hj); unfold dB; omega) (fun j hj => by have := dW_b si hsi j hj; unfold dW; omega) h3
    refine ⟨c1, fun j hj => Int32.toInt_inj.mp ?_⟩
    have a1 := c2 j hj
    have a2 := isLt_int (hL j hj)
    have a3 := dW_b si hsi j (by omega)
    unfold dB dW at a1
    omega
/-- the reference's number of a word -/
def wc (si : Nat) : Int32 := if si < 9 then nI (10 + si) else nI (si - 5)
theorem wcode_iff (w : Int64) : ∀ si : Nat, si < 11 → (w = Int64.ofNat (WV.getD si 0) ↔ wcode w = wc si) := by
  rcases wcode_cases w with ⟨hw, hc⟩ | ⟨hw, hc⟩ | ⟨hw, hc⟩ | ⟨hw, hc⟩ | ⟨hw, hc⟩ | ⟨hw, hc⟩ | ⟨hw, hc⟩ | ⟨hw, hc⟩ | ⟨hw, hc⟩ | ⟨hw, hc⟩ | ⟨hw, hc⟩ | ⟨n0, n1, n2, n3, n4, n5, n6, n7, n8, n9, n10, hc⟩
  · rw [hc, hw]
    have : ∀ si : Nat, si < 11 → ((555 : Int64) = Int64.ofNat (WV.getD si 0) ↔ (4 : Int32) = wc si) := by decide +kernel
    exact this
  · rw [hc, hw]
    have : ∀ si : Nat, si < 11 → ((262 : Int64) = Int64.ofNat (WV.getD si 0) ↔ (5 : Int32) = wc si) := by decide +kernel
    exact this
  · rw [hc, hw]
    have : ∀ si : Nat, si < 11 → ((119318 : Int64) = Int64.ofNat (WV.getD si 0) ↔ (10 : Int32) = wc si) := by decide +kernel
    exact this
  · rw [hc, hw]
    have : ∀ si : Nat, si < 11 → ((168984 : Int64) = Int64.ofNat (WV.getD si 0) ↔ (11 : Int32) = wc si) := by decide +kernel
    exact this
  · rw [hc, hw]
    have : ∀ si : Nat, si < 11 → ((459818 : Int64) = Int64.ofNat (WV.getD si 0) ↔ (12 : Int32) = wc si) := by decide +kernel
    exact this
  · rw [hc, hw]
    have : ∀ si : Nat, si < 11 → ((488582165 : Int64) = Int64.ofNat (WV.getD si 0) ↔ (13 : Int32) = wc si) := by decide +kernel
    exact this
  · rw [hc, hw]
    have : ∀ si : Nat, si < 11 → ((284068024 : Int64) = Int64.ofNat (WV.getD si 0) ↔ (14 : Int32) = wc si) := by decide +kernel
    exact this
  · rw [hc, hw]
    have : ∀ si : Nat, si < 11 → ((6476969 : Int64) = Int64.ofNat (WV.getD si 0) ↔ (15 : Int32) = wc si) := by decide +kernel
    exact this
  · rw [hc, hw]
    have : ∀ si : Nat, si < 11 → ((38444009 : Int64) = Int64.ofNat (WV.getD si 0) ↔ (16 : Int32) = wc si) := by decide +kernel
    exact this
  · rw [hc, hw]
    have : ∀ si : Nat, si < 11 → ((161140 : Int64) = Int64.ofNat (WV.getD si 0) ↔ (17 : Int32) = wc si) := by decide +kernel
    exact this
  · rw [hc, hw]
    have : ∀ si : Nat, si < 11 → ((296479 : Int64) = Int64.ofNat (WV.getD si 0) ↔ (18 : Int32) = wc si) := by decide +kernel
    exact this
  · intro si hsi
    rw [hc]
    have h3 : ∀ si : Nat, si < 11 → ¬ (3 : Int32) = wc si := by decide +kernel
    refine ⟨fun h => ?_, fun h => absurd h (h3 si hsi)⟩
    have h : si = 0 ∧ w = 119318 ∨ si = 1 ∧ w = 168984 ∨ si = 2 ∧ w = 459818 ∨ si = 3 ∧ w = 488582165 ∨ si = 4 ∧ w = 284068024 ∨ si = 5 ∧ w = 6476969 ∨ si = 6 ∧ w = 38444009 ∨ si = 7 ∧ w = 161140 ∨ si = 8 ∧ w = 296479 ∨ si = 9 ∧ w = 555 ∨ si = 10 ∧ w = 262 := by
      have k : ∀ si : Nat, si < 11 → (si = 0 ∧ Int64.ofNat (WV.getD si 0) = 119318 ∨ si = 1 ∧ Int64.ofNat (WV.getD si 0) = 168984 ∨ si = 2 ∧ Int64.ofNat (WV.getD si 0) = 459818 ∨ si = 3 ∧ Int64.ofNat (WV.getD si 0) = 488582165 ∨ si = 4 ∧ Int64.ofNat (WV.getD si 0) = 284068024 ∨ si = 5 ∧ Int64.ofNat (WV.getD si 0) = 6476969 ∨ si = 6 ∧ Int64.ofNat (WV.getD si 0) = 38444009 ∨ si = 7 ∧ Int64.ofNat (WV.getD si 0) = 161140 ∨ si = 8 ∧ Int64.ofNat (WV.getD si 0) = 296479 ∨ si = 9 ∧ Int64.ofNat (WV.getD si 0) = 555 ∨ si = 10 ∧ Int64.ofNat (WV.getD si 0) = 262) := by decide +kernel
      rw [h]
      exact k si hsi
    rcases h with ⟨-, h⟩ | ⟨-, h⟩ | ⟨-, h⟩ | ⟨-, h⟩ | ⟨-, h⟩ | ⟨-, h⟩ | ⟨-, h⟩ | ⟨-, h⟩ | ⟨-, h⟩ | ⟨-, h⟩ | ⟨-, h⟩
    · exact absurd h n2
    · exact absurd h n3
    · exact absurd h n4
    · exact absurd h n5
    · exact absurd h n6
    · exact absurd h n7
    · exact absurd h n8
    · exact absurd h n9
    · exact absurd h n10
    · exact absurd h n0
    · exact absurd h n1
theorem wc_big : ∀ si : Nat, si < 11 → wc si ≠ 0 ∧ wc si ≠ 1 ∧ wc si ≠ 2 ∧ wc si ≠ 3 := by decide +kernel
section LINE
variable {L : List Nat} {f : TF} {B : Nat → Int32} {N : Nat}
theorem code_x {s e si : Nat} (hs : s < N) (hl : isLt B s) (hsp : Span (isLt B) N s e) (hsi : si < 11) : Mat B s e si ↔ tkC B N s e = wc si := by
  unfold tkC
  rw [if_neg (by omega), if_pos (isLt_b.mp hl)]
  by_cases h7 : e - s ≤ 7
  · rw [if_pos h7, mat_w hsi (fun j h1 h2 => hsp.2.2.1 j h1 h2) h7]
    exact wcode_iff _ si hsi
  · rw [if_neg h7]
    exact ⟨fun m => absurd (m.1 ▸ sLn_in si hsi) h7, fun m => absurd m.symm (wc_big si hsi).2.2.2⟩
theorem code_n {s e si : Nat} (hs : ¬ (s < N ∧ isLt B s)) (hN : s ≤ N) (hsi : si < 11) : tkC B N s e ≠ wc si := by
  obtain ⟨w0, w1, w2, w3⟩ := wc_big si hsi
  unfold tkC
  by_cases e0 : s = N
  · rw [if_pos e0]; exact w0.symm
  · rw [if_neg e0, if_neg (fun k => hs ⟨by omega, isLt_b.mpr k⟩)]
    by_cases hd : bDg (B s) = true
    · rw [if_pos hd]
      by_cases h5 : e - s ≤ 5
      · rw [if_pos h5]; exact w1.symm
      · rw [if_neg h5]; exact w3.symm
    · rw [if_neg hd]
      by_cases h59 : B s = 59
      · rw [if_pos h59]; exact w2.symm
      · rw [if_neg h59]; exact w3.symm
def tE (B : Nat → Int32) (N b : Nat) : Nat := tkE B N (tkS B N b)
def tC (B : Nat → Int32) (N b : Nat) : Int32 := tkC B N (tkS B N b) (tE B N b)
def tV (B : Nat → Int32) (N b : Nat) : Int32 := dnum B (tkS B N b) (tE B N b - tkS B N b)
theorem tok_at {b : Nat} (hb : b ≤ N) : Tok B N b (tkS B N b) (tE B N b) := tok_is hb
theorem tE_le {b : Nat} (hb : b ≤ N) : b ≤ tkS B N b ∧ tkS B N b ≤ tE B N b ∧ tE B N b ≤ N ∧ (tkS B N b < N → tkS B N b < tE B N b) := by
  obtain ⟨h1, h2⟩ := tok_at (B := B) hb
  have hs := h1.2.1
  refine ⟨h1.1, ?_⟩
  generalize tkS B N b = s at h2 hs
  generalize tE B N b = e at h2
  rcases h2 with ⟨a1, a2⟩ | ⟨a1, a2, a3, a4⟩
  · exact ⟨by omega, by omega, fun h => absurd h (by omega)⟩
  · have k : ∀ {P : Nat → Prop}, P s → Span P N s e → s ≤ e ∧ e ≤ N ∧ (s < N → s < e) := by
      intro P hp hS
      refine ⟨hS.1, hS.2.1, fun _ => ?_⟩
      rcases Nat.lt_or_ge s e with h | h
      · exact h
      · have he : e = s := Nat.le_antisymm h hS.1
        exact absurd (he ▸ hp) (hS.2.2.2 (by omega))
    by_cases hl : isLt B s
    · exact k hl (a2 hl)
    · by_cases hd : isDg B s
      · exact k hd (a3 hl hd)
      · have := a4 hl hd
        exact ⟨by omega, by omega, fun _ => by omega⟩
/-- the program has read the thing that stands from b on -/
def AtX (f : TF) (qT qB : Nat) (B : Nat → Int32) (N b : Nat) : Prop := TapeX f qT qB B N ∧ ti f qT 3 = nI (tkS B N b) ∧ ti f qT 4 = nI (tE B N b) ∧ SX f qT B N (tkS B N b) (tE B N b) ∧ b ≤ N
theorem next_x {qT qB b : Nat} {Q : List Nat → TF → Prop} (hne : qB ≠ qT) (hN : N ≤ 400) (h : AtX f qT qB B N b) (hq : ∀ f' : TF, AtX f' qT qB B N (tE B N b) → Fr [2, 3, 4, 5] qT f f' → Ok L f' → Q L f') : wp_Tp_step_w L f qT Q := by
  have hb := (tE_le (B := B) h.2.2.2.2).2.2.1
  refine step_x hne hN h.1 h.2.2.1 hb (fun f' s e ht k3 k4 hx hfr hO => ?_)
  obtain ⟨e1, e2⟩ := ht.uni (tok_at hb)
  subst e1 e2
  exact hq f' ⟨h.1.fr hne hfr, k3, k4, hx, hb⟩ hfr hO
theorem first_x {qT qB : Nat} {Q : List Nat → TF → Prop} (hne : qB ≠ qT) (hN : N ≤ 400) (hT : TapeX f qT qB B N) (h4 : ti f qT 4 = 0) (hq : ∀ f' : TF, AtX f' qT qB B N 0 → Fr [2, 3, 4, 5] qT f f' → Ok L f' → Q L f') : wp_Tp_step_w L f qT Q := by
  refine step_x hne hN hT (h4.trans nI_0.symm) (Nat.zero_le _) (fun f' s e ht k3 k4 hx hfr hO => ?_)
  obtain ⟨e1, e2⟩ := ht.uni (tok_at (Nat.zero_le _))
  subst e1 e2
  exact hq f' ⟨hT.fr hne hfr, k3, k4, hx, Nat.zero_le _⟩ hfr hO
theorem AtX.code {qT qB b : Nat} (h : AtX f qT qB B N b) : (ti f qT 2 = 0 ↔ tC B N b = 0) ∧ (ti f qT 2 = 2 ↔ tC B N b = 1) ∧ (ti f qT 2 = 3 ↔ tC B N b = 2) ∧ (ti f qT 2 = 1 ↔ (tkS B N b < N ∧ isLt B (tkS B N b))) ∧ (tC B N b = 1 → ti f qT 5 = tV B N b) := by
  have hs := tE_le (B := B) h.2.2.2.2
  exact h.2.2.2.1.code (by omega)
theorem AtX.span {qT qB b : Nat} (h : AtX f qT qB B N b) (hs : tkS B N b < N) (hl : isLt B (tkS B N b)) : Span (isLt B) N (tkS B N b) (tE B N b) := by
  rcases (tok_at (B := B) h.2.2.2.2).2 with a | a
  · exact absurd hs (by omega)
  · exact a.2.1 hl
theorem num_x {qT qB b : Nat} {Q : Int32 → List Nat → TF → Prop} (hne : qB ≠ qT) (hN : N ≤ 400) (h : AtX f qT qB B N b) (h1 : tC B N b = 1 → ∀ f' : TF, AtX f' qT qB B N (tE B N b) → Fr [2, 3, 4, 5] qT f f' → Ok L f' → Q 1 L f') (h0 : ¬ tC B N b = 1 → Q 0 L f) : wp_Tp_stepOverNumber_w L f qT Q := by
  intro x1 e1
  have hc := h.code.2.1
  rw [e1] at hc
  exact ⟨fun g => next_x hne hN h (fun f' a fr hO _ _ => h1 (hc.mp g) f' a fr hO), fun g => h0 (fun k => g (hc.mpr k))⟩
theorem wd_x {qT qB b si : Nat} {Q : Int32 → List Nat → TF → Prop} (hne : qB ≠ qT) (hN : N ≤ 400) (hsi : si < 11) (h : AtX f qT qB B N b) (h1 : tC B N b = wc si → ∀ f' : TF, AtX f' qT qB B N (tE B N b) → Fr [2, 3, 4, 5] qT f f' → Ok L f' → Q 1 L f') (h0 : ¬ tC B N b = wc si → Q 0 L f) : wp_Tp_stepOverWord_w L f qT si Q := by
  intro x1 e1
  have hc := h.code.2.2.2.1
  rw [e1] at hc
  obtain ⟨b1, b2, b3, b4⟩ := tE_le (B := B) h.2.2.2.2
  refine ⟨fun g => ?_, fun g => h0 (code_n (fun k => g (hc.mpr k)) (by omega) hsi)⟩
  obtain ⟨l1, l2⟩ := hc.mp g
  have hm := code_x l1 l2 (h.span l1 l2) hsi
  exact isWord_x hN h.1 h.2.1 h.2.2.1 b2 b3 hsi (fun m => ⟨fun k => absurd k (by decide), fun _ => next_x hne hN h (fun f' a fr hO _ _ => h1 (hm.mp m) f' a fr hO)⟩) (fun m => ⟨fun _ => h0 (fun k => m (hm.mpr k)), fun k => absurd k (by decide)⟩)
/-- a line's kind by the reference's number of its first word -/
def kdOf (c : Int32) : Int32 := if c < 10 then -1 else c - 10
theorem kdOf_wc : ∀ i : Nat, i < 9 → kdOf (wc i) = nI i := by decide +kernel
theorem wcode_low (w : Int64) (h : ∀ i : Nat, i < 9 → ¬ wcode w = wc i) : kdOf (wcode w) = -1 := by
  rcases wcode_cases w with ⟨-, hc⟩ | ⟨-, hc⟩ | ⟨-, hc⟩ | ⟨-, hc⟩ | ⟨-, hc⟩ | ⟨-, hc⟩ | ⟨-, hc⟩ | ⟨-, hc⟩ | ⟨-, hc⟩ | ⟨-, hc⟩ | ⟨-, hc⟩ | ⟨-, -, -, -, -, -, -, -, -, -, -, hc⟩
  · rw [hc]; decide +kernel
  · rw [hc]; decide +kernel
  · exact absurd (hc.trans (by decide +kernel)) (h 0 (by decide))
  · exact absurd (hc.trans (by decide +kernel)) (h 1 (by decide))
  · exact absurd (hc.trans (by decide +kernel)) (h 2 (by decide))
  · exact absurd (hc.trans (by decide +kernel)) (h 3 (by decide))
  · exact absurd (hc.trans (by decide +kernel)) (h 4 (by decide))
  · exact absurd (hc.trans (by decide +kernel)) (h 5 (by decide))
  · exact absurd (hc.trans (by decide +kernel)) (h 6 (by decide))
  · exact absurd (hc.trans (by decide +kernel)) (h 7 (by decide))
  · exact absurd (hc.trans (by decide +kernel)) (h 8 (by decide))
  · rw [hc]; decide +kernel
theorem kind_x {qT qB b : Nat} {Q : Int32 → Prop} (hN : N ≤ 400) (h : AtX f qT qB B N b) (l1 : tkS B N b < N) (l2 : isLt B (tkS B N b)) (hq : Q (kdOf (tC B N b))) : wp_Tp_kindOfLine_w L f qT Q := by
  obtain ⟨b1, b2, b3, b4⟩ := tE_le (B := B) h.2.2.2.2
  have W : ∀ (si : Nat) (Q' : Int32 → Prop), si < 11 → (tC B N b = wc si → Q' 1) → (¬ tC B N b = wc si → Q' 0) → wp_Tp_isWord_w L f qT si Q' := fun si Q' hsi h1 h0 => isWord_x hN h.1 h.2.1 h.2.2.1 b2 b3 hsi (fun m => h1 ((code_x l1 l2 (h.span l1 l2) hsi).mp m)) (fun m => h0 (fun k => m ((code_x l1 l2 (h.span l1 l2) hsi).mpr k)))
  have F : ∀ i : Nat, i < 9 → tC B N b = wc i → Q (nI i) := fun i hi c => by rw [c, kdOf_wc i hi] at hq; exact hq
  refine W 0 _ (by decide) (fun c => ⟨fun k => absurd k (by decide), fun _ => F 0 (by decide) c⟩) (fun c0 => ⟨fun _ => ?_, fun k => absurd k (by decide)⟩)
  refine W 1 _ (by decide) (fun c => ⟨fun k => absurd k (by decide), fun _ => F 1 (by decide) c⟩) (fun c1 => ⟨fun _ => ?_, fun k => absurd k (by decide)⟩)
  refine W 2 _ (by decide) (fun c => ⟨fun k => absurd k (by decide), fun _ => F 2 (by decide) c⟩) (fun c2 => ⟨fun _ => ?_, fun k => absurd k (by decide)⟩)
  refine W 3 _ (by decide) (fun c => ⟨fun k => absurd k (by decide), fun _ => F 3 (by decide) c⟩) (fun c3 => ⟨fun _ => ?_, fun k => absurd k (by decide)⟩)
  refine W 4 _ (by decide) (fun c => ⟨fun k => absurd k (by decide), fun _ => F 4 (by decide) c⟩) (fun c4 => ⟨fun _ => ?_, fun k => absurd k (by decide)⟩)
  refine W 5 _ (by decide) (fun c => ⟨fun k => absurd k (by decide), fun _ => F 5 (by decide) c⟩) (fun c5 => ⟨fun _ => ?_, fun k => absurd k (by decide)⟩)
  refine W 6 _ (by decide) (fun c => ⟨fun k => absurd k (by decide), fun _ => F 6 (by decide) c⟩) (fun c6 => ⟨fun _ => ?_, fun k => absurd k (by decide)⟩)
  refine W 7 _ (by decide) (fun c => ⟨fun k => absurd k (by decide), fun _ => F 7 (by decide) c⟩) (fun c7 => ⟨fun _ => ?_, fun k => absurd k (by decide)⟩)
  refine W 8 _ (by decide) (fun c => ⟨fun k => absurd k (by decide), fun _ => F 8 (by decide) c⟩) (fun c8 => ⟨fun _ => ?_, fun k => absurd k (by decide)⟩)
  have hlow : kdOf (tC B N b) = -1 := by
    have hall : ∀ i : Nat, i < 9 → ¬ tC B N b = wc i := by
      intro i hi
      have : i = 0 ∨ i = 1 ∨ i = 2 ∨ i = 3 ∨ i = 4 ∨ i = 5 ∨ i = 6 ∨ i = 7 ∨ i = 8 := by omega
      rcases this with rfl | rfl | rfl | rfl | rfl | rfl | rfl | rfl | rfl <;> assumption
    unfold tC tkC at hall ⊢
    rw [if_neg (by omega), if_pos (isLt_b.mp l2)] at hall ⊢
    by_cases h7 : tE B N b - tkS B N b ≤ 7
    · rw [if_pos h7] at hall ⊢
      exact wcode_low _ hall
    · rw [if_neg h7]; decide +kernel
  rw [hlow] at hq
  exact hq
end LINE
