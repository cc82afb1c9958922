/-- a stretch of places of one sort, as long as can be -/
def Span (P : Nat → Prop) (N s e : Nat) : Prop := s ≤ e ∧ e ≤ N ∧ (∀ j, s ≤ j → j < e → P j) ∧ (e < N → ¬ P e)
theorem Span.uni {P : Nat → Prop} {N s e e' : Nat} (h : Span P N s e) (h' : Span P N s e') : e = e' := by
  obtain ⟨a1, a2, a3, a4⟩ := h
  obtain ⟨b1, b2, b3, b4⟩ := h'
  rcases Nat.lt_trichotomy e e' with h | h | h
  · exact absurd (b3 e a1 h) (a4 (by omega))
  · exact h
  · exact absurd (a3 e' b1 h) (b4 (by omega))
def isSp (B : Nat → Int32) (j : Nat) : Prop := B j = 32
def isLt (B : Nat → Int32) (j : Nat) : Prop := ¬ B j < 97 ∧ ¬ 122 < B j
def isDg (B : Nat → Int32) (j : Nat) : Prop := ¬ B j < 48 ∧ ¬ 57 < B j
/-- what is read from place b on: it begins at s and ends ahead of e -/
def Tok (B : Nat → Int32) (N b s e : Nat) : Prop := Span (isSp B) N b s ∧ ((s = N ∧ e = s) ∨ (s < N ∧ (isLt B s → Span (isLt B) N s e) ∧ (¬ isLt B s → isDg B s → Span (isDg B) N s e) ∧ (¬ isLt B s → ¬ isDg B s → e = s + 1)))
theorem Tok.uni {B : Nat → Int32} {N b s e s' e' : Nat} (h : Tok B N b s e) (h' : Tok B N b s' e') : s = s' ∧ e = e' := by
  have hs := h.1.uni h'.1
  subst hs
  refine ⟨rfl, ?_⟩
  rcases h.2 with ⟨a1, a2⟩ | ⟨a1, a2, a3, a4⟩
  · rcases h'.2 with ⟨b1, b2⟩ | ⟨b1, b2, b3, b4⟩
    · rw [a2, b2]
    · omega
  · rcases h'.2 with ⟨b1, b2⟩ | ⟨b1, b2, b3, b4⟩
    · omega
    · by_cases hl : isLt B s
      · exact (a2 hl).uni (b2 hl)
      · by_cases hd : isDg B s
        · exact (a3 hl hd).uni (b3 hl hd)
        · rw [a4 hl hd, b4 hl hd]
/-- a number's value by its digits -/
def dnum (B : Nat → Int32) (s : Nat) : Nat → Int32
  | 0 => 0
  | k + 1 => dnum B s k * 10 + (B (s + k) - 48)
/-- a word's number by its letters -/
def wnum (B : Nat → Int32) (s : Nat) : Nat → Int64
  | 0 => 0
  | k + 1 => wnum B s k * 27 + (B (s + k)).toInt64 - 96
/-- only these slots of q were written -/
def Fr (S : List Nat) (q : Nat) (f f' : TF) : Prop := (∀ c z, (c ≠ q ∨ z ∉ S) → ti f' c z = ti f c z) ∧ ∀ c z, tr f' c z = tr f c z
theorem Fr.rf {S : List Nat} {q : Nat} {f : TF} : Fr S q f f := ⟨fun _ _ _ => rfl, fun _ _ => rfl⟩
theorem Fr.trans {S : List Nat} {q : Nat} {f f' f'' : TF} (h : Fr S q f f') (h' : Fr S q f' f'') : Fr S q f f'' := ⟨fun c z hc => (h'.1 c z hc).trans (h.1 c z hc), fun c z => (h'.2 c z).trans (h.2 c z)⟩
theorem Fr.mono {S S' : List Nat} {q : Nat} {f f' : TF} (h : Fr S q f f') (hs : ∀ z ∈ S, z ∈ S') : Fr S' q f f' := ⟨fun c z hc => h.1 c z (hc.imp id (fun hz hm => hz (hs z hm))), h.2⟩
theorem Fr.set {S : List Nat} {q k : Nat} {f : TF} {v : Int32} (hk : k ∈ S) : Fr S q f (sI f q k v) := ⟨fun c z hc => by
  rw [ti_sI, if_neg]
  rintro ⟨rfl, rfl⟩
  rcases hc with h | h
  · exact h rfl
  · exact h hk, fun c z => tr_sI⟩
theorem nI_le400 {a b : Nat} (ha : a ≤ 400) (hb : b ≤ 400) : nI a ≤ nI b ↔ a ≤ b := nI_leI (by omega) (by omega)
section TOK
variable {L : List Nat} {f : TF} {q0 q1 : Nat} {B : Nat → Int32} {N : Nat}
/-- the program's tape as it stands: bytes B, N of them -/
def TapeX (f : TF) (qT qB : Nat) (B : Nat → Int32) (N : Nat) : Prop := tr f qT 0 = some qB ∧ ti f qT 1 = nI N ∧ ∀ j, ti f qB j = B j
theorem TapeX.fr {f' : TF} {qT qB : Nat} (h : TapeX f qT qB B N) (hne : qB ≠ qT) (hf : Fr [2, 3, 4, 5] qT f f') : TapeX f' qT qB B N := ⟨(hf.2 _ _).trans h.1, (hf.1 _ _ (Or.inr (by decide))).trans h.2.1, fun j => (hf.1 _ _ (Or.inl hne)).trans (h.2.2 j)⟩
theorem pl_x {qT qB k0 : Nat} {Q : List Nat → TF → Prop} (hne : qB ≠ qT) (hN : N ≤ 400) (hT : TapeX f qT qB B N) (h4 : ti f qT 4 = nI k0) (hk0 : k0 ≤ N) (hq : ∀ (f' : TF) (e : Nat), Span (isLt B) N k0 e → ti f' qT 4 = nI e → Fr [4] qT f f' → Ok L f' → Q L f') : wp_Tp_passLetters_w L f qT Q := by
  have hstep : ∀ (rec_1 : List Nat → TF → Prop) (k : Nat) (f1 : TF), Fr [4] qT f f1 → ti f1 qT 4 = nI k → k0 ≤ k → k ≤ N → (∀ j, k0 ≤ j → j < k → isLt B j) → (∀ f2 : TF, Fr [4] qT f f2 → ti f2 qT 4 = nI (k + 1) → k0 ≤ k + 1 → k + 1 ≤ N → (∀ j, k0 ≤ j → j < k + 1 → isLt B j) → rec_1 L f2) → wpB_Tp_passLetters_w_0_1 L f qT Q rec_1 L f1 := by
    intro rec_1 k f1 hfr hk h0 h1 hall hrec hO1 hE1 x3 e3
    have hT1 := hT.fr hne (hfr.mono (by decide))
    rw [hT1.2.1] at e3
    subst e3
    rw [hk]
    refine ⟨fun g => ?_, fun g q5 e5 x6 e6 => ?_⟩
    · rw [nI_le400 hN (by omega)] at g
      exact hq f1 k ⟨h0, h1, hall, fun h => absurd h (by omega)⟩ hk hfr hO1
    · rw [nI_le400 hN (by omega)] at g
      rw [hT1.1] at e5; cases e5
      rw [nI_clamp (by omega), hT1.2.2] at e6
      subst e6
      refine ⟨fun c => hq f1 k ⟨h0, h1, hall, fun _ hl => hl.1 c⟩ hk hfr hO1, fun c => ⟨fun c2 => hq f1 k ⟨h0, h1, hall, fun _ hl => hl.2 c2⟩ hk hfr hO1, fun c2 f2 hf2 hO2 => ?_⟩⟩
      subst hf2
      refine hrec _ (hfr.trans (Fr.set (by decide))) (by rw [ti_sI_eq, nI_1]) (by omega) (by omega) (fun j hj hj2 => ?_)
      by_cases e : j = k
      · subst e; exact ⟨c, c2⟩
      · exact hall j hj (by omega)
  have hloop : ∀ (n k : Nat) (f1 : TF), Fr [4] qT f f1 → ti f1 qT 4 = nI k → k0 ≤ k → k ≤ N → (∀ j, k0 ≤ j → j < k → isLt B j) → wpL_Tp_passLetters_w_0_1 L f qT Q n L f1 := by
    intro n
    induction n with
    | zero =>
      intro k f1 a1 a2 a3 a4 a5
      exact hstep (fun _ _ => True) k f1 a1 a2 a3 a4 a5 (fun _ _ _ _ _ _ => trivial)
    | succ n ih =>
      intro k f1 a1 a2 a3 a4 a5
      exact hstep _ k f1 a1 a2 a3 a4 a5 (fun f2 b1 b2 b3 b4 b5 => ih (k + 1) f2 b1 b2 b3 b4 b5)
  exact hloop _ k0 f Fr.rf h4 (by omega) hk0 (fun j h1 h2 => absurd h2 (by omega))
theorem pd_x {qT qB k0 : Nat} {Q : List Nat → TF → Prop} (hne : qB ≠ qT) (hN : N ≤ 400) (hT : TapeX f qT qB B N) (h4 : ti f qT 4 = nI k0) (h5 : ti f qT 5 = 0) (hk0 : k0 ≤ N) (hq : ∀ (f' : TF) (e : Nat), Span (isDg B) N k0 e → ti f' qT 4 = nI e → ti f' qT 5 = dnum B k0 (e - k0) → Fr [4, 5] qT f f' → Ok L f' → Q L f') : wp_Tp_passDigits_w L f qT Q := by
  have hstep : ∀ (rec_1 : List Nat → TF → Prop) (k : Nat) (f1 : TF), Fr [4, 5] qT f f1 → ti f1 qT 4 = nI k → ti f1 qT 5 = dnum B k0 (k - k0) → k0 ≤ k → k ≤ N → (∀ j, k0 ≤ j → j < k → isDg B j) → (∀ f2 : TF, Fr [4, 5] qT f f2 → ti f2 qT 4 = nI (k + 1) → ti f2 qT 5 = dnum B k0 (k + 1 - k0) → k0 ≤ k + 1 → k + 1 ≤ N → (∀ j, k0 ≤ j → j < k + 1 → isDg B j) → rec_1 L f2) → wpB_Tp_passDigits_w_0_1 L f qT Q rec_1 L f1 := by
    intro rec_1 k f1 hfr hk hv h0 h1 hall hrec hO1 hE1 x3 e3
    have hT1 := hT.fr hne (hfr.mono (by decide))
    rw [hT1.2.1] at e3
    subst e3
    rw [hk]
    refine ⟨fun g => ?_, fun g q5 e5 x6 e6 => ?_⟩
    · rw [nI_le400 hN (by omega)] at g
      exact hq f1 k ⟨h0, h1, hall, fun h => absurd h (by omega)⟩ hk hv hfr hO1
    · rw [nI_le400 hN (by omega)] at g
      rw [hT1.1] at e5; cases e5
      rw [nI_clamp (by omega), hT1.2.2] at e6
      subst e6
      refine ⟨fun c => hq f1 k ⟨h0, h1, hall, fun _ hl => hl.1 c⟩ hk hv hfr hO1, fun c => ⟨fun c2 => hq f1 k ⟨h0, h1, hall, fun _ hl => hl.2 c2⟩ hk hv hfr hO1, fun c2 x10 e10 f2 hf2 hO2 f3 hf3 hO3 => ?_⟩⟩
      rw [hv] at e10
      subst e10
      subst hf2
      subst hf3
      refine hrec _ ((hfr.trans (Fr.set (by decide))).trans (Fr.set (by decide))) (by rw [ti_sI_eq, nI_1]) ?_ (by omega) (by omega) (fun j hj hj2 => ?_)
      · rw [ti_sI_nj (by decide), ti_sI_eq, show k + 1 - k0 = (k - k0) + 1 by omega]
        show _ = dnum B k0 (k - k0) * 10 + (B (k0 + (k - k0)) - 48)
        rw [show k0 + (k - k0) = k by omega]
      · by_cases e : j = k
        · subst e; exact ⟨c, c2⟩
        · exact hall j hj (by omega)
  have hloop : ∀ (n k : Nat) (f1 : TF), Fr [4, 5] qT f f1 → ti f1 qT 4 = nI k → ti f1 qT 5 = dnum B k0 (k - k0) → k0 ≤ k → k ≤ N → (∀ j, k0 ≤ j → j < k → isDg B j) → wpL_Tp_passDigits_w_0_1 L f qT Q n L f1 := by
    intro n
    induction n with
    | zero =>
      intro k f1 a1 a2 a0 a3 a4 a5
      exact hstep (fun _ _ => True) k f1 a1 a2 a0 a3 a4 a5 (fun _ _ _ _ _ _ _ => trivial)
    | succ n ih =>
      intro k f1 a1 a2 a0 a3 a4 a5
      exact hstep _ k f1 a1 a2 a0 a3 a4 a5 (fun f2 b1 b2 b0 b3 b4 b5 => ih (k + 1) f2 b1 b2 b0 b3 b4 b5)
  exact hloop _ k0 f Fr.rf h4 (by rw [h5, Nat.sub_self]; rfl) (by omega) hk0 (fun j h1 h2 => absurd h2 (by omega))
/-- what the program holds of what is read -/
def SX (f' : TF) (qT : Nat) (B : Nat → Int32) (N s e : Nat) : Prop := (s = N → ti f' qT 2 = 0) ∧ (s < N → isLt B s → ti f' qT 2 = 1) ∧ (s < N → ¬ isLt B s → isDg B s → (e - s ≤ 5 → ti f' qT 2 = 2 ∧ ti f' qT 5 = dnum B s (e - s)) ∧ (¬ e - s ≤ 5 → ti f' qT 2 = 4)) ∧ (s < N → ¬ isLt B s → ¬ isDg B s → (B s = 59 → ti f' qT 2 = 3) ∧ (¬ B s = 59 → ti f' qT 2 = 4))
theorem step_x {qT qB b : Nat} {Q : List Nat → TF → Prop} (hne : qB ≠ qT) (hN : N ≤ 400) (hT : TapeX f qT qB B N) (h4 : ti f qT 4 = nI b) (hb : b ≤ N) (hq : ∀ (f' : TF) (s e : Nat), Tok B N b s e → ti f' qT 3 = nI s → ti f' qT 4 = nI e → SX f' qT B N s e → Fr [2, 3, 4, 5] qT f f' → Ok L f' → Q L f') : wp_Tp_step_w L f qT Q := by
  intro x1 e1 f1 hf1 hO1
  rw [h4] at e1
  subst e1
  have hstep : ∀ (rec_3 : List Nat → TF → Prop) (k : Nat) (f2 : TF), Fr [2, 3, 4, 5] qT f f2 → ti f2 qT 3 = nI k → b ≤ k → k ≤ N → (∀ j, b ≤ j → j < k → isSp B j) → (∀ f3 : TF, Fr [2, 3, 4, 5] qT f f3 → ti f3 qT 3 = nI (k + 1) → b ≤ k + 1 → k + 1 ≤ N → (∀ j, b ≤ j → j < k + 1 → isSp B j) → rec_3 L f3) → wpB_Tp_step_w_8_3 L f qT (nI b) f1 Q rec_3 L f2 := by
    intro rec_3 k f2 hfr hk h0 h1 hall hrec hO2 hE2 x5 e5
    have hT2 := hT.fr hne hfr
    rw [hT2.2.1] at e5
    subst e5
    rw [hk]
    refine ⟨fun g f3 hf3 _ f4 hf4 _ f5 hf5 hO5 => ?_, fun g q10 e10 x11 e11 => ?_⟩
    · rw [nI_le400 hN (by omega)] at g
      have hkN : k = N := by omega
      subst hf3 hf4 hf5
      refine hq _ k k ⟨⟨h0, h1, hall, fun h => absurd h (by omega)⟩, Or.inl ⟨hkN, rfl⟩⟩ ?_ ?_ ⟨fun _ => ti_sI_eq, fun h => absurd h (by omega), fun h => absurd h (by omega), fun h => absurd h (by omega)⟩ (((hfr.trans (Fr.set (by decide))).trans (Fr.set (by decide))).trans (Fr.set (by decide))) hO5
      · rw [ti_sI_nj (by decide), ti_sI_nj (by decide), ti_sI_nj (by decide)]; exact hk
      · rw [ti_sI_nj (by decide), ti_sI_nj (by decide), ti_sI_eq]
    · rw [nI_le400 hN (by omega)] at g
      have hlt : k < N := by omega
      rw [hT2.1] at e10; cases e10
      rw [nI_clamp (by omega), hT2.2.2] at e11
      subst e11
      refine ⟨fun c f3 hf3 _ => ?_, fun c f3 hf3 _ f4 hf4 hO4 => ?_⟩
      · subst hf3
        refine hrec _ (hfr.trans (Fr.set (by decide))) (by rw [ti_sI_eq, nI_1]) (by omega) (by omega) (fun j hj hj2 => ?_)
        by_cases e : j = k
        · subst e; exact c
        · exact hall j hj (by omega)
      · have hsp : Span (isSp B) N b k := ⟨h0, h1, hall, fun _ h => c h⟩
        have hfr4 : Fr [2, 3, 4, 5] qT f f4 := by rw [hf4, hf3]; exact (hfr.trans (Fr.set (by decide))).trans (Fr.set (by decide))
        have k3 : ti f4 qT 3 = nI k := by rw [hf4, hf3, ti_sI_nj (by decide), ti_sI_nj (by decide)]; exact hk
        have k4 : ti f4 qT 4 = nI k := by rw [hf4, hf3, ti_sI_nj (by decide), ti_sI_eq]
        have k5 : ti f4 qT 5 = 0 := by rw [hf4, ti_sI_eq]
        have hT4 := hT.fr hne hfr4
        -- one byte that is neither letter nor digit
        have hone : ∀ (v : Int32), ¬ isLt B k → ¬ isDg B k → (B k = 59 → v = 3) → (¬ B k = 59 → v = 4) → ∀ f5 : TF, f5 = sI f4 qT 2 v → Ok L f5 → ∀ f6 : TF, f6 = sI f5 qT 4 (nI k + 1) → Ok L f6 → Q L f6 := by
          intro v hl hd hv1 hv2 f5 hf5 _ f6 hf6 hO6
          subst hf5 hf6
          refine hq _ k (k + 1) ⟨hsp, Or.inr ⟨hlt, fun h => absurd h hl, fun _ h => absurd h hd, fun _ _ => rfl⟩⟩ ?_ ?_ ⟨fun h => absurd h (by omega), fun _ h => absurd h hl, fun _ _ h => absurd h hd, fun _ _ _ => ⟨fun h => ?_, fun h => ?_⟩⟩ ((hfr4.trans (Fr.set (by decide))).trans (Fr.set (by decide))) hO6
          · rw [ti_sI_nj (by decide), ti_sI_nj (by decide)]; exact k3
          · rw [ti_sI_eq, nI_1]
          · rw [ti_sI_nj (by decide), ti_sI_eq]; exact hv1 h
          · rw [ti_sI_nj (by decide), ti_sI_eq]; exact hv2 h
        refine ⟨fun c97 => ⟨fun c48 => hone 4 (fun h => h.1 c97) (fun h => h.1 c48) (fun h => ?_) (fun _ => rfl), fun c48 => ⟨fun c57 => ⟨fun c59 => hone 3 (fun h => h.1 c97) (fun h => h.2 c57) (fun _ => rfl) (fun h => absurd c59 h), fun c59 => hone 4 (fun h => h.1 c97) (fun h => h.2 c57) (fun h => absurd h c59) (fun _ => rfl)⟩, fun c57 => ?_⟩⟩, fun c97 => ⟨fun c122 => hone 4 (fun h => h.2 c122) (fun h => ?_) (fun h => ?_) (fun _ => rfl), fun c122 f5 hf5 hO5 => ?_⟩⟩
        · rw [h] at c48; exact absurd c48 (by decide)
        · -- digits
          refine pd_x hne hN hT4 k4 k5 h1 (fun f5 e hs k4' k5' hfr5 hO5 _ _ x32 e32 => ?_)
          rw [k4'] at e32
          subst e32
          have hse := hs.1
          have heN := hs.2.1
          have hfr5' : Fr [2, 3, 4, 5] qT f f5 := hfr4.trans (hfr5.mono (by decide))
          have k3' : ti f5 qT 3 = nI k := (hfr5.1 _ _ (Or.inr (by decide))).trans k3
          have hcmp : nI e - nI k ≤ 5 ↔ e - k ≤ 5 := by
            rw [pk_sub hse, show (5 : Int32) = nI 5 from rfl, nI_leI (by omega) (by omega)]
          have htok : Tok B N b k e := ⟨hsp, Or.inr ⟨hlt, fun h => absurd c97 h.1, fun _ _ => hs, fun _ h => absurd ⟨c48, c57⟩ h⟩⟩
          refine ⟨fun g5 f6 hf6 hO6 => ?_, fun g5 f6 hf6 hO6 => ?_⟩
          · subst hf6
            refine hq _ k e htok ?_ ?_ ⟨fun h => absurd h (by omega), fun _ h => absurd c97 h.1, fun _ _ _ => ⟨fun _ => ⟨ti_sI_eq, ?_⟩, fun h => absurd (hcmp.mp g5) h⟩, fun _ _ h => absurd ⟨c48, c57⟩ h⟩ (hfr5'.trans (Fr.set (by decide))) hO6
            · rw [ti_sI_nj (by decide)]; exact k3'
            · rw [ti_sI_nj (by decide)]; exact k4'
            · rw [ti_sI_nj (by decide)]; exact k5'
          · subst hf6
            refine hq _ k e htok ?_ ?_ ⟨fun h => absurd h (by omega), fun _ h => absurd c97 h.1, fun _ _ _ => ⟨fun h => absurd (hcmp.mpr h) g5, fun _ => ti_sI_eq⟩, fun _ _ h => absurd ⟨c48, c57⟩ h⟩ (hfr5'.trans (Fr.set (by decide))) hO6
            · rw [ti_sI_nj (by decide)]; exact k3'
            · rw [ti_sI_nj (by decide)]; exact k4'
        · -- above the letters: no digit
          have h2 := h.2
          rw [Int32.lt_iff_toInt_lt] at c122 h2
          have z1 : (122 : Int32).toInt = 122 := by decide
          have z2 : (57 : Int32).toInt = 57 := by decide
          omega
        · rw [h] at c122; exact absurd c122 (by decide)
        · -- letters
          have hfr5 : Fr [2, 3, 4, 5] qT f f5 := by rw [hf5]; exact hfr4.trans (Fr.set (by decide))
          have k45 : ti f5 qT 4 = nI k := by rw [hf5, ti_sI_nj (by decide)]; exact k4
          refine pl_x hne hN (hT.fr hne hfr5) k45 h1 (fun f6 e hs k46 hfr6 hO6 _ _ => ?_)
          have htok : Tok B N b k e := ⟨hsp, Or.inr ⟨hlt, fun _ => hs, fun h => absurd ⟨c97, c122⟩ h, fun h => absurd ⟨c97, c122⟩ h⟩⟩
          refine hq f6 k e htok ?_ k46 ⟨fun h => absurd h (by omega), fun _ _ => ?_, fun _ h => absurd ⟨c97, c122⟩ h, fun _ h => absurd ⟨c97, c122⟩ h⟩ (hfr5.trans (hfr6.mono (by decide))) hO6
          · rw [hfr6.1 _ _ (Or.inr (by decide)), hf5, ti_sI_nj (by decide)]; exact k3
          · rw [hfr6.1 _ _ (Or.inr (by decide)), hf5, ti_sI_eq]
  have hloop : ∀ (n k : Nat) (f2 : TF), Fr [2, 3, 4, 5] qT f f2 → ti f2 qT 3 = nI k → b ≤ k → k ≤ N → (∀ j, b ≤ j → j < k → isSp B j) → wpL_Tp_step_w_8_3 L f qT (nI b) f1 Q n L f2 := by
    intro n
    induction n with
    | zero =>
      intro k f2 a1 a2 a3 a4 a5
      exact hstep (fun _ _ => True) k f2 a1 a2 a3 a4 a5 (fun _ _ _ _ _ _ => trivial)
    | succ n ih =>
      intro k f2 a1 a2 a3 a4 a5
      exact hstep _ k f2 a1 a2 a3 a4 a5 (fun f3 b1 b2 b3 b4 b5 => ih (k + 1) f3 b1 b2 b3 b4 b5)
  refine hloop _ b f1 (by rw [hf1]; exact Fr.set (by decide)) (by rw [hf1, ti_sI_eq]) (by omega) hb (fun j h1 h2 => absurd h2 (by omega))
/-- the reference's number of a word -/
def wcode (w : Int64) : Int32 := if w = 555 then 4 else if w = 262 then 5 else if w = 119318 then 10 else if w = 168984 then 11 else if w = 459818 then 12 else if w = 488582165 then 13 else if w = 284068024 then 14 else if w = 6476969 then 15 else if w = 38444009 then 16 else if w = 161140 then 17 else if w = 296479 then 18 else 3
theorem lg_cmp_0 {x y : Int64} : lg_cmp x y = 0 ↔ x = y := by
  unfold lg_cmp
  by_cases h : x > y
  · rw [if_pos h]
    refine ⟨fun e => absurd e (by decide), fun e => ?_⟩
    subst e
    rw [gt_iff_lt, Int64.lt_iff_toInt_lt] at h
    omega
  · rw [if_neg h]
    by_cases e : x = y
    · rw [if_pos e]; exact ⟨fun _ => e, fun _ => rfl⟩
    · rw [if_neg e]; exact ⟨fun k => absurd k (by decide), fun k => absurd k e⟩
theorem word_m {w : Int64} {Q : Int32 → Prop} (hq : Q (wcode w)) : wp_Md_wordOf_w L f w Q := by
  unfold wcode at hq
  intro y1 e1
  refine ⟨fun g => ?_, fun g y3 e3 => ⟨fun g3 => ?_, fun g3 y5 e5 => ⟨fun g5 => ?_, fun g5 y7 e7 => ⟨fun g7 => ?_, fun g7 y9 e9 => ⟨fun g9 => ?_, fun g9 y11 e11 => ⟨fun g11 => ?_, fun g11 y13 e13 => ⟨fun g13 => ?_, fun g13 y15 e15 => ⟨fun g15 => ?_, fun g15 y17 e17 => ⟨fun g17 => ?_, fun g17 y19 e19 => ⟨fun g19 => ?_, fun g19 y21 e21 => ⟨fun g21 => ?_, fun g21 => ?_⟩⟩⟩⟩⟩⟩⟩⟩⟩⟩⟩
  all_goals subst e1
  · rw [if_pos (lg_cmp_0.mp g)] at hq; exact hq
  all_goals subst e3
  all_goals rw [if_neg (fun h => g (lg_cmp_0.mpr h))] at hq
  · rw [if_pos (lg_cmp_0.mp g3)] at hq; exact hq
  all_goals subst e5
  all_goals rw [if_neg (fun h => g3 (lg_cmp_0.mpr h))] at hq
  · rw [if_pos (lg_cmp_0.mp g5)] at hq; exact hq
  all_goals subst e7
  all_goals rw [if_neg (fun h => g5 (lg_cmp_0.mpr h))] at hq
  · rw [if_pos (lg_cmp_0.mp g7)] at hq; exact hq
  all_goals subst e9
  all_goals rw [if_neg (fun h => g7 (lg_cmp_0.mpr h))] at hq
  · rw [if_pos (lg_cmp_0.mp g9)] at hq; exact hq
  all_goals subst e11
  all_goals rw [if_neg (fun h => g9 (lg_cmp_0.mpr h))] at hq
  · rw [if_pos (lg_cmp_0.mp g11)] at hq; exact hq
  all_goals subst e13
  all_goals rw [if_neg (fun h => g11 (lg_cmp_0.mpr h))] at hq
  · rw [if_pos (lg_cmp_0.mp g13)] at hq; exact hq
  all_goals subst e15
  all_goals rw [if_neg (fun h => g13 (lg_cmp_0.mpr h))] at hq
  · rw [if_pos (lg_cmp_0.mp g15)] at hq; exact hq
  all_goals subst e17
  all_goals rw [if_neg (fun h => g15 (lg_cmp_0.mpr h))] at hq
  · rw [if_pos (lg_cmp_0.mp g17)] at hq; exact hq
  all_goals subst e19
  all_goals rw [if_neg (fun h => g17 (lg_cmp_0.mpr h))] at hq
  · rw [if_pos (lg_cmp_0.mp g19)] at hq; exact hq
  all_goals subst e21
  all_goals rw [if_neg (fun h => g19 (lg_cmp_0.mpr h))] at hq
  · rw [if_pos (lg_cmp_0.mp g21)] at hq; exact hq
  · rw [if_neg (fun h => g21 (lg_cmp_0.mpr h))] at hq; exact hq
/-- the reference's tape as it stands -/
def TapeM (f : TF) (q1 mB : Nat) (B : Nat → Int32) (N : Nat) : Prop := tr f q1 27 = some mB ∧ ti f q1 28 = nI N ∧ ∀ j, ti f mB j = B j
theorem TapeM.fr {f' : TF} {mB : Nat} (h : TapeM f q1 mB B N) (hne : mB ≠ q1) (hf : Fr [42, 43, 44, 45] q1 f f') : TapeM f' q1 mB B N := ⟨(hf.2 _ _).trans h.1, (hf.1 _ _ (Or.inr (by decide))).trans h.2.1, fun j => (hf.1 _ _ (Or.inl hne)).trans (h.2.2 j)⟩
/-- what the reference holds of what is read -/
def SM (f' : TF) (q1 : Nat) (B : Nat → Int32) (N s e : Nat) : Prop := (s = N → ti f' q1 43 = 0) ∧ (s < N → isLt B s → (e - s ≤ 7 → ti f' q1 43 = wcode (wnum B s (e - s))) ∧ (¬ e - s ≤ 7 → ti f' q1 43 = 3)) ∧ (s < N → ¬ isLt B s → isDg B s → (e - s ≤ 5 → ti f' q1 43 = 1 ∧ ti f' q1 45 = dnum B s (e - s)) ∧ (¬ e - s ≤ 5 → ti f' q1 43 = 3)) ∧ (s < N → ¬ isLt B s → ¬ isDg B s → (B s = 59 → ti f' q1 43 = 2) ∧ (¬ B s = 59 → ti f' q1 43 = 3))
theorem i32_sub_assoc (a b c : Int32) : a + b - c = a + (b - c) := by
  rw [Int32.sub_eq_add_neg, Int32.sub_eq_add_neg, Int32.add_assoc]
theorem dig_m {mB s : Nat} {L1 : List Nat} {f1 f2 f3 f4 f5 : TF} {x7 : Int32} {rc : List Nat → TF → Prop} {Q : List Nat → TF → Prop} (hne : mB ≠ q1) (hN : N ≤ 400) (hT : TapeM f q1 mB B N) (hq : ∀ (f' : TF) (e : Nat), Span (isDg B) N s e → ti f' q1 42 = nI e → (e - s ≤ 5 → ti f' q1 43 = 1 ∧ ti f' q1 45 = dnum B s (e - s)) → (¬ e - s ≤ 5 → ti f' q1 43 = 3) → Fr [42, 43, 45] q1 f5 f' → Ok L1 f' → Q L1 f') (hT5 : TapeM f5 q1 mB B N) :
    ∀ (n c : Nat) (g : TF), Fr [42, 43, 45] q1 f5 g → ti g q1 42 = nI (s + c) → ti g q1 45 = dnum B s (min c 5) → s + c ≤ N → (∀ j, s ≤ j → j < s + c → isDg B j) → wpL_Md_advance_w_193_28 L f q1 L1 f1 rc mB x7 f2 f3 f4 f5 Q n (nI c) L1 g := by
  have hstep : ∀ (rec_28 : Int32 → List Nat → TF → Prop) (c : Nat) (g : TF), Fr [42, 43, 45] q1 f5 g → ti g q1 42 = nI (s + c) → ti g q1 45 = dnum B s (min c 5) → s + c ≤ N → (∀ j, s ≤ j → j < s + c → isDg B j) → (∀ g2 : TF, Fr [42, 43, 45] q1 f5 g2 → ti g2 q1 42 = nI (s + (c + 1)) → ti g2 q1 45 = dnum B s (min (c + 1) 5) → s + (c + 1) ≤ N → (∀ j, s ≤ j → j < s + (c + 1) → isDg B j) → rec_28 (nI (c + 1)) L1 g2) → wpB_Md_advance_w_193_28 L f q1 L1 f1 rc mB x7 f2 f3 f4 f5 Q rec_28 (nI c) L1 g := by
    intro rec_28 c g hfr hk hv h1 hall hrec hO1 hE1
    have hTg := hT5.fr hne (hfr.mono (by decide))
    have hout : (s + c < N → ¬ isDg B (s + c)) → ((nI c ≤ 5 → ∀ f_7 : TF, f_7 = sI g q1 43 1 → Ok L1 f_7 → Q L1 f_7) ∧ (¬ (nI c ≤ 5) → ∀ f_7 : TF, f_7 = sI g q1 43 3 → Ok L1 f_7 → Q L1 f_7)) := by
      intro hstop
      have hs : Span (isDg B) N s (s + c) := ⟨by omega, h1, hall, hstop⟩
      have hc5 : nI c ≤ 5 ↔ c ≤ 5 := by rw [show (5 : Int32) = nI 5 from rfl, nI_leI (by omega) (by omega)]
      have ec : s + c - s = c := by omega
      refine ⟨fun g5 f7 hf7 hO7 => ?_, fun g5 f7 hf7 hO7 => ?_⟩
      · subst hf7
        have g5' := hc5.mp g5
        refine hq _ (s + c) hs (by rw [ti_sI_nj (by decide)]; exact hk) (fun _ => ⟨ti_sI_eq, ?_⟩) (fun h => absurd (by omega) h) (hfr.trans (Fr.set (by decide))) hO7
        rw [ti_sI_nj (by decide), hv, ec, Nat.min_eq_left g5']
      · subst hf7
        exact hq _ (s + c) hs (by rw [ti_sI_nj (by decide)]; exact hk) (fun h => absurd (hc5.mpr (by omega)) g5) (fun _ => ti_sI_eq) (hfr.trans (Fr.set (by decide))) hO7
    rw [hk, hT.2.1]
    refine ⟨fun gg => hout (fun h => ?_), fun gg x34 e34 => ?_⟩
    · rw [nI_le400 hN (by omega)] at gg
      omega
    · rw [nI_le400 hN (by omega)] at gg
      rw [nI_clamp (by omega), hTg.2.2] at e34
      subst e34
      refine ⟨fun c48 => hout (fun _ h => h.1 c48), fun c48 => ⟨fun c57 => hout (fun _ h => h.2 c57), fun c57 => ?_⟩⟩
      have hc5 : (5 : Int32) ≤ nI c ↔ 5 ≤ c := by rw [show (5 : Int32) = nI 5 from rfl, nI_leI (by omega) (by omega)]
      have hall' : ∀ j, s ≤ j → j < s + (c + 1) → isDg B j := fun j hj hj2 => by
        by_cases e : j = s + c
        · subst e; exact ⟨c48, c57⟩
        · exact hall j hj (by omega)
      refine ⟨fun c5 x45 e45 f7 hf7 _ f8 hf8 hO8 => ?_, fun c5 x48 e48 f7 hf7 _ f8 hf8 hO8 => ?_⟩
      · rw [hv] at e45
        subst e45
        subst hf7
        subst hf8
        rw [nI_1]
        refine hrec _ ((hfr.trans (Fr.set (by decide))).trans (Fr.set (by decide))) (by rw [ti_sI_eq, nI_1]; rfl) ?_ (by omega) hall'
        rw [ti_sI_nj (by decide), ti_sI_eq, Nat.min_eq_right (hc5.mp c5), Nat.min_eq_right (by have := hc5.mp c5; omega)]
      · rw [hv] at e48
        subst e48
        subst hf7
        subst hf8
        have c5' : ¬ 5 ≤ c := fun h => c5 (hc5.mpr h)
        rw [nI_1]
        refine hrec _ ((hfr.trans (Fr.set (by decide))).trans (Fr.set (by decide))) (by rw [ti_sI_eq, nI_1]; rfl) ?_ (by omega) hall'
        rw [ti_sI_nj (by decide), ti_sI_eq, Nat.min_eq_left (by omega), Nat.min_eq_left (by omega), i32_sub_assoc, Int32.mul_comm]
        rfl
  intro n
  induction n with
  | zero =>
    intro c g a1 a2 a3 a4 a5
    exact hstep (fun _ _ _ => True) c g a1 a2 a3 a4 a5 (fun _ _ _ _ _ _ => trivial)
  | succ n ih =>
    intro c g a1 a2 a3 a4 a5
    exact hstep _ c g a1 a2 a3 a4 a5 (fun g2 b1 b2 b3 b4 b5 => ih (c + 1) g2 b1 b2 b3 b4 b5)
theorem let_m {mB s : Nat} {L1 : List Nat} {f1 f2 f3 : TF} {x7 : Int32} {y58 y60 y61 : Int64} {rc : List Nat → TF → Prop} {Q : List Nat → TF → Prop} (hne : mB ≠ q1) (hN : N ≤ 400) (hT : TapeM f q1 mB B N) (hq : ∀ (f' : TF) (e : Nat), Span (isLt B) N s e → ti f' q1 42 = nI e → (e - s ≤ 7 → ti f' q1 43 = wcode (wnum B s (e - s))) → (¬ e - s ≤ 7 → ti f' q1 43 = 3) → Fr [42, 43] q1 f3 f' → Ok L1 f' → Q L1 f') (hT3 : TapeM f3 q1 mB B N) :
    ∀ (n c : Nat) (g : TF), Fr [42, 43] q1 f3 g → ti g q1 42 = nI (s + c) → s + c ≤ N → (∀ j, s ≤ j → j < s + c → isLt B j) → wpL_Md_advance_w_85_63 L f q1 L1 f1 rc mB x7 f2 y58 y60 y61 f3 Q n (nI c) (wnum B s (min c 8)) L1 g := by
  have hstep : ∀ (rec_63 : Int32 → Int64 → List Nat → TF → Prop) (c : Nat) (g : TF), Fr [42, 43] q1 f3 g → ti g q1 42 = nI (s + c) → s + c ≤ N → (∀ j, s ≤ j → j < s + c → isLt B j) → (∀ g2 : TF, Fr [42, 43] q1 f3 g2 → ti g2 q1 42 = nI (s + (c + 1)) → s + (c + 1) ≤ N → (∀ j, s ≤ j → j < s + (c + 1) → isLt B j) → rec_63 (nI (c + 1)) (wnum B s (min (c + 1) 8)) L1 g2) → wpB_Md_advance_w_85_63 L f q1 L1 f1 rc mB x7 f2 y58 y60 y61 f3 Q rec_63 (nI c) (wnum B s (min c 8)) L1 g := by
    intro rec_63 c g hfr hk h1 hall hrec hO1 hE1
    have hTg := hT3.fr hne (hfr.mono (by decide))
    have hout : (s + c < N → ¬ isLt B (s + c)) → ((nI c ≤ 7 → wp_Md_wordOf_w L1 g (wnum B s (min c 8)) (fun (r_67 : Int32) => (∀ f_5 : TF, f_5 = sI g q1 43 r_67 → Ok L1 f_5 → Q L1 f_5))) ∧ (¬ (nI c ≤ 7) → ∀ f_5 : TF, f_5 = sI g q1 43 3 → Ok L1 f_5 → Q L1 f_5)) := by
      intro hstop
      have hs : Span (isLt B) N s (s + c) := ⟨by omega, h1, hall, hstop⟩
      have hc7 : nI c ≤ 7 ↔ c ≤ 7 := by rw [show (7 : Int32) = nI 7 from rfl, nI_leI (by omega) (by omega)]
      have ec : s + c - s = c := by omega
      refine ⟨fun g7 => word_m (fun f5 hf5 hO5 => ?_), fun g7 f5 hf5 hO5 => ?_⟩
      · subst hf5
        have g7' := hc7.mp g7
        refine hq _ (s + c) hs (by rw [ti_sI_nj (by decide)]; exact hk) (fun _ => ?_) (fun h => absurd (by omega) h) (hfr.trans (Fr.set (by decide))) hO5
        rw [ti_sI_eq, ec, Nat.min_eq_left (by omega)]
      · subst hf5
        exact hq _ (s + c) hs (by rw [ti_sI_nj (by decide)]; exact hk) (fun h => absurd (hc7.mpr (by omega)) g7) (fun _ => ti_sI_eq) (hfr.trans (Fr.set (by decide))) hO5
    rw [hk, hT.2.1]
    refine ⟨fun gg => hout (fun h => ?_), fun gg x72 e72 => ?_⟩
    · rw [nI_le400 hN (by omega)] at gg
      omega
    · rw [nI_le400 hN (by omega)] at gg
      rw [nI_clamp (by omega), hTg.2.2] at e72
      subst e72
      refine ⟨fun c97 => hout (fun _ h => h.1 c97), fun c97 => ⟨fun c122 => hout (fun _ h => h.2 c122), fun c122 => ?_⟩⟩
      have hc8 : (8 : Int32) ≤ nI c ↔ 8 ≤ c := by rw [show (8 : Int32) = nI 8 from rfl, nI_leI (by omega) (by omega)]
      have hall' : ∀ j, s ≤ j → j < s + (c + 1) → isLt B j := fun j hj hj2 => by
        by_cases e : j = s + c
        · subst e; exact ⟨c97, c122⟩
        · exact hall j hj (by omega)
      refine ⟨fun c8 f5 hf5 hO5 => ?_, fun c8 y90 e90 y92 e92 y93 e93 f5 hf5 hO5 => ?_⟩
      · subst hf5
        have h := hrec (sI g q1 42 (nI (s + c) + 1)) (hfr.trans (Fr.set (by decide))) (by rw [ti_sI_eq, nI_1]; rfl) (by omega) hall'
        rw [Nat.min_eq_right (show 8 ≤ c + 1 by have := hc8.mp c8; omega)] at h
        rw [nI_1, Nat.min_eq_right (hc8.mp c8)]
        exact h
      · subst hf5
        have c8' : ¬ 8 ≤ c := fun h => c8 (hc8.mpr h)
        have h := hrec (sI g q1 42 (nI (s + c) + 1)) (hfr.trans (Fr.set (by decide))) (by rw [ti_sI_eq, nI_1]; rfl) (by omega) hall'
        rw [Nat.min_eq_left (show c + 1 ≤ 8 by omega)] at h
        rw [nI_1]
        have ey : y93 = wnum B s (c + 1) := by
          rw [e93, e92, e90, Nat.min_eq_left (show c ≤ 8 by omega)]
          rfl
        rw [ey]
        exact h
  intro n
  induction n with
  | zero =>
    intro c g a1 a2 a4 a5
    exact hstep (fun _ _ _ _ => True) c g a1 a2 a4 a5 (fun _ _ _ _ _ => trivial)
  | succ n ih =>
    intro c g a1 a2 a4 a5
    exact hstep _ c g a1 a2 a4 a5 (fun g2 b1 b2 b4 b5 => ih (c + 1) g2 b1 b2 b4 b5)
theorem adv_m {mB b : Nat} {Q : List Nat → TF → Prop} (hne : mB ≠ q1) (hN : N ≤ 400) (hT : TapeM f q1 mB B N) (h4 : ti f q1 42 = nI b) (hb : b ≤ N) (hq : ∀ (f' : TF) (s e : Nat), Tok B N b s e → ti f' q1 44 = nI s → ti f' q1 42 = nI e → SM f' q1 B N s e → Fr [42, 43, 44, 45] q1 f f' → Ok L f' → Q L f') : wp_Md_advance_w L f q1 Q := by
  have hstep : ∀ (rec_1 : List Nat → TF → Prop) (k : Nat) (f1 : TF), Fr [42, 43, 44, 45] q1 f f1 → ti f1 q1 42 = nI k → b ≤ k → k ≤ N → (∀ j, b ≤ j → j < k → isSp B j) → (∀ f2 : TF, Fr [42, 43, 44, 45] q1 f f2 → ti f2 q1 42 = nI (k + 1) → b ≤ k + 1 → k + 1 ≤ N → (∀ j, b ≤ j → j < k + 1 → isSp B j) → rec_1 L f2) → wpB_Md_advance_w_0_1 L f q1 Q rec_1 L f1 := by
    intro rec_1 k f1 hfr hk h0 h1 hall hrec hO1 hE1
    have hT1 := hT.fr hne hfr
    rw [hk, hT.2.1]
    refine ⟨fun g f2 hf2 _ f3 hf3 hO3 => ?_, fun g q6 e6 x7 e7 => ?_⟩
    · rw [nI_le400 hN (by omega)] at g
      subst hf2 hf3
      refine hq _ k k ⟨⟨h0, h1, hall, fun h => absurd h (by omega)⟩, Or.inl ⟨by omega, rfl⟩⟩ ?_ ?_ ⟨fun _ => ti_sI_eq, fun h => absurd h (by omega), fun h => absurd h (by omega), fun h => absurd h (by omega)⟩ ((hfr.trans (Fr.set (by decide))).trans (Fr.set (by decide))) hO3
      · rw [ti_sI_nj (by decide), ti_sI_eq]
      · rw [ti_sI_nj (by decide), ti_sI_nj (by decide)]; exact hk
    · rw [nI_le400 hN (by omega)] at g
      have hlt : k < N := by omega
      rw [hT1.1] at e6; cases e6
      rw [nI_clamp (by omega), hT1.2.2] at e7
      subst e7
      refine ⟨fun c f2 hf2 _ => ?_, fun c f2 hf2 _ => ?_⟩
      · subst hf2
        refine hrec _ (hfr.trans (Fr.set (by decide))) (by rw [ti_sI_eq, nI_1]) (by omega) (by omega) (fun j hj hj2 => ?_)
        by_cases e : j = k
        · subst e; exact c
        · exact hall j hj (by omega)
      · have hsp : Span (isSp B) N b k := ⟨h0, h1, hall, fun _ h => c h⟩
        have hfr2 : Fr [42, 43, 44, 45] q1 f f2 := by rw [hf2]; exact hfr.trans (Fr.set (by decide))
        have k44 : ti f2 q1 44 = nI k := by rw [hf2, ti_sI_eq]
        -- one byte that is neither letter nor digit
        have hone : ∀ (v : Int32), ¬ isLt B k → ¬ isDg B k → (B k = 59 → v = 2) → (¬ B k = 59 → v = 3) → ∀ f3 : TF, f3 = sI f2 q1 42 (nI k + 1) → ∀ f4 : TF, f4 = sI f3 q1 43 v → Ok L f4 → Q L f4 := by
          intro v hl hd hv1 hv2 f3 hf3 f4 hf4 hO4
          subst hf3 hf4
          refine hq _ k (k + 1) ⟨hsp, Or.inr ⟨hlt, fun h => absurd h hl, fun _ h => absurd h hd, fun _ _ => rfl⟩⟩ ?_ ?_ ⟨fun h => absurd h (by omega), fun _ h => absurd h hl, fun _ _ h => absurd h hd, fun _ _ _ => ⟨fun h => ?_, fun h => ?_⟩⟩ ((hfr2.trans (Fr.set (by decide))).trans (Fr.set (by decide))) hO4
          · rw [ti_sI_nj (by decide), ti_sI_nj (by decide)]; exact k44
          · rw [ti_sI_nj (by decide), ti_sI_eq, nI_1]
          · rw [ti_sI_eq]; exact hv1 h
          · rw [ti_sI_eq]; exact hv2 h
        refine ⟨fun c97 => ⟨fun c48 f3 hf3 _ f4 hf4 hO4 => hone 3 (fun h => h.1 c97) (fun h => h.1 c48) (fun h => ?_) (fun _ => rfl) f3 hf3 f4 hf4 hO4, fun c48 => ⟨fun c57 f3 hf3 _ => ⟨fun c59 f4 hf4 hO4 => hone 2 (fun h => h.1 c97) (fun h => h.2 c57) (fun _ => rfl) (fun h => absurd c59 h) f3 hf3 f4 hf4 hO4, fun c59 f4 hf4 hO4 => hone 3 (fun h => h.1 c97) (fun h => h.2 c57) (fun h => absurd h c59) (fun _ => rfl) f3 hf3 f4 hf4 hO4⟩, fun c57 f3 hf3 _ f4 hf4 _ f5 hf5 hO5 => ?_⟩⟩, fun c97 => ⟨fun c122 f3 hf3 _ f4 hf4 hO4 => hone 3 (fun h => h.2 c122) (fun h => ?_) (fun h => ?_) (fun _ => rfl) f3 hf3 f4 hf4 hO4, fun c122 y58 e58 y60 e60 y61 e61 f3 hf3 hO3 => ?_⟩⟩
        · rw [h] at c48; exact absurd c48 (by decide)
        · -- digits
          have hfr5 : Fr [42, 43, 44, 45] q1 f f5 := by rw [hf5, hf4, hf3]; exact ((hfr2.trans (Fr.set (by decide))).trans (Fr.set (by decide))).trans (Fr.set (by decide))
          have e5 : ti f5 q1 42 = nI (k + 1) := by rw [hf5, ti_sI_eq, nI_1]
          have e45 : ti f5 q1 45 = dnum B k (min 1 5) := by
            rw [hf5, ti_sI_nj (by decide), hf4, ti_sI_eq, i32_sub_assoc]
            show 0 + (B k - 48) = 0 * 10 + (B (k + 0) - 48)
            rw [Int32.zero_mul]; rfl
          have e44 : ti f5 q1 44 = nI k := by rw [hf5, hf4, hf3, ti_sI_nj (by decide), ti_sI_nj (by decide), ti_sI_nj (by decide)]; exact k44
          refine dig_m (s := k) hne hN hT (fun f' e hs q42 qa qb hfr' hO' => ?_) (hT.fr hne hfr5) _ 1 f5 Fr.rf e5 e45 (by omega) (fun j hj hj2 => ?_)
          · have htok : Tok B N b k e := ⟨hsp, Or.inr ⟨hlt, fun h => absurd c97 h.1, fun _ _ => hs, fun _ h => absurd ⟨c48, c57⟩ h⟩⟩
            exact hq f' k e htok ((hfr'.1 _ _ (Or.inr (by decide))).trans e44) q42 ⟨fun h => absurd h (by omega), fun _ h => absurd c97 h.1, fun _ _ _ => ⟨qa, qb⟩, fun _ _ h => absurd ⟨c48, c57⟩ h⟩ (hfr5.trans (hfr'.mono (by decide))) hO'
          · have : j = k := by omega
            subst this
            exact ⟨c48, c57⟩
        · have h2 := h.2
          rw [Int32.lt_iff_toInt_lt] at c122 h2
          have z1 : (122 : Int32).toInt = 122 := by decide
          have z2 : (57 : Int32).toInt = 57 := by decide
          omega
        · rw [h] at c122; exact absurd c122 (by decide)
        · -- letters
          have hfr3 : Fr [42, 43, 44, 45] q1 f f3 := by rw [hf3]; exact hfr2.trans (Fr.set (by decide))
          have e3 : ti f3 q1 42 = nI (k + 1) := by rw [hf3, ti_sI_eq, nI_1]
          have e44 : ti f3 q1 44 = nI k := by rw [hf3, ti_sI_nj (by decide)]; exact k44
          have ey : y61 = wnum B k (min 1 8) := by rw [e61, e60, e58]; rfl
          subst ey
          refine let_m (s := k) hne hN hT (fun f' e hs q42 qa qb hfr' hO' => ?_) (hT.fr hne hfr3) _ 1 f3 Fr.rf e3 (by omega) (fun j hj hj2 => ?_)
          · have htok : Tok B N b k e := ⟨hsp, Or.inr ⟨hlt, fun _ => hs, fun h => absurd ⟨c97, c122⟩ h, fun h => absurd ⟨c97, c122⟩ h⟩⟩
            exact hq f' k e htok ((hfr'.1 _ _ (Or.inr (by decide))).trans e44) q42 ⟨fun h => absurd h (by omega), fun _ _ => ⟨qa, qb⟩, fun _ h => absurd ⟨c97, c122⟩ h, fun _ h => absurd ⟨c97, c122⟩ h⟩ (hfr3.trans (hfr'.mono (by decide))) hO'
          · have : j = k := by omega
            subst this
            exact ⟨c97, c122⟩
  have hloop : ∀ (n k : Nat) (f1 : TF), Fr [42, 43, 44, 45] q1 f f1 → ti f1 q1 42 = nI k → b ≤ k → k ≤ N → (∀ j, b ≤ j → j < k → isSp B j) → wpL_Md_advance_w_0_1 L f q1 Q n L f1 := by
    intro n
    induction n with
    | zero =>
      intro k f1 a1 a2 a3 a4 a5
      exact hstep (fun _ _ => True) k f1 a1 a2 a3 a4 a5 (fun _ _ _ _ _ _ => trivial)
    | succ n ih =>
      intro k f1 a1 a2 a3 a4 a5
      exact hstep _ k f1 a1 a2 a3 a4 a5 (fun f2 b1 b2 b3 b4 b5 => ih (k + 1) f2 b1 b2 b3 b4 b5)
  exact hloop _ b f Fr.rf h4 (by omega) hb (fun j h1 h2 => absurd h2 (by omega))
end TOK
