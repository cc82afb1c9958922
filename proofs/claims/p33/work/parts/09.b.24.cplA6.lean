section ABS
variable {L : List Nat} {f : TF} {q0 q1 : Nat} {ad : Nat → Nat} {D : Int}
theorem kd_ge (k : Nat) : 24 ≤ kd k := by
  unfold kd
  repeat' split
  all_goals omega
/-- both calls, answers aside -/
def PairN (C : List Nat → TF → Prop) (q0 q1 : Nat) (wpm : List Nat → TF → (Int32 → List Nat → TF → Prop) → Prop) : Int32 → List Nat → TF → Prop := fun _ L1 f1 => Ok L1 f1 → (q0 ∈ L1 ∧ tk f1 q0 = 0) → (q1 ∈ L1 ∧ tk f1 q1 = 27) → wpm L1 f1 (fun _ L2 f2 => Ok L2 f2 → C L2 f2)
/-- 1: one of n gaps from k on meets the days p1 .. p2 -/
def mtG (a b : Nat → Int32) (p1 p2 : Int32) : Nat → Nat → Int32
  | 0, _ => 0
  | n + 1, k => if b k + 1 < p1 then mtG a b p1 p2 n (k + 1) else if p2 < a k - 1 then mtG a b p1 p2 n (k + 1) else 1
theorem mtG_z {a b : Nat → Int32} {p1 p2 : Int32} {G k : Nat} (h : G ≤ k) : mtG a b p1 p2 (G - k) k = 0 := by rw [show G - k = 0 by omega]; rfl
theorem mtG_s {a b : Nat → Int32} {p1 p2 : Int32} {G k : Nat} (h : k < G) : mtG a b p1 p2 (G - k) k = if b k + 1 < p1 then mtG a b p1 p2 (G - (k + 1)) (k + 1) else if p2 < a k - 1 then mtG a b p1 p2 (G - (k + 1)) (k + 1) else 1 := by rw [show G - k = G - (k + 1) + 1 by omega]; rfl
theorem mtG_01 {a b : Nat → Int32} {p1 p2 : Int32} : ∀ n k : Nat, mtG a b p1 p2 n k = 0 ∨ mtG a b p1 p2 n k = 1 := by
  intro n
  induction n with
  | zero => intro k; exact Or.inl rfl
  | succ n ih =>
    intro k
    show (if b k + 1 < p1 then mtG a b p1 p2 n (k + 1) else if p2 < a k - 1 then mtG a b p1 p2 n (k + 1) else 1) = 0 ∨ (if b k + 1 < p1 then mtG a b p1 p2 n (k + 1) else if p2 < a k - 1 then mtG a b p1 p2 n (k + 1) else 1) = 1
    by_cases h1 : b k + 1 < p1
    · rw [if_pos h1]; exact ih _
    · rw [if_neg h1]
      by_cases h2 : p2 < a k - 1
      · rw [if_pos h2]; exact ih _
      · rw [if_neg h2]; exact Or.inr rfl
theorem mtG_no {a b : Nat → Int32} {p1 p2 : Int32} : ∀ n k : Nat, mtG a b p1 p2 n k = 0 → ∀ i, k ≤ i → i < k + n → b i + 1 < p1 ∨ p2 < a i - 1 := by
  intro n
  induction n with
  | zero => intro k _ i h1 h2; omega
  | succ n ih =>
    intro k h i h1 h2
    have h' : (if b k + 1 < p1 then mtG a b p1 p2 n (k + 1) else if p2 < a k - 1 then mtG a b p1 p2 n (k + 1) else 1) = 0 := h
    by_cases g1 : b k + 1 < p1
    · rw [if_pos g1] at h'
      by_cases e : i = k
      · subst e; exact Or.inl g1
      · exact ih _ h' i (by omega) (by omega)
    · rw [if_neg g1] at h'
      by_cases g2 : p2 < a k - 1
      · rw [if_pos g2] at h'
        by_cases e : i = k
        · subst e; exact Or.inr g2
        · exact ih _ h' i (by omega) (by omega)
      · rw [if_neg g2] at h'
        exact absurd h' (by decide)
theorem mg_x {m b c d G : Nat} {p1 p2 : Int32} {Q : Int32 → Prop} (b2 : tr f b 2 = some c) (b3 : tr f b 3 = some d) (b6 : G ≤ 6) (b7 : ti f b 4 = nI G) (b9 : ∀ k, k < G → ti f c k = gF f ad m k ∧ ti f d k = gT f ad m k) (hq : Q (mtG (gF f ad m) (gT f ad m) p1 p2 G 0)) : wp_Bd_meetsGap_w L f b p1 p2 Q := by
  have hstep : ∀ (rc : Int32 → Prop) (k : Nat), k ≤ G → Q (mtG (gF f ad m) (gT f ad m) p1 p2 (G - k) k) → (k < G → Q (mtG (gF f ad m) (gT f ad m) p1 p2 (G - (k + 1)) (k + 1)) → rc (nI (k + 1))) → wpB_Bd_meetsGap_w_2_1 L f b p1 p2 Q rc (nI k) := by
    intro rc k hk hqk hrec x2 e2
    rw [b7] at e2
    subst e2
    refine ⟨fun g => ?_, fun g q4 e4 x5 e5 => ?_⟩
    · rw [nI_leI (by omega) (by omega)] at g
      rw [mtG_z g] at hqk
      exact hqk
    · rw [nI_leI (by omega) (by omega)] at g
      have hlt : k < G := by omega
      rw [b3] at e4; cases e4
      rw [nI_clamp (by omega), (b9 k hlt).2] at e5
      subst e5
      rw [mtG_s hlt] at hqk
      rw [nI_1]
      refine ⟨fun g1 => ?_, fun g1 q7 e7 x8 e8 => ?_⟩
      · rw [if_pos g1] at hqk
        exact hrec hlt hqk
      · rw [b2] at e7; cases e7
        rw [nI_clamp (by omega), (b9 k hlt).1] at e8
        subst e8
        rw [if_neg g1] at hqk
        refine ⟨fun g2 => ?_, fun g2 => ?_⟩
        · rw [if_pos g2] at hqk
          exact hrec hlt hqk
        · rw [if_neg g2] at hqk
          exact hqk
  have hloop : ∀ (n k : Nat), k ≤ G → Q (mtG (gF f ad m) (gT f ad m) p1 p2 (G - k) k) → wpL_Bd_meetsGap_w_2_1 L f b p1 p2 Q n (nI k) := by
    intro n
    induction n with
    | zero => intro k c1 c2; exact hstep (fun _ => True) k c1 c2 (fun _ _ => trivial)
    | succ n ih => intro k c1 c2; exact hstep _ k c1 c2 (fun d1 d2 => ih _ (by omega) d2)
  exact hloop _ 0 (Nat.zero_le _) hq
theorem ab_m {m G : Nat} {p1 p2 r6 x13 x16 : Int32} {q12 q15 : Nat} {Q : Int32 → List Nat → TF → Prop} (r : ∀ k, k ∈ RK → tr f q1 k = some (ad k)) (hm : m < 40) (b6 : G ≤ 6) (b8 : ti f (ad 12) m = nI G) (hy : mtG (gF f ad m) (gT f ad m) p1 p2 G 0 = 1 → Q (-2) L f)
    (hn : mtG (gF f ad m) (gT f ad m) p1 p2 G 0 = 0 → (G = 6 → Q (-3) L f) ∧ (G < 6 → ∀ f1 : TF, f1 = sI f (ad 13) (6 * m + G) p1 → ∀ f2 : TF, f2 = sI f1 (ad 14) (6 * m + G) p2 → ∀ f3 : TF, f3 = sI f2 (ad 12) m (nI (G + 1)) → Q (nI (G + 1)) L f3)) : wpL_Md_absent_w_54_18 L f q1 (nI m) p1 p2 r6 q12 x13 q15 x16 Q (((6 : Int32).toInt - (0 : Int32).toInt).toNat) (0 : Int32) := by
  have hstep : ∀ (rc : Int32 → Prop) (k : Nat), k ≤ G → mtG (gF f ad m) (gT f ad m) p1 p2 G 0 = mtG (gF f ad m) (gT f ad m) p1 p2 (G - k) k → (k < G → mtG (gF f ad m) (gT f ad m) p1 p2 G 0 = mtG (gF f ad m) (gT f ad m) p1 p2 (G - (k + 1)) (k + 1) → rc (nI (k + 1))) → wpB_Md_absent_w_54_18 L f q1 (nI m) p1 p2 r6 q12 x13 q15 x16 Q rc (nI k) := by
    intro rc k hk hqk hrec q19 e19 x20 e20
    rw [r 12 (by decide)] at e19; cases e19
    rw [nI_clamp (by omega), b8] at e20
    subst e20
    rw [nI_1]
    refine ⟨fun g => ?_, fun g q33 e33 x34 e34 => ?_⟩
    · rw [nI_leI (by omega) (by omega)] at g
      rw [mtG_z g] at hqk
      obtain ⟨n1, n2⟩ := hn hqk
      refine ⟨fun k6 => n1 (by rw [show (6 : Int32) = nI 6 from rfl, nI_eq (by omega) (by decide)] at k6; exact k6), fun k6 q24 e24 f1 hf1 _ q27 e27 f2 hf2 _ f3 hf3 _ => ?_⟩
      rw [show (6 : Int32) = nI 6 from rfl, nI_eq (by omega) (by decide)] at k6
      rw [r 13 (by decide)] at e24; cases e24
      rw [hf1, tr_sI, r 14 (by decide)] at e27; cases e27
      rw [ix6, nI_clamp (by omega)] at hf1 hf2
      rw [nI_clamp (by omega)] at hf3
      exact n2 (by omega) f1 hf1 f2 hf2 f3 hf3
    · rw [nI_leI (by omega) (by omega)] at g
      have hlt : k < G := by omega
      rw [r 14 (by decide)] at e33; cases e33
      rw [ix6, nI_clamp (by omega)] at e34
      have e34' : gT f ad m k = x34 := e34
      subst e34'
      rw [mtG_s hlt] at hqk
      rw [nI_1]
      refine ⟨fun g1 => ?_, fun g1 q36 e36 x37 e37 => ?_⟩
      · rw [if_pos g1] at hqk
        exact hrec hlt hqk
      · rw [r 13 (by decide)] at e36; cases e36
        rw [ix6, nI_clamp (by omega)] at e37
        have e37' : gF f ad m k = x37 := e37
        subst e37'
        rw [if_neg g1] at hqk
        refine ⟨fun g2 => ?_, fun g2 => ?_⟩
        · rw [if_pos g2] at hqk
          exact hrec hlt hqk
        · rw [if_neg g2] at hqk
          exact hy hqk
  have hloop : ∀ (n k : Nat), k ≤ G → mtG (gF f ad m) (gT f ad m) p1 p2 G 0 = mtG (gF f ad m) (gT f ad m) p1 p2 (G - k) k → wpL_Md_absent_w_54_18 L f q1 (nI m) p1 p2 r6 q12 x13 q15 x16 Q n (nI k) := by
    intro n
    induction n with
    | zero => intro k c1 c2; exact hstep (fun _ => True) k c1 c2 (fun _ _ => trivial)
    | succ n ih => intro k c1 c2; exact hstep _ k c1 c2 (fun d1 d2 => ih _ (by omega) d2)
  exact hloop _ 0 (Nat.zero_le _) rfl
/-- one gap more -/
theorem GapOk.add {S : Int} {G : Nat} {a b a' b' : Nat → Int32} {p1 p2 : Int32} (h : GapOk S D G a b) (h1 : S ≤ p1.toInt) (h2 : p1.toInt ≤ p2.toInt) (h3 : p2.toInt ≤ D) (hno : ∀ i, i < G → b i + 1 < p1 ∨ p2 < a i - 1) (e1 : ∀ k, k < G → a' k = a k) (e2 : ∀ k, k < G → b' k = b k) (e3 : a' G = p1) (e4 : b' G = p2) : GapOk S D (G + 1) a' b' := by
  obtain ⟨c1, c2, c3, c4, c5⟩ := h
  have z1 : (1 : Int32).toInt = 1 := by decide
  have hn : ∀ i, i < G → (b i).toInt + 1 < p1.toInt ∨ p2.toInt + 1 < (a i).toInt := by
    intro i hi
    obtain ⟨d1, d2, d3⟩ := c4 i hi
    rcases hno i hi with g | g
    · rw [Int32.lt_iff_toInt_lt, fb_addI (by omega) (by omega)] at g
      exact Or.inl (by omega)
    · rw [Int32.lt_iff_toInt_lt, fb_subI (by omega) (by omega)] at g
      exact Or.inr (by omega)
  refine ⟨c1, c2, c3, fun k hk => ?_, fun k k' hk hk' hne => ?_⟩
  · by_cases e : k = G
    · subst e; rw [e3, e4]; exact ⟨h1, h2, h3⟩
    · rw [e1 k (by omega), e2 k (by omega)]; exact c4 k (by omega)
  · by_cases e : k = G
    · subst e
      rw [e3, e4, e1 k' (by omega), e2 k' (by omega)]
      rcases hn k' (by omega) with g | g
      · exact Or.inr g
      · exact Or.inl g
    · by_cases e' : k' = G
      · subst e'
        rw [e3, e4, e1 k (by omega), e2 k (by omega)]
        exact hn k (by omega)
      · rw [e1 k (by omega), e2 k (by omega), e1 k' (by omega), e2 k' (by omega)]
        exact c5 k k' (by omega) (by omega) hne
theorem pr_absent (hO : Ok L f) (m0 : q0 ∈ L ∧ tk f q0 = 0) (m1 : q1 ∈ L ∧ tk f q1 = 27) (hA : Ad f q0 q1 ad) (hK : K1 f ad (ti f q1 1 / 720).toInt) (ht : ti f q0 10 = ti f q1 1) (p_0 p_1 p_2 : Int32) : wp_WM_absent_w L f q0 p_0 p_1 p_2 (PairN (fun _ g => K1 g ad (ti f q1 1 / 720).toInt) q0 q1 (fun L f Q => wp_Md_absent_w L f q1 p_0 p_1 p_2 Q)) := by
  have r := hA.2.2.2
  have im := hA.m hO m1
  obtain ⟨bd, bF, bT, a1, a2, a3⟩ := id hK
  -- what the program refuses, the reference refuses
  have hno : ∀ x : Int32, (∀ m, m < 40 → p_0 = nI m → ¬ p_1 < 0 → ¬ p_2 < p_1 → p_2 ≤ ti f q1 1 / 720 → ti f (ad 9) m = 1 → ti f (ad 11) m ≤ p_1 → mtG (gF f ad m) (gT f ad m) p_1 p_2 (ti f (ad 12) m).toNatClampNeg 0 = 1 ∨ (ti f (ad 12) m).toNatClampNeg = 6) → PairN (fun _ g => K1 g ad (ti f q1 1 / 720).toInt) q0 q1 (fun L f Q => wp_Md_absent_w L f q1 p_0 p_1 p_2 Q) x L f := by
    intro x h _ _ _
    refine mck (fun _ _ => hK) (fun g0 => ⟨fun _ _ => hK, fun g1 => ⟨fun _ _ => hK, fun g2 => today_m ⟨fun g3 q12 e12 x13 e13 => ?_, fun _ _ => hK⟩⟩⟩)
    obtain ⟨m, hm, rfl⟩ := g0.n
    rw [r 9 (by decide)] at e12; cases e12
    rw [nI_clamp (by omega)] at e13
    subst e13
    refine ⟨fun hs q15 e15 x16 e16 => ?_, fun _ _ => hK⟩
    rw [r 11 (by decide)] at e15; cases e15
    rw [nI_clamp (by omega)] at e16
    subst e16
    refine ⟨fun g4 => ?_, fun _ _ => hK⟩
    obtain ⟨b1, b2, b3, b4, b5, G, b6, b7, b8, b9, b10⟩ := a2 m hm hs
    have := h m hm rfl g1 g2 g3 hs g4
    rw [b8, nI_clamp (by omega)] at this
    refine ab_m r hm b6 b8 (fun _ _ => hK) (fun hz => ⟨fun _ _ => hK, fun hlt => ?_⟩)
    rcases this with k | k
    · rw [k] at hz; exact absurd hz (by decide)
    · omega
  refine manAt_x hA (fun h => ⟨fun _ => hno _ (fun m hm hp => absurd (hp ▸ isM_nI hm) h), fun q z => (by cases z)⟩) (fun m hm hp => ⟨fun z => (by cases z), fun q eq => ⟨fun k => hno _ (fun _ _ _ g => absurd k g), fun g1 => ⟨fun k => hno _ (fun _ _ _ _ g => absurd k g), fun g2 => today_x ht ⟨fun g3 => ?_, fun k => hno _ (fun _ _ _ _ _ g => absurd g k)⟩⟩⟩⟩)
  subst hp
  cases eq
  have hmm : ∀ m', nI m = nI m' → m' < 40 → m' = m := fun m' e h => by rw [nI_eq (by omega) (by omega)] at e; exact e.symm
  refine ⟨fun e => hno _ (fun m' hm' hp' _ _ _ hs _ => ?_), fun q8 e8 x9 e9 => ?_⟩
  · have := hmm m' hp' hm'
    subst this
    rw [(a2 _ hm hs).1] at e
    cases e
  refine ⟨fun g4 x11 e11 => ?_, fun g4 => hno _ (fun m' hm' hp' _ _ _ hs hle => ?_)⟩
  rotate_left
  · have := hmm m' hp' hm'
    subst this
    have hb := a2 _ hm hs
    rw [hb.1] at e8; cases e8
    rw [hb.2.2.2.2.1] at e9
    subst e9
    exact absurd hle g4
  rw [a1 m hm] at e11
  subst e11
  refine ⟨fun hs => ?_, fun hs => hno _ (fun m' hm' hp' _ _ _ hs' _ => ?_)⟩
  rotate_left
  · have := hmm m' hp' hm'
    subst this
    exact absurd hs' hs
  have hb := a2 _ hm hs
  obtain ⟨ib, ic, id'⟩ := bnd_m hA hO m0 hm hb
  obtain ⟨b1, b2, b3, b4, b5, G, b6, b7, b8, b9, b10⟩ := id hb
  rw [b1] at e8; cases e8
  rw [b5] at e9
  subst e9
  have hGn : (ti f (ad 12) m).toNatClampNeg = G := by rw [b8, nI_clamp (by omega)]
  refine mg_x b2 b3 b6 b7 b9 ⟨fun hz x14 e14 => ?_, fun h1 => hno _ (fun m' hm' hp' _ _ _ _ _ => ?_)⟩
  rotate_left
  · have := hmm m' hp' hm'
    subst this
    rw [hGn]; exact Or.inl h1
  rw [b7] at e14
  subst e14
  refine ⟨fun h6 => ?_, fun h6 => hno _ (fun m' hm' hp' _ _ _ _ _ => ?_)⟩
  rotate_left
  · have := hmm m' hp' hm'
    subst this
    rw [show (6 : Int32) = nI 6 from rfl, nI_ltI (by omega) (by decide)] at h6
    rw [hGn]; exact Or.inr (by omega)
  rw [show (6 : Int32) = nI 6 from rfl, nI_ltI (by omega) (by decide)] at h6
  intro qc ec f1 hf1 _ qd ed f2 hf2 _ f3 hf3 hO3 _ _ _ m0' m1'
  rw [b2] at ec; cases ec
  rw [hf1, tr_sI, b3] at ed; cases ed
  rw [b7, nI_clamp (by omega)] at hf1 hf2
  rw [b7, nI_1] at hf3
  have dcd : bF m ≠ bT m := ne_tk ic.2 id'.2 (by decide)
  have dbc : bd m ≠ bF m := ne_tk ib.2 ic.2 (by decide)
  have dbd : bd m ≠ bT m := ne_tk ib.2 id'.2 (by decide)
  have o3 : ∀ c k, tk f c = k → k ≠ 21 → k ≠ 22 → k ≠ 23 → ∀ z, ti f3 c z = ti f c z := fun c k hk g1 g2 g3 z => by
    rw [hf3, ti_sI_ne (ne_tk hk ib.2 g1), hf2, ti_sI_ne (ne_tk hk id'.2 g3), hf1, ti_sI_ne (ne_tk hk ic.2 g2)]
  have r3 : ∀ c z, tr f3 c z = tr f c z := fun c z => by rw [hf3, tr_sI, hf2, tr_sI, hf1, tr_sI]
  have T3 : ti f3 q1 1 / 720 = ti f q1 1 / 720 := by rw [o3 _ _ m1.2 (by decide) (by decide) (by decide)]
  have kR : ∀ k, k ∈ RK → ∀ z, ti f3 (ad k) z = ti f (ad k) z := fun k hk z => o3 _ _ (im k hk).2 (by have := kd_ge k; omega) (by have := kd_ge k; omega) (by have := kd_ge k; omega) z
  have eF : gF f3 ad m = gF f ad m := by funext z; exact kR 13 (by decide) _
  have eT : gT f3 ad m = gT f ad m := by funext z; exact kR 14 (by decide) _
  refine mck (fun k => absurd (isM_nI hm) k) (fun _ => ⟨fun k => absurd k g1, fun _ => ⟨fun k => absurd k g2, fun _ => today_m ?_⟩⟩)
  rw [T3]
  refine ⟨fun _ q12 e12 x13 e13 => ?_, fun k => absurd g3 k⟩
  rw [r3, r 9 (by decide)] at e12; cases e12
  rw [nI_clamp (by omega), kR 9 (by decide)] at e13
  subst e13
  refine ⟨fun _ q15 e15 x16 e16 => ?_, fun k => absurd hs k⟩
  rw [r3, r 11 (by decide)] at e15; cases e15
  rw [nI_clamp (by omega), kR 11 (by decide)] at e16
  subst e16
  refine ⟨fun _ => ?_, fun k => absurd g4 k⟩
  refine ab_m (ad := ad) (G := G) (fun k hk => (r3 q1 k).trans (r k hk)) hm b6 ((kR 12 (by decide) m).trans b8) (fun h1 => ?_) (fun _ => ⟨fun h => absurd h (by omega), fun _ h1 hh1 h2 hh2 h3 hh3 _ => ?_⟩)
  · rw [eF, eT, hz] at h1
    exact absurd h1 (by decide)
  have k12 : tk f (ad 12) = 36 := (im 12 (by decide)).2
  have k13 : tk f (ad 13) = 37 := (im 13 (by decide)).2
  have k14 : tk f (ad 14) = 38 := (im 14 (by decide)).2
  have n1314 : ad 13 ≠ ad 14 := ne_tk k13 k14 (by decide)
  have n1213 : ad 12 ≠ ad 13 := ne_tk k12 k13 (by decide)
  have n1214 : ad 12 ≠ ad 14 := ne_tk k12 k14 (by decide)
  have oo : ∀ c k, tk f c = k → k ≠ 36 → k ≠ 37 → k ≠ 38 → ∀ z, ti h3 c z = ti f3 c z := fun c k hk x1 x2 x3 z => by
    rw [hh3, ti_sI_ne (ne_tk hk k12 x1), hh2, ti_sI_ne (ne_tk hk k14 x3), hh1, ti_sI_ne (ne_tk hk k13 x2)]
  have rr : ∀ c z, tr h3 c z = tr f c z := fun c z => by rw [hh3, tr_sI, hh2, tr_sI, hh1, tr_sI]; exact r3 c z
  have w12 : ∀ z, ti h3 (ad 12) z = if z = m then nI (G + 1) else ti f (ad 12) z := fun z => by
    rw [hh3, ti_sI]
    by_cases e : z = m
    · rw [if_pos ⟨rfl, e⟩, if_pos e]
    · rw [if_neg (fun h => e h.2), if_neg e, hh2, ti_sI_ne n1214, hh1, ti_sI_ne n1213, kR 12 (by decide)]
  have w13 : ∀ z, ti h3 (ad 13) z = if z = 6 * m + G then p_1 else ti f (ad 13) z := fun z => by
    rw [hh3, ti_sI_ne n1213.symm, hh2, ti_sI_ne n1314, hh1, ti_sI]
    by_cases e : z = 6 * m + G
    · rw [if_pos ⟨rfl, e⟩, if_pos e]
    · rw [if_neg (fun h => e h.2), if_neg e, kR 13 (by decide)]
  have w14 : ∀ z, ti h3 (ad 14) z = if z = 6 * m + G then p_2 else ti f (ad 14) z := fun z => by
    rw [hh3, ti_sI_ne n1214.symm, hh2, ti_sI]
    by_cases e : z = 6 * m + G
    · rw [if_pos ⟨rfl, e⟩, if_pos e]
    · rw [if_neg (fun h => e h.2), if_neg e, hh1, ti_sI_ne n1314.symm, kR 14 (by decide)]
  have s9 : ∀ z, ti h3 (ad 9) z = ti f (ad 9) z := fun z => (oo _ _ (im 9 (by decide)).2 (by decide) (by decide) (by decide) z).trans (kR 9 (by decide) z)
  have s10 : ∀ z, ti h3 (ad 10) z = ti f (ad 10) z := fun z => (oo _ _ (im 10 (by decide)).2 (by decide) (by decide) (by decide) z).trans (kR 10 (by decide) z)
  have s11 : ∀ z, ti h3 (ad 11) z = ti f (ad 11) z := fun z => (oo _ _ (im 11 (by decide)).2 (by decide) (by decide) (by decide) z).trans (kR 11 (by decide) z)
  have sM : ∀ m', m' < 40 → ∀ z, ti h3 (ad (100 + m')) z = ti f (ad (100 + m')) z := fun m' hm' z => (oo _ _ (hA.man hO m0 hm').2 (by decide) (by decide) (by decide) z).trans (o3 _ _ (hA.man hO m0 hm').2 (by decide) (by decide) (by decide) z)
  have c3 : ∀ z, ti f3 (bF m) z = if z = G then p_1 else ti f (bF m) z := fun z => by
    rw [hf3, ti_sI_ne dbc.symm, hf2, ti_sI_ne dcd, hf1, ti_sI]
    by_cases e : z = G
    · rw [if_pos ⟨rfl, e⟩, if_pos e]
    · rw [if_neg (fun h => e h.2), if_neg e]
  have d3 : ∀ z, ti f3 (bT m) z = if z = G then p_2 else ti f (bT m) z := fun z => by
    rw [hf3, ti_sI_ne dbd.symm, hf2, ti_sI]
    by_cases e : z = G
    · rw [if_pos ⟨rfl, e⟩, if_pos e]
    · rw [if_neg (fun h => e h.2), if_neg e, hf1, ti_sI_ne dcd.symm]
  refine ⟨bd, bF, bT, fun m' hm' => by rw [sM m' hm', s9]; exact a1 m' hm', fun m' hm' hs' => ?_, fun m' m'' hm' hm'' hne hs' hs'' => ?_⟩
  · rw [s9] at hs'
    by_cases e : m' = m
    · subst e
      refine ⟨(rr _ _).trans b1, (rr _ _).trans b2, (rr _ _).trans b3, ?_, ?_, G + 1, by omega, ?_, ?_, fun k hk => ?_, ?_⟩
      · rw [oo _ _ ib.2 (by decide) (by decide) (by decide), s10, hf3, ti_sI_nj (by decide), hf2, ti_sI_ne dbd, hf1, ti_sI_ne dbc]; exact b4
      · rw [oo _ _ ib.2 (by decide) (by decide) (by decide), s11, hf3, ti_sI_nj (by decide), hf2, ti_sI_ne dbd, hf1, ti_sI_ne dbc]; exact b5
      · rw [oo _ _ ib.2 (by decide) (by decide) (by decide), hf3, ti_sI_eq]
      · rw [w12, if_pos rfl]
      · rw [oo _ _ ic.2 (by decide) (by decide) (by decide), oo _ _ id'.2 (by decide) (by decide) (by decide), c3, d3]
        unfold gF gT
        rw [w13, w14]
        by_cases e : k = G
        · subst e; rw [if_pos rfl, if_pos rfl, if_pos rfl, if_pos rfl]; exact ⟨rfl, rfl⟩
        · rw [if_neg e, if_neg e, if_neg (by omega), if_neg (by omega)]; exact b9 k (by omega)
      · rw [s11]
        refine b10.add (p1 := p_1) (p2 := p_2) ?_ ?_ ?_ (fun i hi => mtG_no G 0 hz i (Nat.zero_le _) (by omega)) (fun k hk => ?_) (fun k hk => ?_) ?_ ?_
        · rw [Int32.le_iff_toInt_le] at g4; exact g4
        · rw [Int32.lt_iff_toInt_lt] at g2; omega
        · rw [Int32.le_iff_toInt_le] at g3; exact g3
        · unfold gF; rw [w13, if_neg (by omega)]
        · unfold gT; rw [w14, if_neg (by omega)]
        · unfold gF; rw [w13, if_pos rfl]
        · unfold gT; rw [w14, if_pos rfl]
    · have hb' := a2 m' hm' hs'
      obtain ⟨jb, jc, jd⟩ := bnd_m hA hO m0 hm' hb'
      obtain ⟨x1, x2, x3⟩ := a3 m' m hm' hm e hs' hs
      refine hb'.keep (rr _ _) (fun z => rr _ z) (fun z => ?_) (fun z => ?_) (fun z => ?_) (s10 _) (s11 _) ?_ (fun k hk => ?_) (fun k hk => ?_)
      · rw [oo _ _ jb.2 (by decide) (by decide) (by decide), hf3, ti_sI_ne x1, hf2, ti_sI_ne (ne_tk jb.2 id'.2 (by decide)), hf1, ti_sI_ne (ne_tk jb.2 ic.2 (by decide))]
      · rw [oo _ _ jc.2 (by decide) (by decide) (by decide), hf3, ti_sI_ne (ne_tk jc.2 ib.2 (by decide)), hf2, ti_sI_ne (ne_tk jc.2 id'.2 (by decide)), hf1, ti_sI_ne x2]
      · rw [oo _ _ jd.2 (by decide) (by decide) (by decide), hf3, ti_sI_ne (ne_tk jd.2 ib.2 (by decide)), hf2, ti_sI_ne x3, hf1, ti_sI_ne (ne_tk jd.2 ic.2 (by decide))]
      · rw [w12, if_neg e]
      · rw [w13, if_neg (by omega)]
      · rw [w14, if_neg (by omega)]
  · rw [s9] at hs' hs''
    exact a3 m' m'' hm' hm'' hne hs' hs''
end ABS
