section CNT
/-- how many of the first n -/
def cn (P : Nat → Bool) : Nat → Nat
  | 0 => 0
  | n + 1 => cn P n + (if P n = true then 1 else 0)
theorem cn_congr {P P' : Nat → Bool} : ∀ n, (∀ i, i < n → P i = P' i) → cn P n = cn P' n := by
  intro n
  induction n with
  | zero => intro _; rfl
  | succ n ih => intro h; show cn P n + _ = cn P' n + _; rw [ih (fun i hi => h i (by omega)), h n (by omega)]
theorem cn_add {P : Nat → Bool} {a : Nat} (h : P a = false) : ∀ n, cn (fun i => decide (i = a) || P i) n = cn P n + (if a < n then 1 else 0) := by
  intro n
  induction n with
  | zero => rfl
  | succ n ih =>
    show cn _ n + (if (decide (n = a) || P n) = true then 1 else 0) = cn P n + (if P n = true then 1 else 0) + (if a < n + 1 then 1 else 0)
    rw [ih]
    by_cases e : n = a
    · subst e
      rw [if_neg (Nat.lt_irrefl n), if_pos (by simp), h, if_neg (by simp), if_pos (by omega)]
    · have : (decide (n = a) || P n) = P n := by simp [e]
      rw [this]
      by_cases g : a < n
      · rw [if_pos g, if_pos (show a < n + 1 by omega)]; omega
      · rw [if_neg g, if_neg (show ¬ a < n + 1 by omega)]; omega
theorem cn_mem {n : Nat} : ∀ l : List Nat, l.Nodup → (∀ x, x ∈ l → x < n) → cn (fun i => decide (i ∈ l)) n = l.length := by
  intro l
  induction l with
  | nil =>
    intro _ _
    have : ∀ n, cn (fun i => decide (i ∈ ([] : List Nat))) n = 0 := by
      intro n
      induction n with
      | zero => rfl
      | succ n ih => show cn _ n + _ = 0; rw [ih]; simp
    exact this n
  | cons a l ih =>
    intro hn hb
    rw [List.nodup_cons] at hn
    have := cn_add (P := fun i => decide (i ∈ l)) (a := a) (by simpa using hn.1) n
    rw [ih hn.2 (fun x hx => hb x (List.mem_cons_of_mem _ hx)), if_pos (hb a List.mem_cons_self)] at this
    rw [List.length_cons, ← this]
    refine cn_congr n (fun i _ => ?_)
    show decide (i ∈ a :: l) = (decide (i = a) || decide (i ∈ l))
    by_cases e : i = a
    · simp [e]
    · by_cases e' : i ∈ l <;> simp [e, e']
theorem mem_getD {l : List Nat} {m : Nat} : m ∈ l ↔ ∃ k, k < l.length ∧ l.getD k 0 = m := by
  rw [List.mem_iff_getElem]
  constructor
  · rintro ⟨k, hk, e⟩
    exact ⟨k, hk, by rw [List.getD_eq_getElem?_getD, List.getElem?_eq_getElem hk]; exact e⟩
  · rintro ⟨k, hk, e⟩
    refine ⟨k, hk, ?_⟩
    rw [List.getD_eq_getElem?_getD, List.getElem?_eq_getElem hk] at e
    exact e
theorem getD_erase {l : List Nat} {k i : Nat} : (l.eraseIdx k).getD i 0 = if i < k then l.getD i 0 else l.getD (i + 1) 0 := by
  rw [List.getD_eq_getElem?_getD, List.getElem?_eraseIdx]
  split
  · rw [List.getD_eq_getElem?_getD]
  · rw [List.getD_eq_getElem?_getD]
end CNT
section TRN
variable {L : List Nat} {f : TF} {q0 q1 : Nat} {ad : Nat → Nat} {N : Nat} {ql : Nat → List Nat}
/-- the program's turns -/
def TX (f : TF) (ad : Nat → Nat) (ql : Nat → List Nat) : Prop := (∀ s, s < 12 → ∀ m, m ∈ ql s → m < 40 ∧ ti f (ad (100 + m)) 2 = nI s) ∧ (∀ m, m < 40 → ti f (ad (100 + m)) 2 = -1 ∨ ∃ s, s < 12 ∧ m ∈ ql s) ∧ ∀ s, s < 12 → ∀ k k', k < k' → k' < (ql s).length → ti f (ad (100 + (ql s).getD k 0)) 3 < ti f (ad (100 + (ql s).getD k' 0)) 3
/-- the reference's turns -/
def TM (f : TF) (ad : Nat → Nat) (ql : Nat → List Nat) : Prop := ∀ s, s < 12 → (ql s).length ≤ 40 ∧ ti f (ad 19) s = nI (ql s).length ∧ ∀ k, k < (ql s).length → ti f (ad 20) (40 * s + k) = nI ((ql s).getD k 0)
theorem TX.inj (h : TX f ad ql) {s k k' : Nat} (hs : s < 12) (hk : k < (ql s).length) (hk' : k' < (ql s).length) (e : (ql s).getD k 0 = (ql s).getD k' 0) : k = k' := by
  rcases Nat.lt_trichotomy k k' with g | g | g
  · have := h.2.2 s hs k k' g hk'
    rw [e, Int32.lt_iff_toInt_lt] at this
    omega
  · exact g
  · have := h.2.2 s hs k' k g hk
    rw [e, Int32.lt_iff_toInt_lt] at this
    omega
theorem TX.nodup (h : TX f ad ql) {s : Nat} (hs : s < 12) : (ql s).Nodup := by
  rw [List.nodup_iff_pairwise_ne, List.pairwise_iff_getElem]
  intro i j hi hj hij e
  have := h.inj hs hi hj (by rw [List.getD_eq_getElem?_getD, List.getD_eq_getElem?_getD, List.getElem?_eq_getElem hi, List.getElem?_eq_getElem hj]; exact e)
  omega
theorem TX.one (h : TX f ad ql) {s s' m : Nat} (hs : s < 12) (hs' : s' < 12) (hm : m ∈ ql s) (hm' : m ∈ ql s') : s = s' := by
  have e := (h.1 s hs m hm).2.symm.trans (h.1 s' hs' m hm').2
  rw [nI_eq (by omega) (by omega)] at e
  exact e
theorem m1_nI {s : Nat} (h : s < 2147483648) : ¬ nI s = -1 := by
  intro e
  have := nI_pos (n := s) (by omega)
  rw [e] at this
  exact this (by decide)
theorem TX.at (h : TX f ad ql) {s m : Nat} (hs : s < 12) (hm : m < 40) (e : ti f (ad (100 + m)) 2 = nI s) : m ∈ ql s := by
  rcases h.2.1 m hm with g | ⟨s', hs', g⟩
  · rw [g] at e; exact absurd e.symm (m1_nI (by omega))
  · have e' := (h.1 s' hs' m g).2
    rw [e', nI_eq (by omega) (by omega)] at e
    exact e ▸ g
/-- the place in the turns -/
theorem pit_x {s k m : Nat} {Q : Int32 → Prop} (hA : Ad f q0 q1 ad) (h : TX f ad ql) (hs : s < 12) (hk : k < (ql s).length) (hm : (ql s).getD k 0 = m) (hq : Q (nI k)) : wp_WM_placeInTurns_w L f q0 (ad (100 + m)) Q := by
  have hmm : m ∈ ql s := mem_getD.mpr ⟨k, hk, hm⟩
  intro x1 e1
  rw [(h.1 s hs m hmm).2] at e1
  subst e1
  refine ⟨fun e => absurd e (m1_nI (by omega)), fun _ => ?_⟩
  have hP : cn (fun i => decide (ti f (ad (100 + i)) 2 = nI s) && decide (ti f (ad (100 + i)) 3 < ti f (ad (100 + m)) 3)) 40 = k := by
    have hl : ((ql s).take k).length = k := by rw [List.length_take]; omega
    have hsub : ∀ x, x ∈ (ql s).take k → x ∈ ql s := fun x hx => List.mem_of_mem_take hx
    have := cn_mem (n := 40) ((ql s).take k) (List.Nodup.sublist (List.take_sublist k _) (h.nodup hs)) (fun x hx => (h.1 s hs x (hsub x hx)).1)
    rw [hl] at this
    refine (cn_congr 40 (fun i hi => ?_)).trans this
    have hg : ∀ j, j < k → ((ql s).take k).getD j 0 = (ql s).getD j 0 := fun j hj => by rw [List.getD_eq_getElem?_getD, List.getElem?_take, if_pos hj, List.getD_eq_getElem?_getD]
    show (decide (ti f (ad (100 + i)) 2 = nI s) && decide (ti f (ad (100 + i)) 3 < ti f (ad (100 + m)) 3)) = decide (i ∈ (ql s).take k)
    rw [Bool.eq_iff_iff, Bool.and_eq_true, decide_eq_true_iff, decide_eq_true_iff, decide_eq_true_iff]
    constructor
    · rintro ⟨g1, g2⟩
      obtain ⟨k', hk', e'⟩ := mem_getD.mp (h.at hs hi g1)
      have hlt : k' < k := by
        rcases Nat.lt_trichotomy k' k with g | g | g
        · exact g
        · subst g; rw [← e', hm, Int32.lt_iff_toInt_lt] at g2; omega
        · have := h.2.2 s hs k k' g hk'
          rw [e', hm] at this
          rw [Int32.lt_iff_toInt_lt] at this g2
          omega
      exact mem_getD.mpr ⟨k', by rw [hl]; exact hlt, (hg k' hlt).trans e'⟩
    · intro g
      obtain ⟨k', hk', e'⟩ := mem_getD.mp g
      rw [hl] at hk'
      rw [hg k' hk'] at e'
      refine ⟨(h.1 s hs i (hsub i g)).2, ?_⟩
      have := h.2.2 s hs k' k hk' hk
      rw [e', hm] at this
      exact this
  generalize hPP : (fun i => decide (ti f (ad (100 + i)) 2 = nI s) && decide (ti f (ad (100 + i)) 3 < ti f (ad (100 + m)) 3)) = P at hP
  have hPi : ∀ i, P i = (decide (ti f (ad (100 + i)) 2 = nI s) && decide (ti f (ad (100 + i)) 3 < ti f (ad (100 + m)) 3)) := fun i => by rw [← hPP]
  have hstep : ∀ (rc : Int32 → Int32 → Prop) (i : Nat), i ≤ 40 → (i < 40 → rc (nI (cn P (i + 1))) (nI (i + 1))) → wpB_WM_placeInTurns_w_14_3 L f q0 (ad (100 + m)) (nI s) Q rc (nI (cn P i)) (nI i) := by
    intro rc i hi hrec
    refine ⟨fun g => ?_, fun g q5 e5 => ?_⟩
    · rw [show (40 : Int32) = nI 40 from rfl, nI_leI (by decide) (by omega)] at g
      have : i = 40 := by omega
      subst this
      rw [hP]; exact hq
    · rw [show (40 : Int32) = nI 40 from rfl, nI_leI (by decide) (by omega)] at g
      have hlt : i < 40 := by omega
      have hr := hrec hlt
      have hcs : cn P (i + 1) = cn P i + (if P i = true then 1 else 0) := rfl
      rw [hA.1.2.1] at e5; cases e5
      rw [nI_clamp (by omega), hA.2.1 i hlt, nI_1]
      refine ⟨fun z => (by cases z), fun q6 e6 x7 e7 => ?_⟩
      cases e6
      subst e7
      refine ⟨fun g1 x9 e9 x10 e10 => ?_, fun g1 => ?_⟩
      · subst e9 e10
        refine ⟨fun g2 => ?_, fun g2 => ?_⟩
        · have : P i = false := by
            rw [hPi, decide_eq_true g1, Bool.true_and]
            exact decide_eq_false (by rw [Int32.le_iff_toInt_le] at g2; rw [Int32.lt_iff_toInt_lt]; omega)
          rw [hcs, this, if_neg (by simp), Nat.add_zero] at hr
          exact hr
        · have : P i = true := by
            rw [hPi, decide_eq_true g1, Bool.true_and]
            exact decide_eq_true (by rw [Int32.le_iff_toInt_le] at g2; rw [Int32.lt_iff_toInt_lt]; omega)
          rw [hcs, this, if_pos rfl] at hr
          rw [nI_1]
          exact hr
      · have : P i = false := by rw [hPi, decide_eq_false g1, Bool.false_and]
        rw [hcs, this, if_neg (by simp), Nat.add_zero] at hr
        exact hr
  have hloop : ∀ (n i : Nat), i ≤ 40 → wpL_WM_placeInTurns_w_14_3 L f q0 (ad (100 + m)) (nI s) Q n (nI (cn P i)) (nI i) := by
    intro n
    induction n with
    | zero => intro i c1; exact hstep (fun _ _ => True) i c1 (fun _ => trivial)
    | succ n ih => intro i c1; exact hstep _ i c1 (fun d1 => ih _ (by omega))
  exact hloop _ 0 (by omega)
theorem pit_n {m : Nat} {Q : Int32 → Prop} (e : ti f (ad (100 + m)) 2 = -1) (hq : Q (-1)) : wp_WM_placeInTurns_w L f q0 (ad (100 + m)) Q := by
  intro x1 e1
  rw [e] at e1
  subst e1
  exact ⟨fun _ => hq, fun k => absurd rfl k⟩
/-- some man has a turn at s -/
theorem ht_x {s : Nat} {Q : Int32 → Prop} (hA : Ad f q0 q1 ad) (h : TX f ad ql) (hs : s < 12) (h1 : ql s ≠ [] → Q 1) (h0 : ql s = [] → Q 0) : wp_WM_hasTurns_w L f q0 (nI s) Q := by
  have hstep : ∀ (rc : Int32 → Prop) (i : Nat), i ≤ 40 → (∀ i', i' < i → i' ∉ ql s) → (i < 40 → (∀ i', i' < i + 1 → i' ∉ ql s) → rc (nI (i + 1))) → wpB_WM_hasTurns_w_2_1 L f q0 (nI s) Q rc (nI i) := by
    intro rc i hi hno hrec
    refine ⟨fun g => ?_, fun g q5 e5 => ?_⟩
    · rw [show (40 : Int32) = nI 40 from rfl, nI_leI (by decide) (by omega)] at g
      refine h0 (List.eq_nil_iff_forall_not_mem.mpr (fun x hx => hno x ?_ hx))
      have := (h.1 s hs x hx).1
      omega
    · rw [show (40 : Int32) = nI 40 from rfl, nI_leI (by decide) (by omega)] at g
      have hlt : i < 40 := by omega
      rw [hA.1.2.1] at e5; cases e5
      rw [nI_clamp (by omega), hA.2.1 i hlt, nI_1]
      refine ⟨fun z => (by cases z), fun q6 e6 x7 e7 => ?_⟩
      cases e6
      subst e7
      refine ⟨fun g1 => h1 (fun e => ?_), fun g1 => hrec hlt (fun i' hi' hx => ?_)⟩
      · have := h.at hs hlt g1
        rw [e] at this
        cases this
      · by_cases e : i' = i
        · subst e; exact g1 (h.1 s hs _ hx).2
        · exact hno i' (by omega) hx
  have hloop : ∀ (n i : Nat), i ≤ 40 → (∀ i', i' < i → i' ∉ ql s) → wpL_WM_hasTurns_w_2_1 L f q0 (nI s) Q n (nI i) := by
    intro n
    induction n with
    | zero => intro i c1 c2; exact hstep (fun _ => True) i c1 c2 (fun _ _ => trivial)
    | succ n ih => intro i c1 c2; exact hstep _ i c1 c2 (fun d1 d2 => ih _ (by omega) d2)
  exact hloop _ 0 (by omega) (fun i' h => absurd h (by omega))
theorem ix40n (s k : Nat) : (40 : Int32) * nI s + nI k = nI (40 * s + k) := by rw [show (40 : Int32) = nI 40 from rfl, pk_mul, nI_add]
/-- the reference finds the stairs at which m waits -/
theorem rowOf_m {m : Nat} {Q : Int32 → Prop} (hA : Ad f q0 q1 ad) (hT : TM f ad ql) (hb : ∀ s, s < 12 → ∀ x, x ∈ ql s → x < 40) (hN : ti f q1 2 = nI N) (hN2 : N ≤ 12) (hm : m < 40) (h0 : (∀ s, s < N → m ∉ ql s) → Q (-1)) (h1 : ∀ s, s < N → m ∈ ql s → Q (nI s)) : wp_Md_rowOf_w L f q1 (nI m) Q := by
  intro qT eT qS eS
  rw [hA.2.2.2 20 (by decide)] at eT; cases eT
  rw [hA.2.2.2 19 (by decide)] at eS; cases eS
  have hin : ∀ (s : Nat) (rc : Int32 → Prop), s < N → (m ∉ ql s → rc (nI (s + 1))) → ∀ (n k : Nat), k ≤ (ql s).length → (∀ k', k' < k → (ql s).getD k' 0 ≠ m) → wpL_Md_rowOf_w_12_4 L f q1 (nI m) (ad 20) (ad 19) (nI s) rc Q n (nI k) := by
    intro s rc hs hrc
    obtain ⟨t1, t2, t3⟩ := hT s (by omega)
    have hstep : ∀ (rc4 : Int32 → Prop) (k : Nat), k ≤ (ql s).length → (∀ k', k' < k → (ql s).getD k' 0 ≠ m) → (k < (ql s).length → (∀ k', k' < k + 1 → (ql s).getD k' 0 ≠ m) → rc4 (nI (k + 1))) → wpB_Md_rowOf_w_12_4 L f q1 (nI m) (ad 20) (ad 19) (nI s) rc Q rc4 (nI k) := by
      intro rc4 k hk hno hrec x5 e5
      rw [nI_clamp (by omega), t2] at e5
      subst e5
      rw [nI_1, nI_1]
      refine ⟨fun g => ?_, fun g x7 e7 => ?_⟩
      · rw [nI_leI (by omega) (by omega)] at g
        refine hrc (fun hx => ?_)
        obtain ⟨k', hk', e'⟩ := mem_getD.mp hx
        exact hno k' (by omega) e'
      · rw [nI_leI (by omega) (by omega)] at g
        have hlt : k < (ql s).length := by omega
        rw [ix40n, nI_clamp (by omega), t3 k hlt] at e7
        subst e7
        have hmem : (ql s).getD k 0 ∈ ql s := mem_getD.mpr ⟨k, hlt, rfl⟩
        have hx40 := hb s (by omega) _ hmem
        refine ⟨fun e => ?_, fun e => hrec hlt (fun k' hk' => ?_)⟩
        · rw [nI_eq (by omega) (by omega)] at e
          exact h1 s hs (e ▸ hmem)
        · by_cases e' : k' = k
          · subst e'
            intro e2
            exact e (by rw [e2])
          · exact hno k' (by omega)
    intro n
    induction n with
    | zero => intro k c1 c2; exact hstep (fun _ => True) k c1 c2 (fun _ _ => trivial)
    | succ n ih => intro k c1 c2; exact hstep _ k c1 c2 (fun d1 d2 => ih _ (by omega) d2)
  have hstep : ∀ (rc : Int32 → Prop) (s : Nat), s ≤ N → (∀ s', s' < s → m ∉ ql s') → (s < N → (∀ s', s' < s + 1 → m ∉ ql s') → rc (nI (s + 1))) → wpB_Md_rowOf_w_2_2 L f q1 (nI m) (ad 20) (ad 19) Q rc (nI s) := by
    intro rc s hs hno hrec
    unfold wpB_Md_rowOf_w_2_2
    rw [hN]
    refine ⟨fun g => ?_, fun g => ?_⟩
    · rw [nI_leI (by omega) (by omega)] at g
      exact h0 (fun s' hs' => hno s' (by omega))
    · rw [nI_leI (by omega) (by omega)] at g
      refine hin s rc (by omega) (fun hx => hrec (by omega) (fun s' hs' => ?_)) _ 0 (Nat.zero_le _) (fun k' h => absurd h (by omega))
      by_cases e : s' = s
      · subst e; exact hx
      · exact hno s' (by omega)
  have hloop : ∀ (n s : Nat), s ≤ N → (∀ s', s' < s → m ∉ ql s') → wpL_Md_rowOf_w_2_2 L f q1 (nI m) (ad 20) (ad 19) Q n (nI s) := by
    intro n
    induction n with
    | zero => intro s c1 c2; exact hstep (fun _ => True) s c1 c2 (fun _ _ => trivial)
    | succ n ih => intro s c1 c2; exact hstep _ s c1 c2 (fun d1 d2 => ih _ (by omega) d2)
  exact hloop _ 0 (Nat.zero_le _) (fun s' h => absurd h (by omega))
theorem placeOf_m {m : Nat} {Q : Int32 → Prop} (hA : Ad f q0 q1 ad) (hT : TM f ad ql) (hb : ∀ s, s < 12 → ∀ x, x ∈ ql s → x < 40) (hN : ti f q1 2 = nI N) (hN2 : N ≤ 12) (hm : m < 40) (h0 : (∀ s, s < N → m ∉ ql s) → Q (-1)) (h1 : ∀ s k, s < N → k < (ql s).length → (ql s).getD k 0 = m → Q (nI k)) : wp_Md_placeOf_w L f q1 (nI m) Q := by
  intro qT eT qS eS
  rw [hA.2.2.2 20 (by decide)] at eT; cases eT
  rw [hA.2.2.2 19 (by decide)] at eS; cases eS
  refine rowOf_m hA hT hb hN hN2 hm (fun h => ⟨fun _ => h0 h, fun k => absurd rfl k⟩) (fun s hs hx => ⟨fun e => absurd e (m1_nI (by omega)), fun _ => ?_⟩)
  obtain ⟨t1, t2, t3⟩ := hT s (by omega)
  obtain ⟨K, hK, eK⟩ := mem_getD.mp hx
  have hstep : ∀ (rc : Int32 → Prop) (k : Nat), k ≤ K → (k < K → rc (nI (k + 1))) → wpB_Md_placeOf_w_8_8 L f q1 (nI m) (ad 20) (ad 19) (nI s) Q rc (nI k) := by
    intro rc k hk hrec x9 e9
    rw [ix40n, nI_clamp (by omega), t3 k (by omega)] at e9
    subst e9
    have hmem : (ql s).getD k 0 ∈ ql s := mem_getD.mpr ⟨k, by omega, rfl⟩
    have hx40 := hb s (by omega) _ hmem
    rw [nI_1]
    refine ⟨fun e => ?_, fun e => ?_⟩
    · rw [nI_eq (by omega) (by omega)] at e
      exact h1 s k hs (by omega) e
    · refine hrec (Nat.lt_of_le_of_ne hk (fun e' => ?_))
      subst e'
      exact e (by rw [eK])
  have hloop : ∀ (n k : Nat), k ≤ K → wpL_Md_placeOf_w_8_8 L f q1 (nI m) (ad 20) (ad 19) (nI s) Q n (nI k) := by
    intro n
    induction n with
    | zero => intro k c1; exact hstep (fun _ => True) k c1 (fun _ => trivial)
    | succ n ih => intro k c1; exact hstep _ k c1 (fun d1 => ih _ (by omega))
  exact hloop _ 0 (Nat.zero_le _)
end TRN
