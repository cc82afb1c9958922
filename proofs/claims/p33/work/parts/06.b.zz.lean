theorem fb_holes : ∀ (m n : Nat) (f : Nat → Nat), (∀ i, i < n → f i < m) → (∀ i j, i < j → j < n → f i ≠ f j) → n ≤ m := by
  intro m
  induction m with
  | zero =>
    intro n f h1 _
    rcases Nat.eq_zero_or_pos n with h | h
    · omega
    · exact absurd (h1 0 h) (Nat.not_lt_zero _)
  | succ m ih =>
    intro n f h1 h2
    by_cases hx : ∃ i, i < n ∧ f i = m
    · obtain ⟨a, ha, hfa⟩ := hx
      have hg := ih (n - 1) (fun i => if i < a then f i else f (i + 1)) (by
        intro i hi
        by_cases q : i < a
        · simp only [if_pos q]
          have b1 := h1 i (by omega)
          have b2 := h2 i a q ha
          omega
        · simp only [if_neg q]
          have b1 := h1 (i + 1) (by omega)
          have b2 := h2 a (i + 1) (by omega) (by omega)
          omega) (by
        intro i j hij hj
        by_cases q : i < a
        · by_cases r : j < a
          · simp only [if_pos q, if_pos r]
            exact h2 i j hij (by omega)
          · simp only [if_pos q, if_neg r]
            exact h2 i (j + 1) (by omega) (by omega)
        · have r : ¬ j < a := by omega
          simp only [if_neg q, if_neg r]
          exact h2 (i + 1) (j + 1) (by omega) (by omega))
      omega
    · have hg := ih n f (fun i hi => by
        have b1 := h1 i hi
        have b2 : f i ≠ m := fun e => hx ⟨i, hi, e⟩
        omega) h2
      omega

def NotIn (f : TF) (q0 : Nat) (st m : Int32) : Prop := ∀ qT qS : Nat, tr f q0 20 = some qT → tr f q0 19 = some qS → ∀ s j : Nat, (s : Int) < st.toInt → j < (ti f qS s).toNatClampNeg → ti f qT (40 * s + j) ≠ m
def IsIn (f : TF) (q0 : Nat) (r m : Int32) : Prop := ∀ qT qS : Nat, tr f q0 20 = some qT → tr f q0 19 = some qS → ∃ j : Nat, j < (ti f qS r.toNatClampNeg).toNatClampNeg ∧ ti f qT (40 * r.toNatClampNeg + j) = m
def TInv (f : TF) (q0 : Nat) : Prop := ∀ qT qS : Nat, tr f q0 20 = some qT → tr f q0 19 = some qS → ∀ s j k : Nat, s < 12 → j < k → k < (ti f qS s).toNatClampNeg → ti f qT (40 * s + j) ≠ ti f qT (40 * s + k)
def TOut (f : TF) (qT s : Nat) (m : Int32) (k : Nat) : Prop := ∀ j : Nat, j < k → ti f qT (40 * s + j) ≠ m
def TRows (f : TF) (qT qS : Nat) (m : Int32) (n : Nat) : Prop := ∀ s j : Nat, s < n → j < (ti f qS s).toNatClampNeg → ti f qT (40 * s + j) ≠ m
def THole (f : TF) (qT qS s k n : Nat) : Prop := (∀ s' j j' : Nat, s' < 12 → s' ≠ s → j < j' → j' < (ti f qS s').toNatClampNeg → ti f qT (40 * s' + j) ≠ ti f qT (40 * s' + j')) ∧ ∀ j j' : Nat, j < j' → j' < n → j ≠ k → j' ≠ k → ti f qT (40 * s + j) ≠ ti f qT (40 * s + j')
theorem Ok.r {L : List Nat} {f : TF} (hO : Ok L f) {a kd j : Nat} (hm : a ∈ L ∧ tk f a = kd) {k' : Nat} (hs : slotD kd j = some (.inr (.inr (k', false)))) : ∃ b, tr f a j = some b ∧ b ∈ L ∧ tk f b = k' := by
  rcases hO.q hm hs with ⟨-, h⟩ | h
  · cases h
  · exact h
theorem i32_nat {x : Int32} (h : ¬ x < 0) : (x.toNatClampNeg : Int) = x.toInt := by
  rw [Int32.lt_iff_toInt_lt] at h
  have z : (0 : Int32).toInt = 0 := by decide
  show (x.toInt.toNat : Int) = x.toInt
  omega
theorem ix40 {s k : Int32} (h1 : ¬ s < 0) (h2 : ¬ 11 < s) (h3 : ¬ k < 0) (h4 : ¬ 40 < k) : ((40 * s) + k : Int32).toNatClampNeg = 40 * s.toNatClampNeg + k.toNatClampNeg := by
  have a1 := i32_nat h1
  have a3 := i32_nat h3
  rw [Int32.lt_iff_toInt_lt] at h1 h2 h3 h4
  have z0 : (0 : Int32).toInt = 0 := by decide
  have z1 : (11 : Int32).toInt = 11 := by decide
  have z2 : (40 : Int32).toInt = 40 := by decide
  have m1 : (40 * s : Int32).toInt = 40 * s.toInt := by
    rw [fb_mulI (by rw [z2]; omega) (by rw [z2]; omega), z2]
  have m2 : (40 * s + k : Int32).toInt = 40 * s.toInt + k.toInt := by
    rw [fb_addI (by rw [m1]; omega) (by rw [m1]; omega), m1]
  have a5 := i32_nat (x := (40 * s + k : Int32)) (by rw [Int32.lt_iff_toInt_lt, m2]; omega)
  omega
theorem ix40s {s k : Int32} (h1 : ¬ s < 0) (h2 : ¬ 11 < s) (h3 : ¬ k < 0) (h4 : ¬ 39 < k) : (((40 * s) + k) + 1 : Int32).toNatClampNeg = 40 * s.toNatClampNeg + (k.toNatClampNeg + 1) := by
  have a1 := i32_nat h1
  have a3 := i32_nat h3
  rw [Int32.lt_iff_toInt_lt] at h1 h2 h3 h4
  have z0 : (0 : Int32).toInt = 0 := by decide
  have z9 : (1 : Int32).toInt = 1 := by decide
  have z1 : (11 : Int32).toInt = 11 := by decide
  have z2 : (40 : Int32).toInt = 40 := by decide
  have z3 : (39 : Int32).toInt = 39 := by decide
  have m1 : (40 * s : Int32).toInt = 40 * s.toInt := by
    rw [fb_mulI (by rw [z2]; omega) (by rw [z2]; omega), z2]
  have m2 : (40 * s + k : Int32).toInt = 40 * s.toInt + k.toInt := by
    rw [fb_addI (by rw [m1]; omega) (by rw [m1]; omega), m1]
  have m3 : (40 * s + k + 1 : Int32).toInt = 40 * s.toInt + k.toInt + 1 := by
    rw [fb_addI (by rw [m2, z9]; omega) (by rw [m2, z9]; omega), m2, z9]
  have a5 := i32_nat (x := (40 * s + k + 1 : Int32)) (by rw [Int32.lt_iff_toInt_lt, m3]; omega)
  omega
theorem nat_succ {k : Int32} (h : ¬ k < 0) (h1 : ¬ 1000 < k) : (k + 1 : Int32).toNatClampNeg = k.toNatClampNeg + 1 := by
  have a := i32_nat h
  rw [Int32.lt_iff_toInt_lt] at h h1
  have z0 : (0 : Int32).toInt = 0 := by decide
  have z1 : (1 : Int32).toInt = 1 := by decide
  have z2 : (1000 : Int32).toInt = 1000 := by decide
  have m : (k + 1 : Int32).toInt = k.toInt + 1 := by rw [fb_addI (by rw [z1]; omega) (by rw [z1]; omega), z1]
  have a5 := i32_nat (x := (k + 1 : Int32)) (by rw [Int32.lt_iff_toInt_lt, m]; omega)
  omega
theorem out_0 {f : TF} {qT s : Nat} {m : Int32} : TOut f qT s m (0 : Int32).toNatClampNeg := fun j h => absurd h (by rw [show (0 : Int32).toNatClampNeg = 0 from by decide]; omega)
theorem rows_0 {f : TF} {qT qS : Nat} {m : Int32} : TRows f qT qS m (0 : Int32).toNatClampNeg := fun s j h => absurd h (by rw [show (0 : Int32).toNatClampNeg = 0 from by decide]; omega)
theorem out_next {f : TF} {qT : Nat} {m s k x : Int32} (h : TOut f qT s.toNatClampNeg m k.toNatClampNeg) (h1 : ¬ s < 0) (h2 : ¬ 11 < s) (h3 : ¬ k < 0) (h4 : ¬ 40 < k) (e : ti f qT ((40 * s) + k : Int32).toNatClampNeg = x) (hx : ¬ x = m) : TOut f qT s.toNatClampNeg m (k + 1 : Int32).toNatClampNeg := by
  intro j hj
  rw [nat_succ h3 (by rw [Int32.lt_iff_toInt_lt] at h4 ⊢; have z2 : (1000 : Int32).toInt = 1000 := (by decide); have z3 : (40 : Int32).toInt = 40 := (by decide); omega)] at hj
  by_cases hjk : j = k.toNatClampNeg
  · rw [ix40 h1 h2 h3 h4, ← hjk] at e
    rw [e]; exact hx
  · exact h j (by omega)
theorem rows_next {f : TF} {qT qS : Nat} {m s k x : Int32} (h : TRows f qT qS m s.toNatClampNeg) (ho : TOut f qT s.toNatClampNeg m k.toNatClampNeg) (h1 : ¬ s < 0) (h2 : ¬ 11 < s) (h3 : ¬ k < 0) (hb : ¬ x < 0) (e : ti f qS s.toNatClampNeg = x) (hx : x ≤ k) : TRows f qT qS m (s + 1 : Int32).toNatClampNeg := by
  intro s' j hs hj
  rw [nat_succ h1 (by rw [Int32.lt_iff_toInt_lt] at h2 ⊢; have z2 : (1000 : Int32).toInt = 1000 := (by decide); have z3 : (11 : Int32).toInt = 11 := (by decide); omega)] at hs
  by_cases hss : s' = s.toNatClampNeg
  · subst hss
    rw [e] at hj
    have a1 := i32_nat h3
    have a2 := i32_nat hb
    rw [Int32.le_iff_toInt_le] at hx
    exact ho j (by omega)
  · exact h s' j (by omega) hj
theorem notin_end {f : TF} {q0 qT qS : Nat} {m s x : Int32} (eT : tr f q0 20 = some qT) (eS : tr f q0 19 = some qS) (h : TRows f qT qS m s.toNatClampNeg) (h1 : ¬ s < 0) (hx : x ≤ s) : NotIn f q0 x m := by
  intro qT' qS' eT' eS' s' j hs hj
  rw [eT] at eT'; cases eT'
  rw [eS] at eS'; cases eS'
  have a1 := i32_nat h1
  rw [Int32.le_iff_toInt_le] at hx
  exact h s' j (by omega) hj
theorem isin_end {f : TF} {q0 qT qS : Nat} {m s k x y : Int32} (eT : tr f q0 20 = some qT) (eS : tr f q0 19 = some qS) (h1 : ¬ s < 0) (h2 : ¬ 11 < s) (h3 : ¬ k < 0) (h4 : ¬ 40 < k) (e : ti f qS s.toNatClampNeg = x) (hx : ¬ x ≤ k) (e2 : ti f qT ((40 * s) + k : Int32).toNatClampNeg = y) (hy : y = m) : IsIn f q0 s m := by
  intro qT' qS' eT' eS'
  rw [eT] at eT'; cases eT'
  rw [eS] at eS'; cases eS'
  refine ⟨k.toNatClampNeg, ?_, ?_⟩
  · rw [e]
    have a1 := i32_nat h3
    rw [Int32.le_iff_toInt_le] at hx
    have hx0 : ¬ x < 0 := by
      rw [Int32.lt_iff_toInt_lt] at h3 ⊢
      have z0 : (0 : Int32).toInt = 0 := by decide
      omega
    have a2 := i32_nat hx0
    omega
  · rw [ix40 h1 h2 h3 h4] at e2
    rw [e2]; exact hy
theorem notin_isin {f : TF} {q0 qT qS : Nat} {m r st : Int32} (eT : tr f q0 20 = some qT) (eS : tr f q0 19 = some qS) (hn : NotIn f q0 st m) (hi : IsIn f q0 r m) (h0 : ¬ r < 0) (h : ¬ st ≤ r) : False := by
  obtain ⟨j, hj, e⟩ := hi qT qS eT eS
  have a1 := i32_nat h0
  rw [Int32.le_iff_toInt_le] at h
  exact hn qT qS eT eS r.toNatClampNeg j (by omega) hj e
theorem isin_pos {f : TF} {q0 qT qS : Nat} {m r x : Int32} (eT : tr f q0 20 = some qT) (eS : tr f q0 19 = some qS) (hi : IsIn f q0 r m) (e : ti f qS r.toNatClampNeg = x) (hx : ¬ x < 0) : ¬ x < 1 := by
  obtain ⟨j, hj, -⟩ := hi qT qS eT eS
  rw [e] at hj
  have a1 := i32_nat hx
  rw [Int32.lt_iff_toInt_lt]
  have z1 : (1 : Int32).toInt = 1 := by decide
  omega
def TAt (f : TF) (qT : Nat) (r m k : Int32) : Prop := ∃ j : Nat, k.toInt ≤ (j : Int) ∧ j ≤ 39 ∧ ti f qT (40 * r.toNatClampNeg + j) = m
theorem at_start {f : TF} {q0 qT qS : Nat} {m r : Int32} (eT : tr f q0 20 = some qT) (eS : tr f q0 19 = some qS) (hi : IsIn f q0 r m) (hx : ¬ ti f qS r.toNatClampNeg < 0 ∧ ¬ 40 < ti f qS r.toNatClampNeg) : TAt f qT r m 0 := by
  obtain ⟨j, hj, e⟩ := hi qT qS eT eS
  have a1 := i32_nat hx.1
  have h2 := hx.2
  rw [Int32.lt_iff_toInt_lt] at h2
  have z0 : (0 : Int32).toInt = 0 := by decide
  have z1 : (40 : Int32).toInt = 40 := by decide
  exact ⟨j, by omega, by omega, e⟩
theorem at_le {f : TF} {qT : Nat} {m r k : Int32} (h : TAt f qT r m k) : ¬ 39 < k := by
  obtain ⟨j, h1, h2, -⟩ := h
  rw [Int32.lt_iff_toInt_lt]
  have z1 : (39 : Int32).toInt = 39 := by decide
  omega
theorem at_next {f : TF} {qT : Nat} {m r k x : Int32} (h : TAt f qT r m k) (h1 : ¬ r < 0) (h2 : ¬ 11 < r) (h3 : ¬ k < 0) (e : ti f qT ((40 * r) + k : Int32).toNatClampNeg = x) (hx : ¬ x = m) : TAt f qT r m (k + 1) := by
  have h4 := at_le h
  obtain ⟨j, g1, g2, g3⟩ := h
  have a1 := i32_nat h3
  rw [ix40 h1 h2 h3 (by rw [Int32.lt_iff_toInt_lt] at h4 ⊢; have z1 : (39 : Int32).toInt = 39 := (by decide); have z2 : (40 : Int32).toInt = 40 := (by decide); omega)] at e
  have hj : j ≠ k.toNatClampNeg := by
    intro hh
    rw [← hh, g3] at e
    exact hx e.symm
  have z1 : (1 : Int32).toInt = 1 := by decide
  have m1 : (k + 1 : Int32).toInt = k.toInt + 1 := by
    have := fb_rng k
    rw [fb_addI (by rw [z1]; omega) (by rw [z1]; omega), z1]
  exact ⟨j, by omega, g2, g3⟩
theorem TInv.ext {W : List (Nat × Nat)} {L L1 : List Nat} {f f1 : TF} {q0 : Nat} (h : TInv f q0) (hO : Ok L f) (hm : q0 ∈ L ∧ tk f q0 = 27) (hE : Ext W L f L1 f1) (hT : W.all (fun p => p.1 != 44 && p.1 != 43 && (p.1 != 27 || (p.2 != 20 && p.2 != 19 && p.2 != 1000))) = true) : TInv f1 q0 := by
  have key : ∀ k j, (k = 44 ∨ k = 43 ∨ (k = 27 ∧ (j = 20 ∨ j = 19))) → wr W k j = false := by
    intro k j hk
    unfold wr
    rw [List.any_eq_false]
    intro p hp
    have h1 := List.all_eq_true.mp hT p hp
    simp only [Bool.and_eq_true, Bool.or_eq_true, bne_iff_ne, ne_eq] at h1
    simp only [Bool.and_eq_true, Bool.or_eq_true, beq_iff_eq, not_and, not_or]
    intro hpk
    rcases hk with rfl | rfl | ⟨rfl, hj⟩
    · exact absurd hpk h1.1.1
    · exact absurd hpk h1.1.2
    · rcases h1.2 with h2 | h2
      · exact absurd hpk h2
      · rcases hj with rfl | rfl
        · exact ⟨h2.1.1, h2.2⟩
        · exact ⟨h2.1.2, h2.2⟩
  obtain ⟨qT, eT, mT⟩ := hO.r hm (j := 20) (k' := 44) rfl
  obtain ⟨qS, eS, mS⟩ := hO.r hm (j := 19) (k' := 43) rfl
  intro qT' qS' eT' eS' s j k hs hjk hk
  rw [hE.er hm (key _ _ (by simp)), eT] at eT'; cases eT'
  rw [hE.er hm (key _ _ (by simp)), eS] at eS'; cases eS'
  rw [hE.ei mS (key _ _ (by simp))] at hk
  rw [hE.ei mT (key _ _ (by simp)), hE.ei mT (key _ _ (by simp))]
  exact h qT qS eT eS s j k hs hjk hk
theorem join_room {L : List Nat} {f : TF} {q0 qT qS : Nat} {s m st x : Int32} (hO : Ok L f) (mT : qT ∈ L ∧ tk f qT = 44) (eT : tr f q0 20 = some qT) (eS : tr f q0 19 = some qS) (ht : TInv f q0) (hn : NotIn f q0 st m) (h0 : ¬ s < 0) (h11 : ¬ 11 < s) (hst : ¬ st ≤ s) (hm0 : ¬ m < 0) (hm1 : ¬ 39 < m) (e : ti f qS s.toNatClampNeg = x) (hx0 : ¬ x < 0) (hx1 : ¬ 40 < x) : ¬ 39 < x := by
  intro hx
  have a0 := i32_nat h0
  have a1 := i32_nat hx0
  have am := i32_nat hm0
  rw [Int32.lt_iff_toInt_lt] at h11 hx1 hx hm1
  rw [Int32.le_iff_toInt_le] at hst
  have z1 : (11 : Int32).toInt = 11 := by decide
  have z2 : (40 : Int32).toInt = 40 := by decide
  have z3 : (39 : Int32).toInt = 39 := by decide
  have hx40 : x.toNatClampNeg = 40 := by omega
  have hcell : ∀ j : Nat, j < 40 → ¬ ti f qT (40 * s.toNatClampNeg + j) < 0 ∧ ¬ 39 < ti f qT (40 * s.toNatClampNeg + j) := fun j hj => hO.i mT (slot_arr (n := 480) rfl (by omega))
  have := fb_holes 40 41 (fun j => if j < 40 then (ti f qT (40 * s.toNatClampNeg + j)).toNatClampNeg else m.toNatClampNeg) (by
      intro j hj
      (try simp only)
      split
      · next hj40 =>
        have h1 := hcell j hj40
        have h2 := i32_nat h1.1
        have h3 := h1.2
        rw [Int32.lt_iff_toInt_lt] at h3
        omega
      · omega) (by
      intro i j hij hj
      (try simp only)
      have hi40 : i < 40 := by omega
      rw [if_pos hi40]
      have hi := hcell i hi40
      have hi2 := i32_nat hi.1
      split
      · next hj40 =>
        have hjc := hcell j hj40
        have hj2 := i32_nat hjc.1
        intro hh
        refine ht qT qS eT eS s.toNatClampNeg i j (by omega) hij (by rw [e, hx40]; exact hj40) ?_
        rw [← Int32.toInt_inj]; omega
      · intro hh
        refine hn qT qS eT eS s.toNatClampNeg i (by omega) (by rw [e, hx40]; exact hi40) ?_
        rw [← Int32.toInt_inj]; omega)
  omega
theorem tinv_join {f f1 f2 : TF} {q0 qT qS : Nat} {s m st x : Int32} (eT : tr f q0 20 = some qT) (eS : tr f q0 19 = some qS) (eT2 : tr f2 q0 20 = some qT) (eS2 : tr f2 q0 19 = some qS) (ht : TInv f q0) (hn : NotIn f q0 st m) (h0 : ¬ s < 0) (h11 : ¬ 11 < s) (hst : ¬ st ≤ s) (e : ti f qS s.toNatClampNeg = x) (hx0 : ¬ x < 0) (hx1 : ¬ 39 < x) (w1 : ti f1 qT ((40 * s) + x : Int32).toNatClampNeg = m) (o1 : ∀ j, j ≠ ((40 * s) + x : Int32).toNatClampNeg → ti f1 qT j = ti f qT j) (k1 : ∀ j, ti f2 qT j = ti f1 qT j) (w2 : ti f2 qS s.toNatClampNeg = (x + 1)) (o2 : ∀ j, j ≠ s.toNatClampNeg → ti f2 qS j = ti f1 qS j) (k2 : ∀ j, ti f1 qS j = ti f qS j) (hc : ∀ s' : Nat, s' < 12 → (ti f qS s').toNatClampNeg ≤ 40) : TInv f2 q0 := by
  intro qT' qS' eT' eS' s' j k hs hjk hk
  rw [eT2] at eT'; cases eT'
  rw [eS2] at eS'; cases eS'
  have a0 := i32_nat h0
  have a1 := i32_nat hx0
  have hx39 : ¬ 40 < x := by
    rw [Int32.lt_iff_toInt_lt] at hx1 ⊢
    have z2 : (40 : Int32).toInt = 40 := by decide
    have z3 : (39 : Int32).toInt = 39 := by decide
    omega
  rw [ix40 h0 h11 hx0 hx39] at w1 o1
  have hxn : x.toNatClampNeg ≤ 39 := by
    rw [Int32.lt_iff_toInt_lt] at hx1
    have z3 : (39 : Int32).toInt = 39 := by decide
    omega
  have hcs := hc s' hs
  rw [k1, k1]
  by_cases hss : s' = s.toNatClampNeg
  · subst hss
    rw [w2, nat_succ hx0 (by rw [Int32.lt_iff_toInt_lt] at hx1 ⊢; have z2 : (1000 : Int32).toInt = 1000 := (by decide); have z3 : (39 : Int32).toInt = 39 := (by decide); omega)] at hk
    rw [o1 _ (by omega)]
    by_cases hkx : k = x.toNatClampNeg
    · subst hkx
      rw [w1]
      refine hn qT qS eT eS _ j ?_ (by rw [e]; exact hjk)
      rw [Int32.le_iff_toInt_le] at hst
      omega
    · rw [o1 _ (by omega)]
      exact ht qT qS eT eS _ j k hs hjk (by rw [e]; omega)
  · rw [o2 _ hss, k2] at hk
    rw [o1 _ (by omega), o1 _ (by omega)]
    exact ht qT qS eT eS s' j k hs hjk hk
theorem cnt40 {L : List Nat} {f : TF} {qS : Nat} (hO : Ok L f) (mS : qS ∈ L ∧ tk f qS = 43) {s : Nat} (hs : s < 12) : (ti f qS s).toNatClampNeg ≤ 40 := by
  have h := hO.i mS (slot_arr (n := 12) (kd := 43) rfl hs)
  have a := i32_nat h.1
  have h2 := h.2
  rw [Int32.lt_iff_toInt_lt] at h2
  have z : (40 : Int32).toInt = 40 := by decide
  omega
theorem le40 {x : Int32} (h0 : ¬ x < 0) (h1 : ¬ 40 < x) : x.toNatClampNeg ≤ 40 := by
  have a := i32_nat h0
  rw [Int32.lt_iff_toInt_lt] at h1
  have z : (40 : Int32).toInt = 40 := by decide
  omega
theorem pred_nat {x : Int32} (h : ¬ x < 1) : (x - 1 : Int32).toInt = x.toInt - 1 ∧ (x - 1 : Int32).toNatClampNeg + 1 = x.toNatClampNeg := by
  rw [Int32.lt_iff_toInt_lt] at h
  have z1 : (1 : Int32).toInt = 1 := by decide
  have z0 : (0 : Int32).toInt = 0 := by decide
  have r := fb_rng x
  have m : (x - 1 : Int32).toInt = x.toInt - 1 := by rw [fb_subI (by rw [z1]; omega) (by rw [z1]; omega), z1]
  have a := i32_nat (x := x) (by rw [Int32.lt_iff_toInt_lt]; omega)
  have b := i32_nat (x := (x - 1 : Int32)) (by rw [Int32.lt_iff_toInt_lt, m]; omega)
  exact ⟨m, by omega⟩
theorem lt_pred {x k : Int32} (h : ¬ (x - 1) ≤ k) (hk : ¬ k < 0) (hx : ¬ x < 1) : k.toNatClampNeg + 1 < x.toNatClampNeg := by
  obtain ⟨m, -⟩ := pred_nat hx
  have a := i32_nat hk
  rw [Int32.le_iff_toInt_le, m] at h
  have b : ¬ x < 0 := by
    rw [Int32.lt_iff_toInt_lt] at hx ⊢
    have z1 : (1 : Int32).toInt = 1 := by decide
    have z0 : (0 : Int32).toInt = 0 := by decide
    omega
  have c := i32_nat b
  omega
theorem hole_start {f f1 : TF} {q0 qT qS : Nat} {s x : Int32} {k : Nat} (eT : tr f q0 20 = some qT) (eS : tr f q0 19 = some qS) (ht : TInv f q0) (h0 : ¬ s < 0) (h11 : ¬ 11 < s) (e : ti f qS s.toNatClampNeg = x) (o2 : ∀ j, j ≠ s.toNatClampNeg → ti f1 qS j = ti f qS j) (k1 : ∀ j, ti f1 qT j = ti f qT j) : THole f1 qT qS s.toNatClampNeg k x.toNatClampNeg := by
  have a0 := i32_nat h0
  rw [Int32.lt_iff_toInt_lt] at h11
  have z1 : (11 : Int32).toInt = 11 := by decide
  refine ⟨fun s' j j' hs hne hj hj' => ?_, fun j j' hj hj' _ _ => ?_⟩
  · rw [o2 _ hne] at hj'
    rw [k1, k1]
    exact ht qT qS eT eS s' j j' hs hj hj'
  · rw [k1, k1]
    exact ht qT qS eT eS _ j j' (by omega) hj (by rw [e]; exact hj')
theorem hole_next {f f1 : TF} {qT qS n : Nat} {s k y : Int32} (h : THole f qT qS s.toNatClampNeg k.toNatClampNeg n) (h0 : ¬ s < 0) (h11 : ¬ 11 < s) (hk0 : ¬ k < 0) (hk1 : ¬ 38 < k) (hn : k.toNatClampNeg + 1 < n) (hc : ∀ s' : Nat, s' < 12 → (ti f qS s').toNatClampNeg ≤ 40) (hn40 : n ≤ 40) (e : ti f qT (((40 * s) + k) + 1 : Int32).toNatClampNeg = y) (w1 : ti f1 qT ((40 * s) + k : Int32).toNatClampNeg = y) (o1 : ∀ j, j ≠ ((40 * s) + k : Int32).toNatClampNeg → ti f1 qT j = ti f qT j) (k1 : ∀ j, ti f1 qS j = ti f qS j) : THole f1 qT qS s.toNatClampNeg (k + 1 : Int32).toNatClampNeg n := by
  have a0 := i32_nat h0
  have ak := i32_nat hk0
  have hk39 : ¬ 39 < k := by
    rw [Int32.lt_iff_toInt_lt] at hk1 ⊢
    have z2 : (38 : Int32).toInt = 38 := by decide
    have z3 : (39 : Int32).toInt = 39 := by decide
    omega
  have hk40 : ¬ 40 < k := by
    rw [Int32.lt_iff_toInt_lt] at hk1 ⊢
    have z2 : (38 : Int32).toInt = 38 := by decide
    have z3 : (40 : Int32).toInt = 40 := by decide
    omega
  rw [ix40s h0 h11 hk0 hk39] at e
  rw [ix40 h0 h11 hk0 hk40] at w1 o1
  rw [nat_succ hk0 (by rw [Int32.lt_iff_toInt_lt] at hk1 ⊢; have z2 : (1000 : Int32).toInt = 1000 := (by decide); have z3 : (38 : Int32).toInt = 38 := (by decide); omega)]
  rw [Int32.lt_iff_toInt_lt] at hk1
  have z2 : (38 : Int32).toInt = 38 := by decide
  refine ⟨fun s' j j' hs hne hj hj' => ?_, fun j j' hj hj' hne hne' => ?_⟩
  · rw [k1] at hj'
    have := hc s' hs
    rw [o1 _ (by omega), o1 _ (by omega)]
    exact h.1 s' j j' hs hne hj hj'
  · by_cases h1 : j = k.toNatClampNeg
    · subst h1
      rw [w1, o1 _ (by omega), ← e]
      exact h.2 _ j' (by omega) hj' (by omega) (by omega)
    · by_cases h2 : j' = k.toNatClampNeg
      · subst h2
        rw [w1, o1 _ (by omega), ← e]
        exact h.2 j _ (by omega) hn h1 (by omega)
      · rw [o1 _ (by omega), o1 _ (by omega)]
        exact h.2 j j' hj hj' h1 h2
theorem hole_end {f : TF} {q0 qT qS n : Nat} {s k z : Int32} (eT : tr f q0 20 = some qT) (eS : tr f q0 19 = some qS) (h : THole f qT qS s.toNatClampNeg k.toNatClampNeg n) (hk0 : ¬ k < 0) (e : ti f qS s.toNatClampNeg = z) (hz0 : ¬ z < 0) (hz : z.toNatClampNeg + 1 = n) (hk : z ≤ k) : TInv f q0 := by
  intro qT' qS' eT' eS' s' j j' hs hj hj'
  rw [eT] at eT'; cases eT'
  rw [eS] at eS'; cases eS'
  have ak := i32_nat hk0
  have az := i32_nat hz0
  rw [Int32.le_iff_toInt_le] at hk
  by_cases hss : s' = s.toNatClampNeg
  · subst hss
    rw [e] at hj'
    exact h.2 j j' hj (by omega) (by omega) (by omega)
  · exact h.1 s' j j' hs hss hj hj'
