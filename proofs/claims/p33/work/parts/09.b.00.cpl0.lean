theorem ti_sI {f : TF} {a k : Nat} {v : Int32} (b j : Nat) : ti (sI f a k v) b j = if b = a ∧ j = k then v else ti f b j := by
  unfold ti sI va_up
  by_cases h : b = a
  · subst h
    by_cases hj : j = k
    · subst hj; simp [upd]
    · simp [upd, hj]
  · simp [h]
theorem ti_sI_eq {f : TF} {a k : Nat} {v : Int32} : ti (sI f a k v) a k = v := by rw [ti_sI]; simp
theorem ti_sI_ne {f : TF} {a k b j : Nat} {v : Int32} (h : b ≠ a) : ti (sI f a k v) b j = ti f b j := by rw [ti_sI]; simp [h]
theorem ti_sI_nj {f : TF} {a k b j : Nat} {v : Int32} (h : j ≠ k) : ti (sI f a k v) b j = ti f b j := by rw [ti_sI]; simp [h]
theorem tr_sI {f : TF} {a k b j : Nat} {v : Int32} : tr (sI f a k v) b j = tr f b j := by
  unfold tr sI va_up
  by_cases h : b = a
  · subst h; simp
  · simp [h]
theorem tk_sI {f : TF} {a k b : Nat} {v : Int32} : tk (sI f a k v) b = tk f b := by
  unfold tk sI va_up
  by_cases h : b = a
  · subst h; simp
  · simp [h]
theorem tr_sR {f : TF} {a k c : Nat} (b j : Nat) : tr (sR f a k c) b j = if b = a ∧ j = k then some c else tr f b j := by
  unfold tr sR
  by_cases h : b = a
  · subst h
    rw [va_up_self]
    by_cases hj : j = k
    · subst hj; simp [va_up]
    · simp [va_up, hj]
  · rw [va_up_ne _ _ h]; simp [h]
theorem ti_sR {f : TF} {a k b j c : Nat} : ti (sR f a k c) b j = ti f b j := by
  unfold ti sR va_up
  by_cases h : b = a
  · subst h; simp
  · simp [h]
theorem tk_sR {f : TF} {a k b c : Nat} : tk (sR f a k c) b = tk f b := by
  unfold tk sR va_up
  by_cases h : b = a
  · subst h; simp
  · simp [h]
theorem ti_nC {f : TF} {q k b j : Nat} (h : b ≠ q) : ti (nC f q k) b j = ti f b j := by
  unfold ti nC; rw [va_up_ne _ _ h]
theorem tr_nC {f : TF} {q k b j : Nat} (h : b ≠ q) : tr (nC f q k) b j = tr f b j := by
  unfold tr nC; rw [va_up_ne _ _ h]
theorem tk_nC {f : TF} {q k b : Nat} (h : b ≠ q) : tk (nC f q k) b = tk f b := by
  unfold tk nC; rw [va_up_ne _ _ h]
theorem ne_tk {f : TF} {a b i j : Nat} (ha : tk f a = i) (hb : tk f b = j) (h : i ≠ j) : a ≠ b := by
  rintro rfl
  exact h (ha.symm.trans hb)
theorem Ok.rm {L : List Nat} {f : TF} (hO : Ok L f) {a kd j b k' : Nat} {n : Bool} (hm : a ∈ L ∧ tk f a = kd) (hs : slotD kd j = some (.inr (.inr (k', n)))) (e : tr f a j = some b) : b ∈ L ∧ tk f b = k' := by
  rcases hO.q hm hs with ⟨h, -⟩ | ⟨c, h1, h2⟩
  · rw [h] at e; cases e
  · rw [h1] at e; cases e; exact h2
theorem wr_k {W : List (Nat × Nat)} {k : Nat} (h : W.all (fun p => p.1 != k) = true) (j : Nat) : wr W k j = false := by
  unfold wr
  rw [List.any_eq_false]
  intro p hp
  have h1 := List.all_eq_true.mp h p hp
  simp only [bne_iff_ne, ne_eq] at h1
  simp [h1]
