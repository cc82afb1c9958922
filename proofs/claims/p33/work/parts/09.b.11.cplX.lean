/-- the orders of both sides are the same, and each order of the program owns its cells -/
def CO (f : TF) (q0 q1 : Nat) : Prop := ∃ (n qx : Nat) (cO cF cH cS am : Nat → Nat), n ≤ 20 ∧ ti f q0 8 = nI n ∧ ti f q1 29 = nI n ∧ tr f q0 3 = some qx ∧ tr f q0 12 = some (cO n) ∧ (∀ k, 30 ≤ k → k ≤ 41 → tr f q1 k = some (am k)) ∧
  (∀ i, i ≤ n → tr f (cO i) 2 = some (cF i) ∧ tr f (cO i) 3 = some (cH i) ∧ tr f (cO i) 4 = some (cS i)) ∧
  (∀ i j, i ≤ n → j ≤ n → i ≠ j → cO i ≠ cO j ∧ cF i ≠ cF j ∧ cH i ≠ cH j ∧ cS i ≠ cS j) ∧
  (∀ i, i < n → tr f qx i = some (cO i) ∧ ti f (cO i) 0 = ti f (am 31) i ∧ ti f (cO i) 1 = ti f (am 30) i ∧ ∃ o : OS, WfO o ∧ OrdX f (cO i) (cF i) (cH i) (cS i) o ∧ OrdM f q1 am i o)
def avO (W : List (Nat × Nat)) : Bool := [8, 15, 16, 17, 18, 51, 52, 53, 54, 55, 56, 57, 58, 59, 60, 61, 62].all (fun k => W.all (fun p => p.1 != k)) && [(0, 3), (0, 8), (0, 12), (27, 29), (27, 30), (27, 31), (27, 32), (27, 33), (27, 34), (27, 35), (27, 36), (27, 37), (27, 38), (27, 39), (27, 40), (27, 41)].all (fun q => !(wr W q.1 q.2))
theorem avO_k {W : List (Nat × Nat)} (h : avO W = true) (k : Nat) (hk : k ∈ [8, 15, 16, 17, 18, 51, 52, 53, 54, 55, 56, 57, 58, 59, 60, 61, 62]) (j : Nat) : wr W k j = false := by
  unfold avO at h
  rw [Bool.and_eq_true] at h
  exact wr_k (List.all_eq_true.mp h.1 k hk) j
theorem avO_s {W : List (Nat × Nat)} (h : avO W = true) (k j : Nat) (hk : (k, j) ∈ [(0, 3), (0, 8), (0, 12), (27, 29), (27, 30), (27, 31), (27, 32), (27, 33), (27, 34), (27, 35), (27, 36), (27, 37), (27, 38), (27, 39), (27, 40), (27, 41)]) : wr W k j = false := by
  unfold avO at h
  rw [Bool.and_eq_true] at h
  have := List.all_eq_true.mp h.2 (k, j) hk
  simpa using this
section ORD
variable {L : List Nat} {f : TF} {q0 q1 : Nat}
/-- the cells of the reference's rows -/
theorem am_m {am : Nat → Nat} (hO : Ok L f) (m1 : q1 ∈ L ∧ tk f q1 = 27) (hr : ∀ k, 30 ≤ k → k ≤ 41 → tr f q1 k = some (am k)) : ∀ k, 30 ≤ k → k ≤ 41 → am k ∈ L ∧ tk f (am k) = k + 21 := by
  intro k h1 h2
  have e := hr k h1 h2
  have h : k = 30 ∨ k = 31 ∨ k = 32 ∨ k = 33 ∨ k = 34 ∨ k = 35 ∨ k = 36 ∨ k = 37 ∨ k = 38 ∨ k = 39 ∨ k = 40 ∨ k = 41 := by omega
  rcases h with rfl | rfl | rfl | rfl | rfl | rfl | rfl | rfl | rfl | rfl | rfl | rfl
  · exact hO.rm (j := 30) (k' := 51) (n := false) m1 rfl e
  · exact hO.rm (j := 31) (k' := 52) (n := false) m1 rfl e
  · exact hO.rm (j := 32) (k' := 53) (n := false) m1 rfl e
  · exact hO.rm (j := 33) (k' := 54) (n := false) m1 rfl e
  · exact hO.rm (j := 34) (k' := 55) (n := false) m1 rfl e
  · exact hO.rm (j := 35) (k' := 56) (n := false) m1 rfl e
  · exact hO.rm (j := 36) (k' := 57) (n := false) m1 rfl e
  · exact hO.rm (j := 37) (k' := 58) (n := false) m1 rfl e
  · exact hO.rm (j := 38) (k' := 59) (n := false) m1 rfl e
  · exact hO.rm (j := 39) (k' := 60) (n := false) m1 rfl e
  · exact hO.rm (j := 40) (k' := 61) (n := false) m1 rfl e
  · exact hO.rm (j := 41) (k' := 62) (n := false) m1 rfl e
/-- the cells of an order of the program -/
theorem or_m {q a b c : Nat} (hO : Ok L f) (hm : q ∈ L ∧ tk f q = 15) (h : tr f q 2 = some a ∧ tr f q 3 = some b ∧ tr f q 4 = some c) : (a ∈ L ∧ tk f a = 16) ∧ (b ∈ L ∧ tk f b = 17) ∧ (c ∈ L ∧ tk f c = 18) := ⟨hO.rm (j := 2) (k' := 16) (n := false) hm rfl h.1, hO.rm (j := 3) (k' := 17) (n := false) hm rfl h.2.1, hO.rm (j := 4) (k' := 18) (n := false) hm rfl h.2.2⟩
theorem CO.ext {W : List (Nat × Nat)} {L1 : List Nat} {f1 : TF} (h : CO f q0 q1) (hO : Ok L f) (m0 : q0 ∈ L ∧ tk f q0 = 0) (m1 : q1 ∈ L ∧ tk f q1 = 27) (hE : Ext W L f L1 f1) (ha : avO W = true) : CO f1 q0 q1 := by
  obtain ⟨n, qx, cO, cF, cH, cS, am, h1, h2, h3, h4, h5, h6, h7, h8, h9⟩ := h
  have s := avO_s ha
  have kk := avO_k ha
  have ix := hO.rm (j := 3) (k' := 8) (n := false) m0 rfl h4
  have iD := hO.rm (j := 12) (k' := 15) (n := false) m0 rfl h5
  have iA := am_m hO m1 h6
  have iO : ∀ i, i ≤ n → cO i ∈ L ∧ tk f (cO i) = 15 := by
    intro i hi
    by_cases e : i = n
    · subst e; exact iD
    · have hx := (h9 i (by omega)).1
      have h20 : i < 20 := by omega
      exact hO.rm (j := i) (k' := 15) (n := true) ix (slot_arr (n := 20) rfl h20) hx
  have rO : ∀ i, i ≤ n → ∀ j, tr f1 (cO i) j = tr f (cO i) j := fun i hi j => hE.er (iO i hi) (kk 15 (by decide) j)
  have vO : ∀ i, i ≤ n → ∀ j, ti f1 (cO i) j = ti f (cO i) j := fun i hi j => hE.ei (iO i hi) (kk 15 (by decide) j)
  have vA : ∀ k, 30 ≤ k → k ≤ 41 → ∀ j, ti f1 (am k) j = ti f (am k) j := fun k a b j => hE.ei (iA k a b) (kk (k + 21) (by
    have h : k = 30 ∨ k = 31 ∨ k = 32 ∨ k = 33 ∨ k = 34 ∨ k = 35 ∨ k = 36 ∨ k = 37 ∨ k = 38 ∨ k = 39 ∨ k = 40 ∨ k = 41 := by omega
    rcases h with rfl | rfl | rfl | rfl | rfl | rfl | rfl | rfl | rfl | rfl | rfl | rfl <;> decide) j)
  have r27 : ∀ k, 30 ≤ k → k ≤ 41 → tr f1 q1 k = tr f q1 k := fun k a b => hE.er m1 (s 27 k (by
    have h : k = 30 ∨ k = 31 ∨ k = 32 ∨ k = 33 ∨ k = 34 ∨ k = 35 ∨ k = 36 ∨ k = 37 ∨ k = 38 ∨ k = 39 ∨ k = 40 ∨ k = 41 := by omega
    rcases h with rfl | rfl | rfl | rfl | rfl | rfl | rfl | rfl | rfl | rfl | rfl | rfl <;> decide))
  refine ⟨n, qx, cO, cF, cH, cS, am, h1, (hE.ei m0 (s 0 8 (by decide))).trans h2, (hE.ei m1 (s 27 29 (by decide))).trans h3, (hE.er m0 (s 0 3 (by decide))).trans h4, (hE.er m0 (s 0 12 (by decide))).trans h5, fun k a b => (r27 k a b).trans (h6 k a b), fun i hi => ⟨(rO i hi _).trans (h7 i hi).1, (rO i hi _).trans (h7 i hi).2.1, (rO i hi _).trans (h7 i hi).2.2⟩, h8, fun i hi => ?_⟩
  obtain ⟨a1, a2, a3, o, a4, a5, a6⟩ := h9 i hi
  obtain ⟨c1, c2, c3⟩ := or_m hO (iO i (by omega)) (h7 i (by omega))
  refine ⟨(hE.er ix (kk 8 (by decide) i)).trans a1, ?_, ?_, o, a4, ?_, ?_⟩
  · rw [vO i (by omega), vA 31 (by decide) (by decide)]; exact a2
  · rw [vO i (by omega), vA 30 (by decide) (by decide)]; exact a3
  · obtain ⟨b1, b2, b3, b4, b5, b6, b7⟩ := a5
    exact ⟨⟨(rO i (by omega) _).trans b1.1, (rO i (by omega) _).trans b1.2.1, (rO i (by omega) _).trans b1.2.2⟩, (vO i (by omega) _).trans b2, (vO i (by omega) _).trans b3, fun j hj => (hE.ei c1 (kk 16 (by decide) j)).trans (b4 j hj), fun j hj => (hE.ei c2 (kk 17 (by decide) j)).trans (b5 j hj), fun j hj => (hE.ei c3 (kk 18 (by decide) j)).trans (b6 j hj), fun k => ⟨(vO i (by omega) _).trans (b7 k).1, (vO i (by omega) _).trans (b7 k).2⟩⟩
  · obtain ⟨b1, b2, b3, b4, b5⟩ := a6
    have lk : ∀ {c x y z : Nat} {p : OL}, 30 ≤ c → c ≤ 41 → 30 ≤ x → x ≤ 41 → 30 ≤ y → y ≤ 41 → 30 ≤ z → z ≤ 41 → LnM f i (am c) (am x) (am y) (am z) p → LnM f1 i (am c) (am x) (am y) (am z) p := fun g1 g2 g3 g4 g5 g6 g7 g8 hl => ⟨(vA _ g1 g2 _).trans hl.1, fun k hk => ⟨(vA _ g3 g4 _).trans (hl.2 k hk).1, (vA _ g5 g6 _).trans (hl.2 k hk).2.1, (vA _ g7 g8 _).trans (hl.2 k hk).2.2⟩⟩
    exact ⟨fun k g1 g2 => (r27 k (by omega) g2).trans (b1 k g1 g2), lk (by decide) (by decide) (by decide) (by decide) (by decide) (by decide) (by decide) (by decide) b2, lk (by decide) (by decide) (by decide) (by decide) (by decide) (by decide) (by decide) (by decide) b3, fun j hj => (vA 40 (by decide) (by decide) _).trans (b4 j hj), fun h => (vA 41 (by decide) (by decide) _).trans (b5 h)⟩
end ORD
