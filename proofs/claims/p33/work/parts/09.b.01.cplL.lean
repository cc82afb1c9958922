def Refs (f : TF) (q0 q1 : Nat) (ad : Nat → Nat) : Prop := tr f q0 0 = some (ad 1) ∧ tr f (ad 1) 0 = some (ad 2) ∧ tr f (ad 1) 1 = some (ad 3) ∧ tr f (ad 1) 2 = some (ad 4) ∧ tr f (ad 1) 3 = some (ad 5) ∧ tr f q1 3 = some (ad 28) ∧ tr f q1 5 = some (ad 29) ∧ tr f q1 6 = some (ad 30) ∧ tr f q1 7 = some (ad 31) ∧ tr f q1 8 = some (ad 32)
def Rows (f : TF) (qw mh mw : Nat) : Prop := (∀ d : Nat, d < 500 → (tr f qw d = none ∧ ti f mh d = 0) ∨ ∃ b, tr f qw d = some b ∧ ti f mh d = 1 ∧ ∀ h : Nat, h < 12 → ti f b h = ti f mw (12 * d + h)) ∧ ∀ d d' b : Nat, d < 500 → d' < 500 → tr f qw d = some b → tr f qw d' = some b → d = d'
def Vals (f : TF) (q0 q1 : Nat) (ad : Nat → Nat) : Prop := ti f q0 10 = ti f q1 1 ∧ ti f (ad 1) 4 = ti f q1 2 ∧ (∀ j : Nat, ti f (ad 2) j = ti f (ad 28) j) ∧ (∀ j : Nat, ti f (ad 3) j = ti f (ad 29) j) ∧ (∀ j : Nat, ti f (ad 5) j = ti f (ad 32) j) ∧ Rows f (ad 4) (ad 30) (ad 31)
def Cpl (_ : List Nat) (f : TF) (q0 q1 : Nat) : Prop := ∃ ad : Nat → Nat, Refs f q0 q1 ad ∧ Vals f q0 q1 ad
def Mems (L : List Nat) (f : TF) (ad : Nat → Nat) : Prop := ∀ k ∈ [1, 2, 3, 4, 5, 28, 29, 30, 31, 32], ad k ∈ L ∧ tk f (ad k) = k
theorem refs_m {L : List Nat} {f : TF} {q0 q1 : Nat} {ad : Nat → Nat} (hO : Ok L f) (m0 : q0 ∈ L ∧ tk f q0 = 0) (m1 : q1 ∈ L ∧ tk f q1 = 27) (h : Refs f q0 q1 ad) : Mems L f ad := by
  obtain ⟨h1, h2, h3, h4, h5, h6, h7, h8, h9, h10⟩ := h
  have r1 := hO.rm (j := 0) (k' := 1) (n := false) m0 rfl h1
  have r2 := hO.rm (j := 0) (k' := 2) (n := false) r1 rfl h2
  have r3 := hO.rm (j := 1) (k' := 3) (n := false) r1 rfl h3
  have r4 := hO.rm (j := 2) (k' := 4) (n := false) r1 rfl h4
  have r5 := hO.rm (j := 3) (k' := 5) (n := false) r1 rfl h5
  have r6 := hO.rm (j := 3) (k' := 28) (n := false) m1 rfl h6
  have r7 := hO.rm (j := 5) (k' := 29) (n := false) m1 rfl h7
  have r8 := hO.rm (j := 6) (k' := 30) (n := false) m1 rfl h8
  have r9 := hO.rm (j := 7) (k' := 31) (n := false) m1 rfl h9
  have r10 := hO.rm (j := 8) (k' := 32) (n := false) m1 rfl h10
  intro k hk
  simp only [List.mem_cons, List.not_mem_nil, or_false] at hk
  rcases hk with rfl | rfl | rfl | rfl | rfl | rfl | rfl | rfl | rfl | rfl <;> assumption
def avR (W : List (Nat × Nat)) : Bool := [2, 3, 4, 5, 19, 28, 29, 30, 31, 32].all (fun k => W.all (fun p => p.1 != k)) && [(0, 0), (1, 0), (1, 1), (1, 2), (1, 3), (1, 4), (27, 2), (27, 3), (27, 5), (27, 6), (27, 7), (27, 8)].all (fun q => !(wr W q.1 q.2))
def avL (W : List (Nat × Nat)) : Bool := avR W && (!(wr W 0 10) && !(wr W 27 1))
theorem avR_k {W : List (Nat × Nat)} (h : avR W = true) (k : Nat) (hk : k ∈ [2, 3, 4, 5, 19, 28, 29, 30, 31, 32]) (j : Nat) : wr W k j = false := by
  unfold avR at h
  rw [Bool.and_eq_true] at h
  exact wr_k (List.all_eq_true.mp h.1 k hk) j
theorem avR_s {W : List (Nat × Nat)} (h : avR W = true) (k j : Nat) (hk : (k, j) ∈ [(0, 0), (1, 0), (1, 1), (1, 2), (1, 3), (1, 4), (27, 2), (27, 3), (27, 5), (27, 6), (27, 7), (27, 8)]) : wr W k j = false := by
  unfold avR at h
  rw [Bool.and_eq_true] at h
  have := List.all_eq_true.mp h.2 (k, j) hk
  simpa using this
/-- all but the time -/
def CplR (f : TF) (q0 q1 : Nat) : Prop := ∃ ad : Nat → Nat, Refs f q0 q1 ad ∧ ti f (ad 1) 4 = ti f q1 2 ∧ (∀ j : Nat, ti f (ad 2) j = ti f (ad 28) j) ∧ (∀ j : Nat, ti f (ad 3) j = ti f (ad 29) j) ∧ (∀ j : Nat, ti f (ad 5) j = ti f (ad 32) j) ∧ Rows f (ad 4) (ad 30) (ad 31)
theorem Cpl.rest {L : List Nat} {f : TF} {q0 q1 : Nat} (h : Cpl L f q0 q1) : CplR f q0 q1 := by
  obtain ⟨ad, hR, hV⟩ := h
  exact ⟨ad, hR, hV.2⟩
theorem Cpl.time {L : List Nat} {f : TF} {q0 q1 : Nat} (h : Cpl L f q0 q1) : ti f q0 10 = ti f q1 1 := by
  obtain ⟨ad, hR, hV⟩ := h
  exact hV.1
theorem CplR.full {L : List Nat} {f : TF} {q0 q1 : Nat} (h : CplR f q0 q1) (ht : ti f q0 10 = ti f q1 1) : Cpl L f q0 q1 := by
  obtain ⟨ad, hR, hV⟩ := h
  exact ⟨ad, hR, ht, hV⟩
theorem avL_t {W : List (Nat × Nat)} (h : avL W = true) : avR W = true ∧ wr W 0 10 = false ∧ wr W 27 1 = false := by
  unfold avL at h
  rw [Bool.and_eq_true, Bool.and_eq_true] at h
  simpa using h
theorem CplR.ext {W : List (Nat × Nat)} {L L1 : List Nat} {f f1 : TF} {q0 q1 : Nat} (h : CplR f q0 q1) (hO : Ok L f) (m0 : q0 ∈ L ∧ tk f q0 = 0) (m1 : q1 ∈ L ∧ tk f q1 = 27) (hE : Ext W L f L1 f1) (ha : avR W = true) : CplR f1 q0 q1 := by
  obtain ⟨ad, hR, hV⟩ := h
  have hM := refs_m hO m0 m1 hR
  have i1 := hM 1 (by decide)
  have i2 := hM 2 (by decide)
  have i3 := hM 3 (by decide)
  have i4 := hM 4 (by decide)
  have i5 := hM 5 (by decide)
  have i28 := hM 28 (by decide)
  have i29 := hM 29 (by decide)
  have i30 := hM 30 (by decide)
  have i31 := hM 31 (by decide)
  have i32 := hM 32 (by decide)
  obtain ⟨h1, h2, h3, h4, h5, h6, h7, h8, h9, h10⟩ := hR
  obtain ⟨v2, v3, v4, v5, v6, v7⟩ := hV
  have s := avR_s ha
  have kk := avR_k ha
  refine ⟨ad, ⟨(hE.er m0 (s 0 0 (by decide))).trans h1, (hE.er i1 (s 1 0 (by decide))).trans h2, (hE.er i1 (s 1 1 (by decide))).trans h3, (hE.er i1 (s 1 2 (by decide))).trans h4, (hE.er i1 (s 1 3 (by decide))).trans h5, (hE.er m1 (s 27 3 (by decide))).trans h6, (hE.er m1 (s 27 5 (by decide))).trans h7, (hE.er m1 (s 27 6 (by decide))).trans h8, (hE.er m1 (s 27 7 (by decide))).trans h9, (hE.er m1 (s 27 8 (by decide))).trans h10⟩, ?_⟩
  refine ⟨(hE.ei i1 (s 1 4 (by decide))).trans (v2.trans (hE.ei m1 (s 27 2 (by decide))).symm), fun j => (hE.ei i2 (kk 2 (by decide) j)).trans ((v3 j).trans (hE.ei i28 (kk 28 (by decide) j)).symm), fun j => (hE.ei i3 (kk 3 (by decide) j)).trans ((v4 j).trans (hE.ei i29 (kk 29 (by decide) j)).symm), fun j => (hE.ei i5 (kk 5 (by decide) j)).trans ((v5 j).trans (hE.ei i32 (kk 32 (by decide) j)).symm), fun d hd => ?_, fun d d' b hd hd' e e' => ?_⟩
  · have e4 := hE.er i4 (kk 4 (by decide) d)
    have e30 := hE.ei i30 (kk 30 (by decide) d)
    rcases v6 d hd with ⟨g1, g2⟩ | ⟨b, g1, g2, g3⟩
    · exact Or.inl ⟨e4.trans g1, e30.trans g2⟩
    · have ib := hO.rm (k' := 19) (n := true) i4 (slot_arr (n := 500) rfl hd) g1
      exact Or.inr ⟨b, e4.trans g1, e30.trans g2, fun h hh => (hE.ei ib (kk 19 (by decide) h)).trans ((g3 h hh).trans (hE.ei i31 (kk 31 (by decide) _)).symm)⟩
  · rw [hE.er i4 (kk 4 (by decide) d)] at e
    rw [hE.er i4 (kk 4 (by decide) d')] at e'
    exact v7 d d' b hd hd' e e'
theorem Cpl.ext {W : List (Nat × Nat)} {L L1 : List Nat} {f f1 : TF} {q0 q1 : Nat} (h : Cpl L f q0 q1) (hO : Ok L f) (m0 : q0 ∈ L ∧ tk f q0 = 0) (m1 : q1 ∈ L ∧ tk f q1 = 27) (hE : Ext W L f L1 f1) (ha : avL W = true) : Cpl L1 f1 q0 q1 :=
  (h.rest.ext hO m0 m1 hE (avL_t ha).1).full ((hE.ei m0 (avL_t ha).2.1).trans (h.time.trans (hE.ei m1 (avL_t ha).2.2).symm))
/-- what both calls must show -/
def PairQ (q0 q1 : Nat) (wpm : List Nat → TF → (Int32 → List Nat → TF → Prop) → Prop) : Int32 → List Nat → TF → Prop := fun r L1 f1 => Ok L1 f1 → (q0 ∈ L1 ∧ tk f1 q0 = 0) → (q1 ∈ L1 ∧ tk f1 q1 = 27) → wpm L1 f1 (fun r' L2 f2 => Ok L2 f2 → r = r' ∧ Cpl L2 f2 q0 q1)
section PAIR
variable {L : List Nat} {f : TF} {q0 q1 : Nat}
theorem refs_same {f f' : TF} {q0 q1 : Nat} {ad : Nat → Nat} (hr : ∀ a j, tr f' a j = tr f a j) (h : Refs f q0 q1 ad) : Refs f' q0 q1 ad := by
  obtain ⟨h1, h2, h3, h4, h5, h6, h7, h8, h9, h10⟩ := h
  exact ⟨(hr _ _).trans h1, (hr _ _).trans h2, (hr _ _).trans h3, (hr _ _).trans h4, (hr _ _).trans h5, (hr _ _).trans h6, (hr _ _).trans h7, (hr _ _).trans h8, (hr _ _).trans h9, (hr _ _).trans h10⟩
theorem rows_same {f' : TF} {ad : Nat → Nat} (hO : Ok L f) (hM : Mems L f ad) (hr : ∀ a j, tr f' a j = tr f a j) (h19 : ∀ b, tk f b = 19 → ∀ z, ti f' b z = ti f b z) (h30 : ∀ z, ti f' (ad 30) z = ti f (ad 30) z) (h31 : ∀ z, ti f' (ad 31) z = ti f (ad 31) z) (h : Rows f (ad 4) (ad 30) (ad 31)) : Rows f' (ad 4) (ad 30) (ad 31) := by
  refine ⟨fun d hd => ?_, fun d d' b hd hd' e e' => ?_⟩
  · rw [hr, h30]
    rcases h.1 d hd with g | ⟨b, g1, g2, g3⟩
    · exact Or.inl g
    · have ib := hO.rm (k' := 19) (n := true) (hM 4 (by decide)) (slot_arr (n := 500) rfl hd) g1
      exact Or.inr ⟨b, g1, g2, fun x hx => by rw [h19 b ib.2, h31]; exact g3 x hx⟩
  · rw [hr] at e e'
    exact h.2 d d' b hd hd' e e'
theorem le12 {x : Int32} : ¬ (12 ≤ x) → ¬ (11 < x) := by
  intro h
  rw [Int32.le_iff_toInt_le] at h
  rw [Int32.lt_iff_toInt_lt]
  have z1 : (12 : Int32).toInt = 12 := by decide
  have z2 : (11 : Int32).toInt = 11 := by decide
  omega
theorem ge12 {x : Int32} : 12 ≤ x → 11 < x := by
  intro h
  rw [Int32.le_iff_toInt_le] at h
  rw [Int32.lt_iff_toInt_lt]
  have z1 : (12 : Int32).toInt = 12 := by decide
  have z2 : (11 : Int32).toInt = 11 := by decide
  omega
theorem le500 {x : Int32} : ¬ (500 ≤ x) → ¬ (499 < x) := by
  intro h
  rw [Int32.le_iff_toInt_le] at h
  rw [Int32.lt_iff_toInt_lt]
  have z1 : (500 : Int32).toInt = 500 := by decide
  have z2 : (499 : Int32).toInt = 499 := by decide
  omega
theorem ge500 {x : Int32} : 500 ≤ x → 499 < x := by
  intro h
  rw [Int32.le_iff_toInt_le] at h
  rw [Int32.lt_iff_toInt_lt]
  have z1 : (500 : Int32).toInt = 500 := by decide
  have z2 : (499 : Int32).toInt = 499 := by decide
  omega
/-- one place of one array on each side -/
theorem two_set {f : TF} {a b i : Nat} {v : Int32} (hab : a ≠ b) (h : ∀ j : Nat, ti f a j = ti f b j) (j : Nat) : ti (sI (sI f a i v) b i v) a j = ti (sI (sI f a i v) b i v) b j := by
  rw [ti_sI_ne hab]
  by_cases hj : j = i
  · subst hj; rw [ti_sI_eq, ti_sI_eq]
  · rw [ti_sI_nj hj, ti_sI_nj hj, ti_sI_ne hab.symm]; exact h j
theorem two_off {f : TF} {a b c i j z : Nat} {v w : Int32} (h1 : c ≠ a) (h2 : c ≠ b) : ti (sI (sI f a i v) b j w) c z = ti f c z := by
  rw [ti_sI_ne h2, ti_sI_ne h1]
theorem two_r {f : TF} {a b i j : Nat} {v w : Int32} (c z : Nat) : tr (sI (sI f a i v) b j w) c z = tr f c z := by
  rw [tr_sI, tr_sI]
/-- the same value into the same place of two coupled arrays: the table -/
theorem cpl_table {ad : Nat → Nat} {i : Nat} {v : Int32} (hO : Ok L f) (m0 : q0 ∈ L ∧ tk f q0 = 0) (m1 : q1 ∈ L ∧ tk f q1 = 27) (hR : Refs f q0 q1 ad) (hV : Vals f q0 q1 ad) : Cpl L (sI (sI f (ad 3) i v) (ad 29) i v) q0 q1 := by
  have hM := refs_m hO m0 m1 hR
  obtain ⟨v1, v2, v3, v4, v5, v6⟩ := hV
  have nn : ∀ (b k : Nat), tk f b = k → k ≠ 3 → k ≠ 29 → ∀ z, ti (sI (sI f (ad 3) i v) (ad 29) i v) b z = ti f b z := fun b k hb h3 h29 z => two_off (ne_tk hb (hM 3 (by decide)).2 h3) (ne_tk hb (hM 29 (by decide)).2 h29)
  refine ⟨ad, refs_same two_r hR, ?_, ?_, fun j => ?_, two_set (ne_tk (hM 3 (by decide)).2 (hM 29 (by decide)).2 (by decide)) v4, fun j => ?_, rows_same hO hM two_r (fun b hb => nn b 19 hb (by decide) (by decide)) (nn _ _ (hM 30 (by decide)).2 (by decide) (by decide)) (nn _ _ (hM 31 (by decide)).2 (by decide) (by decide)) v6⟩
  · rw [nn _ _ m0.2 (by decide) (by decide), nn _ _ m1.2 (by decide) (by decide)]; exact v1
  · rw [nn _ _ (hM 1 (by decide)).2 (by decide) (by decide), nn _ _ m1.2 (by decide) (by decide)]; exact v2
  · rw [nn _ _ (hM 2 (by decide)).2 (by decide) (by decide), nn _ _ (hM 28 (by decide)).2 (by decide) (by decide)]; exact v3 j
  · rw [nn _ _ (hM 5 (by decide)).2 (by decide) (by decide), nn _ _ (hM 32 (by decide)).2 (by decide) (by decide)]; exact v5 j
theorem cpl_frost {ad : Nat → Nat} {i : Nat} {v : Int32} (hO : Ok L f) (m0 : q0 ∈ L ∧ tk f q0 = 0) (m1 : q1 ∈ L ∧ tk f q1 = 27) (hR : Refs f q0 q1 ad) (hV : Vals f q0 q1 ad) : Cpl L (sI (sI f (ad 5) i v) (ad 32) i v) q0 q1 := by
  have hM := refs_m hO m0 m1 hR
  obtain ⟨v1, v2, v3, v4, v5, v6⟩ := hV
  have nn : ∀ (b k : Nat), tk f b = k → k ≠ 5 → k ≠ 32 → ∀ z, ti (sI (sI f (ad 5) i v) (ad 32) i v) b z = ti f b z := fun b k hb h3 h29 z => two_off (ne_tk hb (hM 5 (by decide)).2 h3) (ne_tk hb (hM 32 (by decide)).2 h29)
  refine ⟨ad, refs_same two_r hR, ?_, ?_, fun j => ?_, fun j => ?_, two_set (ne_tk (hM 5 (by decide)).2 (hM 32 (by decide)).2 (by decide)) v5, rows_same hO hM two_r (fun b hb => nn b 19 hb (by decide) (by decide)) (nn _ _ (hM 30 (by decide)).2 (by decide) (by decide)) (nn _ _ (hM 31 (by decide)).2 (by decide) (by decide)) v6⟩
  · rw [nn _ _ m0.2 (by decide) (by decide), nn _ _ m1.2 (by decide) (by decide)]; exact v1
  · rw [nn _ _ (hM 1 (by decide)).2 (by decide) (by decide), nn _ _ m1.2 (by decide) (by decide)]; exact v2
  · rw [nn _ _ (hM 2 (by decide)).2 (by decide) (by decide), nn _ _ (hM 28 (by decide)).2 (by decide) (by decide)]; exact v3 j
  · rw [nn _ _ (hM 3 (by decide)).2 (by decide) (by decide), nn _ _ (hM 29 (by decide)).2 (by decide) (by decide)]; exact v4 j
theorem pr_table (hO : Ok L f) (m0 : q0 ∈ L ∧ tk f q0 = 0) (m1 : q1 ∈ L ∧ tk f q1 = 27) (hC : Cpl L f q0 q1) (p_0 p_1 : Int32) : wp_WM_table_w L f q0 p_0 p_1 (PairQ q0 q1 (fun L f Q => wp_Md_table_w L f q1 p_0 p_1 Q)) := by
  unfold wp_WM_table_w
  refine ⟨fun c1 _ _ _ => ⟨fun _ _ => ⟨rfl, hC⟩, fun g => absurd c1 g⟩, fun c1 => ⟨fun c2 _ _ _ => ⟨fun g => absurd g c1, fun _ => ⟨fun _ _ => ⟨rfl, hC⟩, fun g => absurd (ge12 c2) g⟩⟩, fun c2 => ⟨fun c3 _ _ _ => ⟨fun g => absurd g c1, fun _ => ⟨fun g => absurd g (le12 c2), fun _ => ⟨fun _ _ => ⟨rfl, hC⟩, fun g => absurd c3 g⟩⟩⟩, fun c3 => ⟨fun c4 _ _ _ => ⟨fun g => absurd g c1, fun _ => ⟨fun g => absurd g (le12 c2), fun _ => ⟨fun g => absurd g c3, fun _ => ⟨fun _ _ => ⟨rfl, hC⟩, fun g => absurd c4 g⟩⟩⟩⟩, fun c4 => ?_⟩⟩⟩⟩
  obtain ⟨ad, hR, hV⟩ := hC
  have hM := refs_m hO m0 m1 hR
  intro q7 e7 q8 e8 x9 e9 f1 hf1 hO1 hO1' m0' m1'
  rw [hR.1] at e7; cases e7
  rw [hR.2.2.1] at e8; cases e8
  refine ⟨fun g => absurd g c1, fun _ => ⟨fun g => absurd g (le12 c2), fun _ => ⟨fun g => absurd g c3, fun _ => ⟨fun g => absurd g c4, fun _ => ?_⟩⟩⟩⟩
  intro q7 e7 x8 e8 f2 hf2 hO2 hO2'
  subst hf1
  rw [tr_sI, hR.2.2.2.2.2.2.1] at e7; cases e7
  subst hf2
  refine ⟨?_, cpl_table hO m0 m1 hR hV⟩
  rw [← e9, ← e8, ti_sI_ne (ne_tk (hM 29 (by decide)).2 (hM 3 (by decide)).2 (by decide))]
  exact hV.2.2.2.1 _
theorem div_nn {x : Int32} (h0 : ¬ x < 0) : ¬ x / 720 < 0 := by
  rw [Int32.lt_iff_toInt_lt] at h0 ⊢
  have z0 : (0 : Int32).toInt = 0 := by decide
  have z1 : (720 : Int32).toInt = 720 := by decide
  rw [z0] at h0
  rw [hb_divI (by omega) (by rw [z1]; omega), z0]
  have := Int.ediv_nonneg (a := x.toInt) (b := (720 : Int32).toInt) (by omega) (by rw [z1]; omega)
  omega
theorem lt_trans0 {x y : Int32} (h : x < 0) (h0 : ¬ y < 0) : x < y := by
  rw [Int32.lt_iff_toInt_lt] at h h0 ⊢
  omega
theorem le1 {x : Int32} : ¬ (x ≤ 1) → 1 < x := by
  intro h
  rw [Int32.le_iff_toInt_le] at h
  rw [Int32.lt_iff_toInt_lt]
  omega
theorem pr_frost (hO : Ok L f) (m0 : q0 ∈ L ∧ tk f q0 = 0) (m1 : q1 ∈ L ∧ tk f q1 = 27) (hC : Cpl L f q0 q1) (p_0 p_1 : Int32) : wp_WM_frost_w L f q0 p_0 p_1 (PairQ q0 q1 (fun L f Q => wp_Md_frost_w L f q1 p_0 p_1 Q)) := by
  obtain ⟨ad, hR, hV⟩ := id hC
  have hM := refs_m hO m0 m1 hR
  have htn : ¬ ti f q1 1 < 0 := (hO.i m1 (show slotD 27 1 = some (.inl (0, 359999)) from rfl)).1
  have hdn : ¬ ti f q1 1 / 720 < 0 := div_nn htn
  have hbad : (p_0 < ti f q1 1 / 720 ∨ 499 < p_0 ∨ p_1 < 0 ∨ 1 < p_1) → PairQ q0 q1 (fun L f Q => wp_Md_frost_w L f q1 p_0 p_1 Q) (-1) L f := by
    intro h _ _ _ y hy
    subst hy
    refine ⟨fun _ _ => ⟨rfl, hC⟩, fun g1 => ⟨fun _ _ => ⟨rfl, hC⟩, fun g2 => ⟨fun _ _ => ⟨rfl, hC⟩, fun g3 => ⟨fun _ _ => ⟨rfl, hC⟩, fun g4 => ?_⟩⟩⟩⟩
    rcases h with h | h | h | h
    · exact absurd h g1
    · exact absurd h g2
    · exact absurd h g3
    · exact absurd h g4
  unfold wp_WM_frost_w
  refine ⟨fun c1 => hbad (Or.inl (lt_trans0 c1 hdn)), fun c1 => ⟨fun c2 => hbad (Or.inr (Or.inl (ge500 c2))), fun c2 => ?_⟩⟩
  intro x1 e1 r4 e4
  rw [hV.1] at e1
  subst e1
  subst e4
  refine ⟨fun c3 => hbad (Or.inl c3), fun c3 => ⟨fun c4 => hbad (Or.inr (Or.inr (Or.inl c4))), fun c4 => ⟨fun c5 => ?_, fun c5 => hbad (Or.inr (Or.inr (Or.inr (le1 c5))))⟩⟩⟩
  have c5' : ¬ 1 < p_1 := by
    rw [Int32.le_iff_toInt_le] at c5
    rw [Int32.lt_iff_toInt_lt]
    omega
  intro q10 e10
  rw [hR.1] at e10; cases e10
  refine ⟨fun g => absurd g c1, fun _ => ⟨fun g => absurd g c2, fun _ => ?_⟩⟩
  intro q4 e4 x5 e5
  rw [hR.2.2.2.2.1] at e4; cases e4
  have hgood : ∀ (w r : Int32), (x5 = 0 → r = 0) → (¬ x5 = 0 → r = 1) → ((p_1 = 1 → w = vp_nar .boolean 1) ∧ (¬ p_1 = 1 → w = vp_nar .boolean 0)) → PairQ q0 q1 (fun L f Q => wp_Md_frost_w L f q1 p_0 p_1 Q) r L (sI f (ad 5) p_0.toNatClampNeg w) := by
    intro w r hr0 hr1 hw _ _ _ y hy
    have ey : ti (sI f (ad 5) p_0.toNatClampNeg w) q1 1 = ti f q1 1 := ti_sI_ne (ne_tk m1.2 (hM 5 (by decide)).2 (by decide))
    rw [ey] at hy
    subst hy
    refine ⟨fun g => absurd g c3, fun _ => ⟨fun g => absurd g (le500 c2), fun _ => ⟨fun g => absurd g c4, fun _ => ⟨fun g => absurd g c5', fun _ => ?_⟩⟩⟩⟩
    intro q12 e12 x13 e13
    rw [tr_sI, hR.2.2.2.2.2.2.2.2.2] at e12; cases e12
    rw [ti_sI_ne (ne_tk (hM 32 (by decide)).2 (hM 5 (by decide)).2 (by decide)), ← hV.2.2.2.2.1, e5] at e13
    subst e13
    have hc : ∀ w', w = w' → ∀ f2 : TF, f2 = sI (sI f (ad 5) p_0.toNatClampNeg w) (ad 32) p_0.toNatClampNeg w' → Cpl L f2 q0 q1 := by
      intro w' hw' f2 hf2
      subst hw'
      subst hf2
      exact cpl_frost hO m0 m1 hR hV
    refine ⟨fun g => ⟨fun g1 f2 hf2 _ _ => ⟨hr0 g, hc _ (hw.1 g1) f2 hf2⟩, fun g1 f2 hf2 _ _ => ⟨hr0 g, hc _ (hw.2 g1) f2 hf2⟩⟩, fun g => ⟨fun g1 f2 hf2 _ _ => ⟨hr1 g, hc _ (hw.1 g1) f2 hf2⟩, fun g1 f2 hf2 _ _ => ⟨hr1 g, hc _ (hw.2 g1) f2 hf2⟩⟩⟩
  have hfin : ∀ r : Int32, (x5 = 0 → r = 0) → (¬ x5 = 0 → r = 1) → ∀ q12 : Nat, tr f (ad 1) 3 = some q12 → ((p_1 = 1 → ∀ f_1 : TF, f_1 = sI f q12 p_0.toNatClampNeg (vp_nar .boolean 1) → Ok L f_1 → PairQ q0 q1 (fun L f Q => wp_Md_frost_w L f q1 p_0 p_1 Q) r L f_1) ∧ (¬ p_1 = 1 → ∀ f_1 : TF, f_1 = sI f q12 p_0.toNatClampNeg (vp_nar .boolean 0) → Ok L f_1 → PairQ q0 q1 (fun L f Q => wp_Md_frost_w L f q1 p_0 p_1 Q) r L f_1)) := by
    intro r hr0 hr1 q12 e12
    rw [hR.2.2.2.2.1] at e12; cases e12
    refine ⟨fun g f1 hf1 _ => ?_, fun g f1 hf1 _ => ?_⟩
    · subst hf1
      exact hgood _ r hr0 hr1 ⟨fun _ => rfl, fun g' => absurd g g'⟩
    · subst hf1
      exact hgood _ r hr0 hr1 ⟨fun g' => absurd g' g, fun _ => rfl⟩
  refine ⟨fun g => ⟨fun _ => hfin 0 (fun _ => rfl) (fun g' => absurd g g'), fun h => absurd h (by decide)⟩, fun g => ⟨fun h => absurd h (by decide), fun _ => hfin 1 (fun g' => absurd g' g) (fun _ => rfl)⟩⟩
theorem cpl_one {a i k : Nat} {v : Int32} (hO : Ok L f) (m0 : q0 ∈ L ∧ tk f q0 = 0) (m1 : q1 ∈ L ∧ tk f q1 = 27) (ha : tk f a = k) (hk : avL [(k, i)] = true) (hC : Cpl L f q0 q1) : Cpl L (sI f a i v) q0 q1 :=
  hC.ext hO m0 m1 (W := [(k, i)]) (ext_up rfl (fun j hj => by
    have ha' : (f a).1 = k := ha
    rw [ha'] at hj
    have : j ≠ i := by
      intro e
      subst e
      simp [wr] at hj
    exact ⟨by simp [upd, this], rfl, rfl⟩)) hk
theorem pr_bridge (hO : Ok L f) (m0 : q0 ∈ L ∧ tk f q0 = 0) (m1 : q1 ∈ L ∧ tk f q1 = 27) (hC : Cpl L f q0 q1) (p_0 : Int32) : wp_WM_bridge_w L f q0 p_0 (PairQ q0 q1 (fun L f Q => wp_Md_bridge_w L f q1 p_0 Q)) := by
  obtain ⟨ad, hR, hV⟩ := id hC
  have hM := refs_m hO m0 m1 hR
  have hn := hO.i m1 (show slotD 27 2 = some (.inl (0, 12)) from rfl)
  have z0 : (0 : Int32).toInt = 0 := by decide
  have z1 : (1 : Int32).toInt = 1 := by decide
  have z2 : (2 : Int32).toInt = 2 := by decide
  have z12 : (12 : Int32).toInt = 12 := by decide
  have hcmp : (p_0 < ti f q1 2 - 1) ↔ ¬ (ti f q1 2 - 2 < p_0) := by
    obtain ⟨h1, h2⟩ := hn
    generalize ti f q1 2 = n at h1 h2 ⊢
    rw [Int32.lt_iff_toInt_lt] at h1 h2
    rw [Int32.lt_iff_toInt_lt, Int32.lt_iff_toInt_lt, fb_subI (by omega) (by omega), fb_subI (by omega) (by omega)]
    omega
  have hgood : ((p_0 = (-1)) ∨ (¬ p_0 < 0 ∧ ¬ (ti f q1 2 - 2 < p_0))) → PairQ q0 q1 (fun L f Q => wp_Md_bridge_w L f q1 p_0 Q) 1 L (sI f (ad 1) 5 p_0) := by
    intro h hO1 m0' m1'
    have hC1 : Cpl L (sI f (ad 1) 5 p_0) q0 q1 := cpl_one hO m0 m1 (hM 1 (by decide)).2 (by decide +kernel) hC
    have e2 : ti (sI f (ad 1) 5 p_0) q1 2 = ti f q1 2 := ti_sI_ne (ne_tk m1.2 (hM 1 (by decide)).2 (by decide))
    have hfin : ∀ f2 : TF, f2 = sI (sI f (ad 1) 5 p_0) q1 4 p_0 → Cpl L f2 q0 q1 := by
      intro f2 hf2
      subst hf2
      exact cpl_one hO1 m0' m1' m1'.2 (by decide +kernel) hC1
    refine ⟨fun g f2 hf2 _ _ => ⟨rfl, hfin f2 hf2⟩, fun g x3 e3 => ?_⟩
    rw [e2] at e3
    subst e3
    rcases h with h | ⟨h1, h2⟩
    · exact absurd h g
    · exact ⟨fun g1 => absurd g1 h1, fun _ => ⟨fun g2 => absurd g2 h2, fun _ f2 hf2 _ _ => ⟨rfl, hfin f2 hf2⟩⟩⟩
  have hbad : ¬ (p_0 = (-1)) → (p_0 < 0 ∨ ti f q1 2 - 2 < p_0) → PairQ q0 q1 (fun L f Q => wp_Md_bridge_w L f q1 p_0 Q) (-1) L f := by
    intro h0 h _ _ _
    refine ⟨fun g => absurd g h0, fun g x3 e3 => ?_⟩
    subst e3
    refine ⟨fun _ _ => ⟨rfl, hC⟩, fun g1 => ⟨fun _ _ => ⟨rfl, hC⟩, fun g2 => ?_⟩⟩
    rcases h with h | h
    · exact absurd h g1
    · exact absurd h g2
  unfold wp_WM_bridge_w
  refine ⟨fun c1 q2 e2 f1 hf1 _ => ?_, fun c1 => ⟨fun c2 => hbad c1 (Or.inl c2), fun c2 q5 e5 x6 e6 => ?_⟩⟩
  · rw [hR.1] at e2; cases e2
    subst hf1
    exact hgood (Or.inl c1)
  · rw [hR.1] at e5; cases e5
    rw [hV.2.1] at e6
    subst e6
    refine ⟨fun c3 f1 hf1 _ => ?_, fun c3 => hbad c1 (Or.inr ?_)⟩
    · subst hf1
      exact hgood (Or.inr ⟨c2, hcmp.mp c3⟩)
    · exact Classical.not_not.mp (fun h => c3 (hcmp.mpr h))
theorem cpl_stairs {ad : Nat → Nat} {i : Nat} {v w : Int32} (hO : Ok L f) (m0 : q0 ∈ L ∧ tk f q0 = 0) (m1 : q1 ∈ L ∧ tk f q1 = 27) (hR : Refs f q0 q1 ad) (hV : Vals f q0 q1 ad) : Cpl L (sI (sI (sI (sI f (ad 2) i v) (ad 1) 4 w) (ad 28) i v) q1 2 w) q0 q1 := by
  have hM := refs_m hO m0 m1 hR
  obtain ⟨v1, v2, v3, v4, v5, v6⟩ := hV
  have hr : ∀ a j, tr (sI (sI (sI (sI f (ad 2) i v) (ad 1) 4 w) (ad 28) i v) q1 2 w) a j = tr f a j := fun a j => by rw [tr_sI, tr_sI, tr_sI, tr_sI]
  have nn : ∀ (b k : Nat), tk f b = k → k ≠ 2 → k ≠ 1 → k ≠ 28 → k ≠ 27 → ∀ z, ti (sI (sI (sI (sI f (ad 2) i v) (ad 1) 4 w) (ad 28) i v) q1 2 w) b z = ti f b z := fun b k hb h2 h1 h28 h27 z => by
    rw [ti_sI_ne (ne_tk hb m1.2 h27), ti_sI_ne (ne_tk hb (hM 28 (by decide)).2 h28), ti_sI_ne (ne_tk hb (hM 1 (by decide)).2 h1), ti_sI_ne (ne_tk hb (hM 2 (by decide)).2 h2)]
  have a12 : ad 1 ≠ ad 2 := ne_tk (hM 1 (by decide)).2 (hM 2 (by decide)).2 (by decide)
  have a1m : ad 1 ≠ ad 28 := ne_tk (hM 1 (by decide)).2 (hM 28 (by decide)).2 (by decide)
  have a1q : ad 1 ≠ q1 := ne_tk (hM 1 (by decide)).2 m1.2 (by decide)
  have q2 : q1 ≠ ad 2 := ne_tk m1.2 (hM 2 (by decide)).2 (by decide)
  have qm : q1 ≠ ad 28 := ne_tk m1.2 (hM 28 (by decide)).2 (by decide)
  have a2m : ad 2 ≠ ad 28 := ne_tk (hM 2 (by decide)).2 (hM 28 (by decide)).2 (by decide)
  refine ⟨ad, refs_same hr hR, ?_, ?_, fun j => ?_, fun j => ?_, fun j => ?_, rows_same hO hM hr (fun b hb => nn b 19 hb (by decide) (by decide) (by decide) (by decide)) (nn _ _ (hM 30 (by decide)).2 (by decide) (by decide) (by decide) (by decide)) (nn _ _ (hM 31 (by decide)).2 (by decide) (by decide) (by decide) (by decide)) v6⟩
  · rw [nn _ _ m0.2 (by decide) (by decide) (by decide) (by decide), ti_sI_nj (by decide), ti_sI_ne qm, ti_sI_ne a1q.symm, ti_sI_ne q2]; exact v1
  · rw [ti_sI_eq, ti_sI_ne a1q, ti_sI_ne a1m, ti_sI_eq]
  · rw [ti_sI_ne q2.symm, ti_sI_ne a2m, ti_sI_ne a12.symm, ti_sI_ne qm.symm]
    by_cases hj : j = i
    · subst hj; rw [ti_sI_eq, ti_sI_eq]
    · rw [ti_sI_nj hj, ti_sI_nj hj, ti_sI_ne a1m.symm, ti_sI_ne a2m.symm]; exact v3 j
  · rw [nn _ _ (hM 3 (by decide)).2 (by decide) (by decide) (by decide) (by decide), nn _ _ (hM 29 (by decide)).2 (by decide) (by decide) (by decide) (by decide)]; exact v4 j
  · rw [nn _ _ (hM 5 (by decide)).2 (by decide) (by decide) (by decide) (by decide), nn _ _ (hM 32 (by decide)).2 (by decide) (by decide) (by decide) (by decide)]; exact v5 j
theorem pr_stairs (hO : Ok L f) (m0 : q0 ∈ L ∧ tk f q0 = 0) (m1 : q1 ∈ L ∧ tk f q1 = 27) (hC : Cpl L f q0 q1) (p_0 : Int32) : wp_WM_stairs_w L f q0 p_0 (PairQ q0 q1 (fun L f Q => wp_Md_stairs_w L f q1 p_0 Q)) := by
  obtain ⟨ad, hR, hV⟩ := id hC
  have hM := refs_m hO m0 m1 hR
  have hn := hO.i m1 (show slotD 27 2 = some (.inl (0, 12)) from rfl)
  have z0 : (0 : Int32).toInt = 0 := by decide
  have z1 : (1 : Int32).toInt = 1 := by decide
  have zm : (-1 : Int32).toInt = -1 := by decide
  have z12 : (12 : Int32).toInt = 12 := by decide
  have hle : ti f q1 2 ≤ 0 ↔ ti f q1 2 = 0 := by
    obtain ⟨h1, h2⟩ := hn
    generalize ti f q1 2 = n at h1 h2 ⊢
    rw [Int32.lt_iff_toInt_lt] at h1 h2
    rw [Int32.le_iff_toInt_le, ← Int32.toInt_inj]
    omega
  have h12 : ti f q1 2 < 12 ↔ ¬ ti f q1 2 = 12 := by
    obtain ⟨h1, h2⟩ := hn
    generalize ti f q1 2 = n at h1 h2 ⊢
    rw [Int32.lt_iff_toInt_lt] at h1 h2
    rw [Int32.lt_iff_toInt_lt, ← Int32.toInt_inj]
    omega
  unfold wp_WM_stairs_w
  refine ⟨fun c1 _ _ _ => ⟨fun _ _ => ⟨rfl, hC⟩, fun g => absurd c1 g⟩, fun c1 => ⟨fun c2 _ _ _ => ⟨fun g => absurd g c1, fun _ => ⟨fun _ _ => ⟨rfl, hC⟩, fun g => absurd c2 g⟩⟩, fun c2 q3 e3 => ?_⟩⟩
  rw [hR.1] at e3; cases e3
  -- adding
  have hadd : (ti f q1 2 = 0 ∨ (¬ ti f q1 2 = 0 ∧ ti f (ad 28) (ti f q1 2 - 1).toNatClampNeg < p_0)) → ti f q1 2 < 12 → wp_Rv_addStairs_w L f (ad 1) p_0 (fun (r_8 : Int32) (L_1 : List Nat) (f_1 : TF) => Ok L_1 f_1 → Ext W_Rv_addStairs_w L f L_1 f_1 → PairQ q0 q1 (fun L f Q => wp_Md_stairs_w L f q1 p_0 Q) r_8 L_1 f_1) := by
    intro hc hlt q1' e1 f1 hf1 _ f2 hf2 _ _ _ _ m0' m1'
    rw [hR.2.1] at e1; cases e1
    rw [hV.2.1] at hf1 hf2 ⊢
    subst hf1
    have q2 : q1 ≠ ad 2 := ne_tk m1.2 (hM 2 (by decide)).2 (by decide)
    have a1q : q1 ≠ ad 1 := ne_tk m1.2 (hM 1 (by decide)).2 (by decide)
    have m2 : ad 28 ≠ ad 2 := ne_tk (hM 28 (by decide)).2 (hM 2 (by decide)).2 (by decide)
    have m1' : ad 28 ≠ ad 1 := ne_tk (hM 28 (by decide)).2 (hM 1 (by decide)).2 (by decide)
    have en : ti f2 q1 2 = ti f q1 2 := by rw [hf2, ti_sI_ne a1q, ti_sI_ne q2]
    have em : ∀ z, ti f2 (ad 28) z = ti f (ad 28) z := fun z => by rw [hf2, ti_sI_ne m1', ti_sI_ne m2]
    have er : tr f2 q1 3 = some (ad 28) := by rw [hf2, tr_sI, tr_sI]; exact hR.2.2.2.2.2.1
    have hfin : ∀ q : Nat, tr f2 q1 3 = some q → ∀ f3 : TF, f3 = sI f2 q (ti f q1 2).toNatClampNeg p_0 → Ok L f3 → ∀ f4 : TF, f4 = sI f3 q1 2 (ti f q1 2 + 1) → Ok L f4 → Ok L f4 → (ti f q1 2 + 1 - 1 = ti f q1 2 + 1 - 1 ∧ Cpl L f4 q0 q1) := by
      intro q hq f3 hf3 _ f4 hf4 _ _
      rw [er] at hq; cases hq
      subst hf3 hf4 hf2
      exact ⟨rfl, cpl_stairs hO m0 m1 hR hV⟩
    refine ⟨fun g => absurd g c1, fun _ => ⟨fun g => absurd g c2, fun _ x4 e4 => ?_⟩⟩
    rw [en] at e4
    subst e4
    refine ⟨fun g q6 e6 f3 hf3 h3 f4 hf4 h4 h5 => hfin q6 e6 f3 hf3 h3 f4 hf4 h4 h5, fun g q9 e9 x10 e10 => ?_⟩
    have e9' := e9
    rw [er] at e9; cases e9
    rw [em] at e10
    refine ⟨fun g1 => ⟨fun g2 => absurd g2 (h12.mp hlt), fun _ f3 hf3 h3 f4 hf4 h4 h5 => hfin _ e9' f3 hf3 h3 f4 hf4 h4 h5⟩, fun g1 => ?_⟩
    rcases hc with hc | ⟨_, hc⟩
    · exact absurd (hle.mpr hc) g
    · rw [e10] at hc; exact absurd hc g1
  -- refusals
  have hbad : ¬ ti f q1 2 = 0 → ¬ (ti f (ad 28) (ti f q1 2 - 1).toNatClampNeg < p_0) → PairQ q0 q1 (fun L f Q => wp_Md_stairs_w L f q1 p_0 Q) (-1) L f := by
    intro h0 h _ _ _
    refine ⟨fun g => absurd g c1, fun _ => ⟨fun g => absurd g c2, fun _ x4 e4 => ?_⟩⟩
    subst e4
    refine ⟨fun g => absurd (hle.mp g) h0, fun g q9 e9 x10 e10 => ?_⟩
    rw [hR.2.2.2.2.2.1] at e9; cases e9
    subst e10
    exact ⟨fun g1 => absurd g1 h, fun _ _ => ⟨rfl, hC⟩⟩
  have hfull : ¬ ti f q1 2 = 0 → (ti f (ad 28) (ti f q1 2 - 1).toNatClampNeg < p_0) → ¬ ti f q1 2 < 12 → PairQ q0 q1 (fun L f Q => wp_Md_stairs_w L f q1 p_0 Q) (-3) L f := by
    intro h0 h hn12 _ _ _
    refine ⟨fun g => absurd g c1, fun _ => ⟨fun g => absurd g c2, fun _ x4 e4 => ?_⟩⟩
    subst e4
    refine ⟨fun g => absurd (hle.mp g) h0, fun g q9 e9 x10 e10 => ?_⟩
    rw [hR.2.2.2.2.2.1] at e9; cases e9
    subst e10
    exact ⟨fun _ => ⟨fun _ _ => ⟨rfl, hC⟩, fun g2 => absurd (h12.mpr g2) hn12⟩, fun g1 => absurd h g1⟩
  intro x1 e1
  rw [hV.2.1] at e1
  subst e1
  refine ⟨fun g0 => ⟨fun _ x6 e6 => ?_, fun g => ?_⟩, fun g0 q3 e3 x4 e4 => ?_⟩
  · rw [hV.2.1] at e6
    subst e6
    have hl : ti f q1 2 < 12 := by rw [g0]; decide
    exact ⟨fun _ => hadd (Or.inl g0) hl, fun g => absurd hl g⟩
  · exact absurd (by
      rw [Int32.lt_iff_toInt_lt] at c1 ⊢
      omega) g
  · rw [hR.2.1] at e3; cases e3
    rw [hV.2.2.1] at e4
    subst e4
    refine ⟨fun g x6 e6 => ?_, fun g => hbad g0 g⟩
    rw [hV.2.1] at e6
    subst e6
    exact ⟨fun gl => hadd (Or.inr ⟨g0, g⟩) gl, fun gl => hfull g0 g gl⟩
/-- the height of the water in an hour of a day -/
def hgt (f : TF) (ad : Nat → Nat) (d h : Int32) : Int32 := if 500 ≤ d then ti f (ad 29) ((h + d) - (h + d) / 12 * 12).toNatClampNeg else if ti f (ad 30) d.toNatClampNeg = 0 then ti f (ad 29) ((h + d) - (h + d) / 12 * 12).toNatClampNeg else ti f (ad 31) ((12 * d) + h).toNatClampNeg
theorem ix12 {d h : Int32} (h1 : ¬ d < 0) (h2 : ¬ 499 < d) (h3 : ¬ h < 0) (h4 : ¬ 11 < h) : ((12 * d) + h : Int32).toNatClampNeg = 12 * d.toNatClampNeg + h.toNatClampNeg := by
  have a1 := i32_nat h1
  have a3 := i32_nat h3
  rw [Int32.lt_iff_toInt_lt] at h1 h2 h3 h4
  have z0 : (0 : Int32).toInt = 0 := by decide
  have z1 : (499 : Int32).toInt = 499 := by decide
  have z2 : (12 : Int32).toInt = 12 := by decide
  have z3 : (11 : Int32).toInt = 11 := by decide
  have m1 : (12 * d : Int32).toInt = 12 * d.toInt := by
    rw [fb_mulI (by rw [z2]; omega) (by rw [z2]; omega), z2]
  have m2 : (12 * d + h : Int32).toInt = 12 * d.toInt + h.toInt := by
    rw [fb_addI (by rw [m1]; omega) (by rw [m1]; omega), m1]
  have a5 := i32_nat (x := (12 * d + h : Int32)) (by rw [Int32.lt_iff_toInt_lt, m2]; omega)
  omega
theorem nat_lt {d : Int32} {N : Nat} {K : Int32} (h1 : ¬ d < 0) (h2 : ¬ K < d) (hK : K.toInt + 1 = N) : d.toNatClampNeg < N := by
  have a1 := i32_nat h1
  rw [Int32.lt_iff_toInt_lt] at h2
  omega
theorem hgt_m {ad : Nat → Nat} {Q : Int32 → Prop} (hR : Refs f q0 q1 ad) (d h : Int32) (hq : Q (hgt f ad d h)) : wp_Md_levelOf_w L f q1 d h Q := by
  unfold hgt at hq
  refine ⟨fun g q2 e2 y3 e3 x4 e4 => ?_, fun g q5 e5 x6 e6 => ⟨fun g1 q8 e8 y9 e9 x10 e10 => ?_, fun g1 q11 e11 x12 e12 => ?_⟩⟩
  · rw [hR.2.2.2.2.2.2.1] at e2; cases e2
    subst e3 e4
    rw [if_pos g] at hq; exact hq
  · rw [hR.2.2.2.2.2.2.2.1] at e5; cases e5
    rw [hR.2.2.2.2.2.2.1] at e8; cases e8
    subst e6 e9 e10
    rw [if_neg g, if_pos g1] at hq; exact hq
  · rw [hR.2.2.2.2.2.2.2.1] at e5; cases e5
    rw [hR.2.2.2.2.2.2.2.2.1] at e11; cases e11
    subst e6 e12
    rw [if_neg g, if_neg g1] at hq; exact hq
theorem hgt_x {ad : Nat → Nat} {Q : Int32 → Prop} (hR : Refs f q0 q1 ad) (hV : Vals f q0 q1 ad) (d h : Int32) (hd : ¬ d < 0) (hh : ¬ h < 0) (hh2 : ¬ 11 < h) (hq : Q (hgt f ad d h)) : wp_Rv_height_w L f (ad 1) d h Q := by
  unfold hgt at hq
  refine ⟨fun g q2 e2 y3 e3 x4 e4 => ?_, fun g q5 e5 => ⟨fun g1 q7 e7 y8 e8 x9 e9 => ?_, fun q6 g1 x10 e10 => ?_⟩⟩
  · rw [hR.2.2.1] at e2; cases e2
    rw [hV.2.2.2.1] at e4
    subst e3 e4
    rw [if_pos g] at hq; exact hq
  · rw [hR.2.2.2.1] at e5; cases e5
    rw [hR.2.2.1] at e7; cases e7
    rw [hV.2.2.2.1] at e9
    have hz : ti f (ad 30) d.toNatClampNeg = 0 := by
      rcases hV.2.2.2.2.2.1 d.toNatClampNeg (nat_lt (K := 499) hd (le500 g) (by decide)) with ⟨_, k2⟩ | ⟨b, k1, _⟩
      · exact k2
      · rw [k1] at g1; cases g1
    subst e8 e9
    rw [if_neg g, if_pos hz] at hq; exact hq
  · rw [hR.2.2.2.1] at e5; cases e5
    rcases hV.2.2.2.2.2.1 d.toNatClampNeg (nat_lt (K := 499) hd (le500 g) (by decide)) with ⟨k1, _⟩ | ⟨b, k1, k2, k3⟩
    · rw [k1] at g1; cases g1
    · rw [k1] at g1; cases g1
      have hne : ¬ ti f (ad 30) d.toNatClampNeg = 0 := by rw [k2]; decide
      rw [k3 _ (nat_lt (K := 11) hh hh2 (by decide)), ← ix12 hd (le500 g) hh hh2] at e10
      subst e10
      rw [if_neg g, if_neg hne] at hq; exact hq
theorem pr_flow (hO : Ok L f) (m0 : q0 ∈ L ∧ tk f q0 = 0) (m1 : q1 ∈ L ∧ tk f q1 = 27) (hC : Cpl L f q0 q1) (p_0 p_1 : Int32) : wp_WM_flow_w L f q0 p_0 p_1 (fun r => wp_Md_flow_w L f q1 p_0 p_1 (fun r' => r = r')) := by
  obtain ⟨ad, hR, hV⟩ := id hC
  unfold wp_WM_flow_w
  refine ⟨fun c1 => ⟨fun _ => rfl, fun g => absurd c1 g⟩, fun c1 => ⟨fun c2 => ⟨fun g => absurd g c1, fun _ => ⟨fun _ => rfl, fun g => absurd (ge500 c2) g⟩⟩, fun c2 => ⟨fun c3 => ⟨fun g => absurd g c1, fun _ => ⟨fun g => absurd g (le500 c2), fun _ => ⟨fun _ => rfl, fun g => absurd c3 g⟩⟩⟩, fun c3 => ⟨fun c4 => ⟨fun g => absurd g c1, fun _ => ⟨fun g => absurd g (le500 c2), fun _ => ⟨fun g => absurd g c3, fun _ => ⟨fun _ => rfl, fun g => absurd (ge12 c4) g⟩⟩⟩⟩, fun c4 q7 e7 => ?_⟩⟩⟩⟩
  rw [hR.1] at e7; cases e7
  have hmm : ∀ r : Int32, (p_1 = 11 → r = hgt f ad (p_0 + 1) 0 - hgt f ad p_0 p_1) → (¬ p_1 = 11 → r = hgt f ad p_0 (p_1 + 1) - hgt f ad p_0 p_1) → wp_Md_flow_w L f q1 p_0 p_1 (fun r' => r = r') := by
    intro r h1 h2
    refine ⟨fun g => absurd g c1, fun _ => ⟨fun g => absurd g (le500 c2), fun _ => ⟨fun g => absurd g c3, fun _ => ⟨fun g => absurd g (le12 c4), fun _ => ⟨fun g => hgt_m hR _ _ (hgt_m hR _ _ (h1 g)), fun g => hgt_m hR _ _ (hgt_m hR _ _ (h2 g))⟩⟩⟩⟩⟩
  have z0 : (0 : Int32).toInt = 0 := by decide
  have z1 : (1 : Int32).toInt = 1 := by decide
  have z11 : (11 : Int32).toInt = 11 := by decide
  have z499 : (499 : Int32).toInt = 499 := by decide
  have c4' := le12 c4
  have c2' := le500 c2
  have d1 : ¬ p_0 + 1 < 0 := by
    rw [Int32.lt_iff_toInt_lt] at c1 c2' ⊢
    rw [fb_addI (by omega) (by omega)]
    omega
  refine ⟨fun g => hgt_x hR hV _ _ d1 (by decide) (by decide) (hgt_x hR hV _ _ c1 c3 c4' (hmm _ (fun _ => rfl) (fun h => absurd g h))), fun g => ?_⟩
  have g' : ¬ p_1.toInt = 11 := fun e => g (by rw [← Int32.toInt_inj, e, z11])
  have hb : ¬ p_1 + 1 < 0 ∧ ¬ 11 < p_1 + 1 := by
    rw [Int32.lt_iff_toInt_lt] at c3 c4'
    rw [Int32.lt_iff_toInt_lt, Int32.lt_iff_toInt_lt, fb_addI (by omega) (by omega)]
    omega
  exact hgt_x hR hV _ _ c1 hb.1 hb.2 (hgt_x hR hV _ _ c1 c3 c4' (hmm _ (fun h => absurd h g) (fun _ => rfl)))
/-- between the two clocks: the first stands at cN, the second at cT -/
def Mid (cN cT : Int32) (q0 q1 : Nat) (L : List Nat) (f : TF) : Prop := (q0 ∈ L ∧ tk f q0 = 0) ∧ (q1 ∈ L ∧ tk f q1 = 27) ∧ CplR f q0 q1 ∧ ti f q0 10 = cN ∧ ti f q1 1 = cT
theorem Mid.ext {cN cT : Int32} {W : List (Nat × Nat)} {L1 : List Nat} {f1 : TF} (h : Mid cN cT q0 q1 L f) (hO : Ok L f) (hE : Ext W L f L1 f1) (ha : avL W = true) : Mid cN cT q0 q1 L1 f1 :=
  ⟨hE.m h.1, hE.m h.2.1, h.2.2.1.ext hO h.1 h.2.1 hE (avL_t ha).1, (hE.ei h.1 (avL_t ha).2.1).trans h.2.2.2.1, (hE.ei h.2.1 (avL_t ha).2.2).trans h.2.2.2.2⟩
theorem ext_sI {a i k : Nat} {v : Int32} (ha : tk f a = k) : Ext [(k, i)] L f L (sI f a i v) :=
  ext_up rfl (fun j hj => by
    have ha' : (f a).1 = k := ha
    rw [ha'] at hj
    have : j ≠ i := by
      intro e
      subst e
      simp [wr] at hj
    exact ⟨by simp [upd, this], rfl, rfl⟩)
theorem Mid.tick {cN cT v : Int32} (h : Mid cN cT q0 q1 L f) (hO : Ok L f) : Mid cN v q0 q1 L (sI f q1 1 v) := by
  have hE : Ext [(27, 1)] L f L (sI f q1 1 v) := ext_sI h.2.1.2
  refine ⟨hE.m h.1, hE.m h.2.1, h.2.2.1.ext hO h.1 h.2.1 hE (by decide +kernel), ?_, ti_sI_eq⟩
  rw [ti_sI_ne (ne_tk h.1.2 h.2.1.2 (by decide))]
  exact h.2.2.2.1
/-- the row of a day is told: h is set behind the filling -/
theorem cpl_level {L1 : List Nat} {f1 : TF} {ad : Nat → Nat} {b dn : Nat} (hR : Refs f1 q0 q1 ad) (hT : ti f1 q0 10 = ti f1 q1 1 ∧ ti f1 (ad 1) 4 = ti f1 q1 2 ∧ (∀ j : Nat, ti f1 (ad 2) j = ti f1 (ad 28) j) ∧ (∀ j : Nat, ti f1 (ad 3) j = ti f1 (ad 29) j) ∧ ∀ j : Nat, ti f1 (ad 5) j = ti f1 (ad 32) j) (hb : tr f1 (ad 4) dn = some b) (h30 : ti f1 (ad 30) dn = 1) (hrow : ∀ h : Nat, h < 12 → ti f1 b h = ti f1 (ad 31) (12 * dn + h)) (hoth : ∀ d : Nat, d < 500 → d ≠ dn → (tr f1 (ad 4) d = none ∧ ti f1 (ad 30) d = 0) ∨ ∃ b, tr f1 (ad 4) d = some b ∧ ti f1 (ad 30) d = 1 ∧ ∀ h : Nat, h < 12 → ti f1 b h = ti f1 (ad 31) (12 * d + h)) (hinj : ∀ d d' b : Nat, d < 500 → d' < 500 → tr f1 (ad 4) d = some b → tr f1 (ad 4) d' = some b → d = d') : Cpl L1 f1 q0 q1 := by
  refine ⟨ad, hR, hT.1, hT.2.1, hT.2.2.1, hT.2.2.2.1, hT.2.2.2.2, fun d hd' => ?_, hinj⟩
  by_cases e : d = dn
  · subst e
    exact Or.inr ⟨b, hb, h30, hrow⟩
  · exact hoth d hd' e
/-- what the filling of a new row puts at v -/
def fillv (f : TF) (qt : Nat) (d v : Int32) : Int32 := ti f qt ((v + d) - (v + d) / 12 * 12).toNatClampNeg
theorem i32_ne_nat {x y : Int32} (hx : ¬ x < 0) (hy : ¬ y < 0) (h : ¬ x = y) : x.toNatClampNeg ≠ y.toNatClampNeg := by
  intro e
  have a := i32_nat hx
  have b := i32_nat hy
  exact h (by rw [← Int32.toInt_inj]; omega)
theorem lt_succ32 {x v : Int32} (hv0 : ¬ v < 0) (hv : ¬ 12 ≤ v) (h : x < v + 1) : x = v ∨ x < v := by
  have z1 : (1 : Int32).toInt = 1 := by decide
  have z0 : (0 : Int32).toInt = 0 := by decide
  have z12 : (12 : Int32).toInt = 12 := by decide
  rw [Int32.le_iff_toInt_le] at hv
  rw [Int32.lt_iff_toInt_lt] at hv0 h
  rw [fb_addI (by omega) (by omega)] at h
  rw [Int32.lt_iff_toInt_lt, ← Int32.toInt_inj]
  omega
theorem succ_ge {v : Int32} (hv0 : ¬ v < 0) (hv : ¬ 12 ≤ v) : ¬ v + 1 < 0 := by
  have z1 : (1 : Int32).toInt = 1 := by decide
  have z0 : (0 : Int32).toInt = 0 := by decide
  have z12 : (12 : Int32).toInt = 12 := by decide
  rw [Int32.le_iff_toInt_le] at hv
  rw [Int32.lt_iff_toInt_lt] at hv0 ⊢
  rw [fb_addI (by omega) (by omega)]
  omega
theorem xt_loop {qr qw qn qt : Nat} {L1 : List Nat} {f1 : TF} {d h v : Int32} {Q : List Nat → TF → Prop} (hqt : tr f1 qr 1 = some qt) (hne : qt ≠ qn)
    (hx : ∀ f2 : TF, (∀ b z, b ≠ qn → ti f2 b z = ti f1 b z) → (∀ b z, tr f2 b z = tr f1 b z) → (∀ x : Int32, ¬ x < 0 → ¬ 12 ≤ x → ti f2 qn x.toNatClampNeg = fillv f1 qt d x) → Ok L1 (sI (sR f2 qw d.toNatClampNeg qn) qn h.toNatClampNeg v) → Q L1 (sI (sR f2 qw d.toNatClampNeg qn) qn h.toNatClampNeg v)) :
    ∀ (n : Nat) (w : Int32) (f2 : TF), ¬ w < 0 → (∀ b z, b ≠ qn → ti f2 b z = ti f1 b z) → (∀ b z, tr f2 b z = tr f1 b z) → (∀ x : Int32, ¬ x < 0 → x < w → ti f2 qn x.toNatClampNeg = fillv f1 qt d x) → wpL_Rv_tell_w_22_3 L f qr d h v qw qn L1 f1 Q n w L1 f2 := by
  have hstep : ∀ (rec_3 : Int32 → List Nat → TF → Prop) (w : Int32) (f2 : TF), ¬ w < 0 → (∀ b z, b ≠ qn → ti f2 b z = ti f1 b z) → (∀ b z, tr f2 b z = tr f1 b z) → (∀ x : Int32, ¬ x < 0 → x < w → ti f2 qn x.toNatClampNeg = fillv f1 qt d x) → (∀ f3 : TF, ¬ (w + 1) < 0 → (∀ b z, b ≠ qn → ti f3 b z = ti f1 b z) → (∀ b z, tr f3 b z = tr f1 b z) → (∀ x : Int32, ¬ x < 0 → x < w + 1 → ti f3 qn x.toNatClampNeg = fillv f1 qt d x) → rec_3 (w + 1) L1 f3) → wpB_Rv_tell_w_22_3 L f qr d h v qw qn L1 f1 Q rec_3 w L1 f2 := by
    intro rec_3 w f2 hw hi hr hf hrec hO2 hE2
    refine ⟨fun g f3 hf3 hO3 f4 hf4 hO4 => ?_, fun g q7 e7 y8 e8 x9 e9 f3 hf3 hO3 => ?_⟩
    · subst hf3 hf4
      refine hx f2 hi hr (fun x h0 h1 => hf x h0 ?_) hO4
      rw [Int32.le_iff_toInt_le] at g h1
      rw [Int32.lt_iff_toInt_lt]
      omega
    · rw [hr, hqt] at e7; cases e7
      subst e8
      rw [hi _ _ hne] at e9
      subst hf3
      refine hrec _ (succ_ge hw g) (fun b z hb => ?_) (fun b z => ?_) (fun x h0 h1 => ?_)
      · rw [ti_sI_ne hb]; exact hi b z hb
      · rw [tr_sI]; exact hr b z
      · rcases lt_succ32 hw g h1 with rfl | h2
        · rw [ti_sI_eq, ← e9]; rfl
        · have hxw : ¬ x = w := by
            intro e
            subst e
            exact absurd h2 (by rw [Int32.lt_iff_toInt_lt]; omega)
          rw [ti_sI_nj (i32_ne_nat h0 hw hxw)]
          exact hf x h0 h2
  intro n
  induction n with
  | zero =>
    intro w f2 a1 a2 a3 a4
    exact hstep (fun _ _ _ => True) w f2 a1 a2 a3 a4 (fun _ _ _ _ _ => trivial)
  | succ n ih =>
    intro w f2 a1 a2 a3 a4
    exact hstep _ w f2 a1 a2 a3 a4 (fun f3 b1 b2 b3 b4 => ih (w + 1) f3 b1 b2 b3 b4)
theorem mt_loop {mh mw mt : Nat} {d h v : Int32} {Q : Int32 → List Nat → TF → Prop} (hd : ¬ d < 0) (hd2 : ¬ 499 < d) (h6 : tr f q1 6 = some mh) (h7 : tr f q1 7 = some mw) (h5 : tr f q1 5 = some mt) (n1 : mh ≠ mw) (n2 : mt ≠ mw) (h0 : ti f mh d.toNatClampNeg = 0)
    (hx : ∀ g : TF, (∀ b z, b ≠ mw → ti g b z = ti f b z) → (∀ b z, tr g b z = tr f b z) → (∀ x : Int32, ¬ x < 0 → ¬ 12 ≤ x → ti g mw (12 * d.toNatClampNeg + x.toNatClampNeg) = fillv f mt d x) → (∀ z, (z < 12 * d.toNatClampNeg ∨ 12 * d.toNatClampNeg + 12 ≤ z) → ti g mw z = ti f mw z) → Ok L (sI (sI g mh d.toNatClampNeg (vp_nar .boolean 1)) mw ((12 * d) + h).toNatClampNeg v) → Q 1 L (sI (sI g mh d.toNatClampNeg (vp_nar .boolean 1)) mw ((12 * d) + h).toNatClampNeg v)) :
    ∀ (n : Nat) (w : Int32) (g : TF), ¬ w < 0 → (∀ b z, b ≠ mw → ti g b z = ti f b z) → (∀ b z, tr g b z = tr f b z) → (∀ x : Int32, ¬ x < 0 → x < w → ti g mw (12 * d.toNatClampNeg + x.toNatClampNeg) = fillv f mt d x) → (∀ z, (z < 12 * d.toNatClampNeg ∨ 12 * d.toNatClampNeg + 12 ≤ z) → ti g mw z = ti f mw z) → wpL_Md_level_w_33_10 L f q1 d h v Q n w L g := by
  have hstep : ∀ (rec_10 : Int32 → List Nat → TF → Prop) (w : Int32) (g : TF), ¬ w < 0 → (∀ b z, b ≠ mw → ti g b z = ti f b z) → (∀ b z, tr g b z = tr f b z) → (∀ x : Int32, ¬ x < 0 → x < w → ti g mw (12 * d.toNatClampNeg + x.toNatClampNeg) = fillv f mt d x) → (∀ z, (z < 12 * d.toNatClampNeg ∨ 12 * d.toNatClampNeg + 12 ≤ z) → ti g mw z = ti f mw z) → (∀ g2 : TF, ¬ (w + 1) < 0 → (∀ b z, b ≠ mw → ti g2 b z = ti f b z) → (∀ b z, tr g2 b z = tr f b z) → (∀ x : Int32, ¬ x < 0 → x < w + 1 → ti g2 mw (12 * d.toNatClampNeg + x.toNatClampNeg) = fillv f mt d x) → (∀ z, (z < 12 * d.toNatClampNeg ∨ 12 * d.toNatClampNeg + 12 ≤ z) → ti g2 mw z = ti f mw z) → rec_10 (w + 1) L g2) → wpB_Md_level_w_33_10 L f q1 d h v Q rec_10 w L g := by
    intro rec_10 w g hw hi hr hf ho hrec hO2 hE2
    refine ⟨fun c q12 e12 f2 hf2 hO3 q14 e14 f3 hf3 hO4 => ?_, fun c q16 e16 x17 e17 => ⟨fun _ q22 e22 q23 e23 y24 e24 x25 e25 f2 hf2 hO3 => ?_, fun c17 => ?_⟩⟩
    · rw [hr, h6] at e12; cases e12
      subst hf2
      rw [tr_sI, hr, h7] at e14; cases e14
      subst hf3
      refine hx g hi hr (fun x h0 h1 => hf x h0 ?_) ho hO4
      rw [Int32.le_iff_toInt_le] at c h1
      rw [Int32.lt_iff_toInt_lt]
      omega
    · rw [hr, h7] at e22; cases e22
      rw [hr, h5] at e23; cases e23
      subst e24
      rw [hi _ _ n2] at e25
      have hw11 : ¬ 11 < w := le12 c
      have hix : ((12 * d) + w : Int32).toNatClampNeg = 12 * d.toNatClampNeg + w.toNatClampNeg := ix12 hd hd2 hw hw11
      rw [hix] at hf2
      subst hf2
      have hwn : w.toNatClampNeg < 12 := nat_lt (K := 11) hw hw11 (by decide)
      refine hrec _ (succ_ge hw c) (fun b z hb => ?_) (fun b z => ?_) (fun x h0 h1 => ?_) (fun z hz => ?_)
      · rw [ti_sI_ne hb]; exact hi b z hb
      · rw [tr_sI]; exact hr b z
      · rcases lt_succ32 hw c h1 with rfl | h2
        · rw [ti_sI_eq, ← e25]; rfl
        · have hxw : ¬ x = w := by
            intro e
            subst e
            exact absurd h2 (by rw [Int32.lt_iff_toInt_lt]; omega)
          have := i32_ne_nat h0 hw hxw
          rw [ti_sI_nj (by omega)]
          exact hf x h0 h2
      · rw [ti_sI_nj (by omega)]
        exact ho z hz
    · rw [hr, h6] at e16; cases e16
      rw [hi _ _ n1, h0] at e17
      exact absurd e17.symm c17
  intro n
  induction n with
  | zero =>
    intro w f2 a1 a2 a3 a4 a5
    exact hstep (fun _ _ _ => True) w f2 a1 a2 a3 a4 a5 (fun _ _ _ _ _ _ => trivial)
  | succ n ih =>
    intro w f2 a1 a2 a3 a4 a5
    exact hstep _ w f2 a1 a2 a3 a4 a5 (fun f3 b1 b2 b3 b4 b5 => ih (w + 1) f3 b1 b2 b3 b4 b5)
theorem pr_level (hO : Ok L f) (m0 : q0 ∈ L ∧ tk f q0 = 0) (m1 : q1 ∈ L ∧ tk f q1 = 27) (hC : Cpl L f q0 q1) (p_0 p_1 p_2 : Int32) : wp_WM_level_w L f q0 p_0 p_1 p_2 (PairQ q0 q1 (fun L f Q => wp_Md_level_w L f q1 p_0 p_1 p_2 Q)) := by
  have hbad : (p_0 < 0 ∨ 499 < p_0 ∨ p_1 < 0 ∨ 11 < p_1 ∨ p_2 < (-90) ∨ 90 < p_2) → PairQ q0 q1 (fun L f Q => wp_Md_level_w L f q1 p_0 p_1 p_2 Q) (-1) L f := by
    intro h _ _ _
    refine ⟨fun _ _ => ⟨rfl, hC⟩, fun g1 => ⟨fun _ _ => ⟨rfl, hC⟩, fun g2 => ⟨fun _ _ => ⟨rfl, hC⟩, fun g3 => ⟨fun _ _ => ⟨rfl, hC⟩, fun g4 => ⟨fun _ _ => ⟨rfl, hC⟩, fun g5 => ⟨fun _ _ => ⟨rfl, hC⟩, fun g6 => ?_⟩⟩⟩⟩⟩⟩
    rcases h with h | h | h | h | h | h
    · exact absurd h g1
    · exact absurd h g2
    · exact absurd h g3
    · exact absurd h g4
    · exact absurd h g5
    · exact absurd h g6
  unfold wp_WM_level_w
  refine ⟨fun c1 => hbad (Or.inl c1), fun c1 => ⟨fun c2 => hbad (Or.inr (Or.inl (ge500 c2))), fun c2 => ⟨fun c3 => hbad (Or.inr (Or.inr (Or.inl c3))), fun c3 => ⟨fun c4 => hbad (Or.inr (Or.inr (Or.inr (Or.inl (ge12 c4))))), fun c4 => ⟨fun c5 => hbad (Or.inr (Or.inr (Or.inr (Or.inr (Or.inl c5))))), fun c5 => ⟨fun c6 => hbad (Or.inr (Or.inr (Or.inr (Or.inr (Or.inr c6))))), fun c6 q10 e10 => ?_⟩⟩⟩⟩⟩⟩
  obtain ⟨ad, hR, hV⟩ := id hC
  have hM := refs_m hO m0 m1 hR
  rw [hR.1] at e10; cases e10
  have c2' := le500 c2
  have c4' := le12 c4
  have hdn : p_0.toNatClampNeg < 500 := nat_lt (K := 499) c1 c2' (by decide)
  have hhn : p_1.toNatClampNeg < 12 := nat_lt (K := 11) c3 c4' (by decide)
  have hix := ix12 c1 c2' c3 c4'
  have hnar : vp_nar .boolean 1 = 1 := by decide
  obtain ⟨r1, r2, r3, r4, r5, r6, r7, r8, r9, r10⟩ := id hR
  obtain ⟨v1, v2, v3, v4, v5, v6, v7⟩ := id hV
  have k30 : ad 30 ≠ ad 31 := ne_tk (hM 30 (by decide)).2 (hM 31 (by decide)).2 (by decide)
  intro q1' e1
  rw [r4] at e1; cases e1
  refine ⟨fun hnone qn L1 f1 hq hL1 hf1 hO1 => ?_, fun b hb f1 hf1 hO1 _ _ _ m0' m1' => ?_⟩
  · -- a new row
    have hnq : ∀ c k : Nat, c ∈ L ∧ tk f c = k → c ≠ qn := fun c k hc e => hq (e ▸ hc.1)
    have i1 : ∀ c k z : Nat, c ∈ L ∧ tk f c = k → ti f1 c z = ti f c z := fun c k z hc => by rw [hf1]; exact ti_nC (hnq c k hc)
    have t1 : ∀ c k z : Nat, c ∈ L ∧ tk f c = k → tr f1 c z = tr f c z := fun c k z hc => by rw [hf1]; exact tr_nC (hnq c k hc)
    have e0 : ((12 : Int32).toInt - (0 : Int32).toInt).toNat = 12 := by decide
    refine xt_loop (qt := ad 3) ((t1 _ _ _ (hM 1 (by decide))).trans r3) (hnq _ _ (hM 3 (by decide))) (fun f2 hi hr hf hO4 => ?_) _ 0 f1 (by decide) (fun _ _ _ => rfl) (fun _ _ => rfl) (fun x h0 h1 => absurd h1 h0)
    intro _ _ _ m0' m1'
    -- the reference, over f4
    have i4 : ∀ c k z : Nat, c ∈ L ∧ tk f c = k → ti (sI (sR f2 (ad 4) p_0.toNatClampNeg qn) qn p_1.toNatClampNeg p_2) c z = ti f c z := fun c k z hc => by
      rw [ti_sI_ne (hnq c k hc), ti_sR, hi _ _ (hnq c k hc)]; exact i1 c k z hc
    have t4 : ∀ c k z : Nat, c ∈ L ∧ tk f c = k → k ≠ 4 → tr (sI (sR f2 (ad 4) p_0.toNatClampNeg qn) qn p_1.toNatClampNeg p_2) c z = tr f c z := fun c k z hc hk => by
      rw [tr_sI, tr_sR, if_neg (fun h => ne_tk hc.2 (hM 4 (by decide)).2 hk h.1), hr]; exact t1 c k z hc
    have t44 : ∀ z : Nat, tr (sI (sR f2 (ad 4) p_0.toNatClampNeg qn) qn p_1.toNatClampNeg p_2) (ad 4) z = if z = p_0.toNatClampNeg then some qn else tr f (ad 4) z := fun z => by
      rw [tr_sI, tr_sR]
      by_cases hz : z = p_0.toNatClampNeg
      · rw [if_pos ⟨rfl, hz⟩, if_pos hz]
      · rw [if_neg (fun h => hz h.2), if_neg hz, hr]; exact t1 _ _ _ (hM 4 (by decide))
    have h30z : ti f (ad 30) p_0.toNatClampNeg = 0 := by
      rcases v6 _ hdn with ⟨_, k⟩ | ⟨b, k, _⟩
      · exact k
      · rw [k] at hnone; cases hnone
    generalize hf4 : sI (sR f2 (ad 4) p_0.toNatClampNeg qn) qn p_1.toNatClampNeg p_2 = f4 at i4 t4 t44 m0' m1' ⊢
    have hrowx : ∀ z : Nat, z < 12 → ti f4 qn z = if z = p_1.toNatClampNeg then p_2 else fillv f (ad 3) p_0 (nI z) := by
      intro z hz
      have hzc : (nI z).toNatClampNeg = z := nI_clamp (by omega)
      rw [← hf4]
      by_cases e : z = p_1.toNatClampNeg
      · rw [if_pos e, e, ti_sI_eq]
      · rw [if_neg e, ti_sI_nj e, ti_sR]
        have hfz := hf (nI z) (nI_pos (by omega)) (nI_ge (b := 12) hz (by omega))
        rw [hzc] at hfz
        rw [hfz]
        unfold fillv
        exact i1 _ _ _ (hM 3 (by decide))
    refine ⟨fun g => absurd g c1, fun _ => ⟨fun g => absurd g c2', fun _ => ⟨fun g => absurd g c3, fun _ => ⟨fun g => absurd g c4', fun _ => ⟨fun g => absurd g c5, fun _ => ⟨fun g => absurd g c6, fun _ => ?_⟩⟩⟩⟩⟩⟩
    refine mt_loop (mh := ad 30) (mw := ad 31) (mt := ad 29) c1 c2' ((t4 _ _ _ m1 (by decide)).trans r8) ((t4 _ _ _ m1 (by decide)).trans r9) ((t4 _ _ _ m1 (by decide)).trans r7) k30 (ne_tk (hM 29 (by decide)).2 (hM 31 (by decide)).2 (by decide)) ((i4 _ _ _ (hM 30 (by decide))).trans h30z) (fun g gi gr gf go _ _ => ⟨rfl, ?_⟩) _ 0 f4 (by decide) (fun _ _ _ => rfl) (fun _ _ => rfl) (fun x h0 h1 => absurd h1 h0) (fun _ _ => rfl)
    rw [hix]
    have n31 : ∀ c k : Nat, c ∈ L ∧ tk f c = k → k ≠ 31 → c ≠ ad 31 := fun c k hc hk => ne_tk hc.2 (hM 31 (by decide)).2 hk
    have n30 : ∀ c k : Nat, c ∈ L ∧ tk f c = k → k ≠ 30 → c ≠ ad 30 := fun c k hc hk => ne_tk hc.2 (hM 30 (by decide)).2 hk
    have iF : ∀ c k z : Nat, c ∈ L ∧ tk f c = k → k ≠ 31 → k ≠ 30 → ti (sI (sI g (ad 30) p_0.toNatClampNeg (vp_nar .boolean 1)) (ad 31) (12 * p_0.toNatClampNeg + p_1.toNatClampNeg) p_2) c z = ti f c z := fun c k z hc h31 h30 => by
      rw [ti_sI_ne (n31 c k hc h31), ti_sI_ne (n30 c k hc h30), gi _ _ (n31 c k hc h31)]; exact i4 c k z hc
    have tF : ∀ c k z : Nat, c ∈ L ∧ tk f c = k → k ≠ 4 → tr (sI (sI g (ad 30) p_0.toNatClampNeg (vp_nar .boolean 1)) (ad 31) (12 * p_0.toNatClampNeg + p_1.toNatClampNeg) p_2) c z = tr f c z := fun c k z hc hk => by
      rw [tr_sI, tr_sI, gr]; exact t4 c k z hc hk
    have tF4 : ∀ z : Nat, tr (sI (sI g (ad 30) p_0.toNatClampNeg (vp_nar .boolean 1)) (ad 31) (12 * p_0.toNatClampNeg + p_1.toNatClampNeg) p_2) (ad 4) z = if z = p_0.toNatClampNeg then some qn else tr f (ad 4) z := fun z => by
      rw [tr_sI, tr_sI, gr]; exact t44 z
    have i30 : ∀ z : Nat, ti (sI (sI g (ad 30) p_0.toNatClampNeg (vp_nar .boolean 1)) (ad 31) (12 * p_0.toNatClampNeg + p_1.toNatClampNeg) p_2) (ad 30) z = if z = p_0.toNatClampNeg then 1 else ti f (ad 30) z := fun z => by
      rw [ti_sI_ne k30]
      by_cases hz : z = p_0.toNatClampNeg
      · rw [if_pos hz, hz, ti_sI_eq, hnar]
      · rw [if_neg hz, ti_sI_nj hz, gi _ _ k30]; exact i4 _ _ _ (hM 30 (by decide))
    have q31 : qn ≠ ad 31 := (hnq _ _ (hM 31 (by decide))).symm
    have q30 : qn ≠ ad 30 := (hnq _ _ (hM 30 (by decide))).symm
    refine cpl_level (b := qn) ⟨(tF _ _ _ m0 (by decide)).trans r1, (tF _ _ _ (hM 1 (by decide)) (by decide)).trans r2, (tF _ _ _ (hM 1 (by decide)) (by decide)).trans r3, (tF _ _ _ (hM 1 (by decide)) (by decide)).trans r4, (tF _ _ _ (hM 1 (by decide)) (by decide)).trans r5, (tF _ _ _ m1 (by decide)).trans r6, (tF _ _ _ m1 (by decide)).trans r7, (tF _ _ _ m1 (by decide)).trans r8, (tF _ _ _ m1 (by decide)).trans r9, (tF _ _ _ m1 (by decide)).trans r10⟩ ⟨?_, ?_, fun j => ?_, fun j => ?_, fun j => ?_⟩ ((tF4 _).trans (if_pos rfl)) ((i30 _).trans (if_pos rfl)) (fun z hz => ?_) (fun d hd hne => ?_) (fun d d' b hd hd' e e' => ?_)
    · rw [iF _ _ _ m0 (by decide) (by decide), iF _ _ _ m1 (by decide) (by decide)]; exact v1
    · rw [iF _ _ _ (hM 1 (by decide)) (by decide) (by decide), iF _ _ _ m1 (by decide) (by decide)]; exact v2
    · rw [iF _ _ _ (hM 2 (by decide)) (by decide) (by decide), iF _ _ _ (hM 28 (by decide)) (by decide) (by decide)]; exact v3 j
    · rw [iF _ _ _ (hM 3 (by decide)) (by decide) (by decide), iF _ _ _ (hM 29 (by decide)) (by decide) (by decide)]; exact v4 j
    · rw [iF _ _ _ (hM 5 (by decide)) (by decide) (by decide), iF _ _ _ (hM 32 (by decide)) (by decide) (by decide)]; exact v5 j
    · rw [ti_sI_ne q31, ti_sI_ne q30, gi _ _ q31, hrowx z hz]
      have hzc : (nI z).toNatClampNeg = z := nI_clamp (by omega)
      by_cases e : z = p_1.toNatClampNeg
      · rw [if_pos e, e, ti_sI_eq]
      · rw [if_neg e, ti_sI_nj (by omega), ti_sI_ne k30.symm]
        have hgz := gf (nI z) (nI_pos (by omega)) (nI_ge (b := 12) hz (by omega))
        rw [hzc] at hgz
        rw [hgz]
        unfold fillv
        rw [i4 _ _ _ (hM 29 (by decide))]
        exact v4 _
    · rw [tF4, if_neg hne, i30, if_neg hne]
      rcases v6 d hd with k | ⟨b, k1, k2, k3⟩
      · exact Or.inl k
      · have ib := hO.rm (k' := 19) (n := true) (hM 4 (by decide)) (slot_arr (n := 500) rfl hd) k1
        refine Or.inr ⟨b, k1, k2, fun z hz => ?_⟩
        rw [iF _ _ _ ib (by decide) (by decide), ti_sI_nj (by omega), ti_sI_ne k30.symm, go _ (by omega), i4 _ _ _ (hM 31 (by decide))]
        exact k3 z hz
    · rw [tF4] at e e'
      by_cases h1 : d = p_0.toNatClampNeg
      · by_cases h2 : d' = p_0.toNatClampNeg
        · exact h1.trans h2.symm
        · rw [if_pos h1] at e
          rw [if_neg h2] at e'
          cases e
          exact absurd (hO.rm (k' := 19) (n := true) (hM 4 (by decide)) (slot_arr (n := 500) rfl hd') e').1 hq
      · rw [if_neg h1] at e
        by_cases h2 : d' = p_0.toNatClampNeg
        · rw [if_pos h2] at e'
          cases e'
          exact absurd (hO.rm (k' := 19) (n := true) (hM 4 (by decide)) (slot_arr (n := 500) rfl hd) e).1 hq
        · rw [if_neg h2] at e'
          exact v7 d d' b hd hd' e e'
  · -- the row was told before
    subst hf1
    have ib := hO.rm (k' := 19) (n := true) (hM 4 (by decide)) (slot_arr (n := 500) rfl hdn) hb
    obtain ⟨h30o, hrow⟩ : ti f (ad 30) p_0.toNatClampNeg = 1 ∧ ∀ z : Nat, z < 12 → ti f b z = ti f (ad 31) (12 * p_0.toNatClampNeg + z) := by
      rcases v6 _ hdn with ⟨k, _⟩ | ⟨b', k1, k2, k3⟩
      · rw [hb] at k; cases k
      · rw [hb] at k1; cases k1; exact ⟨k2, k3⟩
    have kb30 : ad 30 ≠ b := ne_tk (hM 30 (by decide)).2 ib.2 (by decide)
    have kb31 : ad 31 ≠ b := ne_tk (hM 31 (by decide)).2 ib.2 (by decide)
    refine ⟨fun g => absurd g c1, fun _ => ⟨fun g => absurd g c2', fun _ => ⟨fun g => absurd g c3, fun _ => ⟨fun g => absurd g c4', fun _ => ⟨fun g => absurd g c5, fun _ => ⟨fun g => absurd g c6, fun _ => ?_⟩⟩⟩⟩⟩⟩
    have e0 : ((12 : Int32).toInt - (0 : Int32).toInt).toNat = 11 + 1 := by decide
    rw [e0]
    intro hOa hEa
    refine ⟨fun g => absurd g (by decide), fun _ q16 e16 x17 e17 => ⟨fun g => ?_, fun _ f2 hf2 hO2 q20 e20 f3 hf3 hO3 _ => ⟨rfl, ?_⟩⟩⟩
    · rw [tr_sI, r8] at e16; cases e16
      rw [ti_sI_ne kb30, h30o] at e17
      rw [← e17] at g
      exact absurd g (by decide)
    · rw [tr_sI, r8] at e16; cases e16
      subst hf2
      rw [tr_sI, tr_sI, r9] at e20; cases e20
      rw [hix] at hf3
      subst hf3
      have iF : ∀ c k z : Nat, tk f c = k → k ≠ 31 → k ≠ 30 → c ≠ b → ti (sI (sI (sI f b p_1.toNatClampNeg p_2) (ad 30) p_0.toNatClampNeg (vp_nar .boolean 1)) (ad 31) (12 * p_0.toNatClampNeg + p_1.toNatClampNeg) p_2) c z = ti f c z := fun c k z hc h31 h30 hcb => by
        rw [ti_sI_ne (ne_tk hc (hM 31 (by decide)).2 h31), ti_sI_ne (ne_tk hc (hM 30 (by decide)).2 h30), ti_sI_ne hcb]
      have tF : ∀ c z : Nat, tr (sI (sI (sI f b p_1.toNatClampNeg p_2) (ad 30) p_0.toNatClampNeg (vp_nar .boolean 1)) (ad 31) (12 * p_0.toNatClampNeg + p_1.toNatClampNeg) p_2) c z = tr f c z := fun c z => by rw [tr_sI, tr_sI, tr_sI]
      have nb : ∀ c k : Nat, tk f c = k → k ≠ 19 → c ≠ b := fun c k hc hk => ne_tk hc ib.2 hk
      refine cpl_level (b := b) (refs_same tF hR) ⟨?_, ?_, fun j => ?_, fun j => ?_, fun j => ?_⟩ ((tF _ _).trans hb) ?_ (fun z hz => ?_) (fun d hd hne => ?_) (fun d d' b hd hd' e e' => ?_)
      · rw [iF _ _ _ m0.2 (by decide) (by decide) (nb _ _ m0.2 (by decide)), iF _ _ _ m1.2 (by decide) (by decide) (nb _ _ m1.2 (by decide))]; exact v1
      · rw [iF _ _ _ (hM 1 (by decide)).2 (by decide) (by decide) (nb _ _ (hM 1 (by decide)).2 (by decide)), iF _ _ _ m1.2 (by decide) (by decide) (nb _ _ m1.2 (by decide))]; exact v2
      · rw [iF _ _ _ (hM 2 (by decide)).2 (by decide) (by decide) (nb _ _ (hM 2 (by decide)).2 (by decide)), iF _ _ _ (hM 28 (by decide)).2 (by decide) (by decide) (nb _ _ (hM 28 (by decide)).2 (by decide))]; exact v3 j
      · rw [iF _ _ _ (hM 3 (by decide)).2 (by decide) (by decide) (nb _ _ (hM 3 (by decide)).2 (by decide)), iF _ _ _ (hM 29 (by decide)).2 (by decide) (by decide) (nb _ _ (hM 29 (by decide)).2 (by decide))]; exact v4 j
      · rw [iF _ _ _ (hM 5 (by decide)).2 (by decide) (by decide) (nb _ _ (hM 5 (by decide)).2 (by decide)), iF _ _ _ (hM 32 (by decide)).2 (by decide) (by decide) (nb _ _ (hM 32 (by decide)).2 (by decide))]; exact v5 j
      · rw [ti_sI_ne k30, ti_sI_eq, hnar]
      · rw [ti_sI_ne kb31.symm, ti_sI_ne kb30.symm]
        by_cases e : z = p_1.toNatClampNeg
        · rw [e, ti_sI_eq, ti_sI_eq]
        · rw [ti_sI_nj e, ti_sI_nj (by omega), ti_sI_ne k30.symm, ti_sI_ne kb31]; exact hrow z hz
      · rw [tF, ti_sI_ne k30, ti_sI_nj hne, ti_sI_ne kb30]
        rcases v6 d hd with k | ⟨b', k1, k2, k3⟩
        · exact Or.inl k
        · have ib' := hO.rm (k' := 19) (n := true) (hM 4 (by decide)) (slot_arr (n := 500) rfl hd) k1
          have hbb : b' ≠ b := by
            intro e
            subst e
            exact hne (v7 d _ b' hd hdn k1 hb)
          refine Or.inr ⟨b', k1, k2, fun z hz => ?_⟩
          rw [iF _ _ _ ib'.2 (by decide) (by decide) hbb, ti_sI_nj (by omega), ti_sI_ne k30.symm, ti_sI_ne kb31]
          exact k3 z hz
      · rw [tF] at e e'
        exact v7 d d' b hd hd' e e'
end PAIR
