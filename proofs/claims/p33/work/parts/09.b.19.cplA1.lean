section ADR
variable {L : List Nat} {f : TF} {q0 q1 : Nat} {ad : Nat → Nat}
/-- the reference's rows that rowing needs -/
def RK : List Nat := [9, 10, 11, 12, 13, 14, 16, 17, 19, 20, 22, 23, 24, 25, 26, 48, 49, 50, 51, 52, 53, 54, 55]
def kd (k : Nat) : Nat := if k ≤ 20 then k + 24 else if k ≤ 26 then k + 23 else k + 15
/-- cells that never change their place: 64 river, 65 men, 66 boats, 67 trips, 68 box, 100 + m the man m; below 64 the reference's rows -/
def Ad (f : TF) (q0 q1 : Nat) (ad : Nat → Nat) : Prop := (tr f q0 0 = some (ad 64) ∧ tr f q0 1 = some (ad 65) ∧ tr f q0 2 = some (ad 66) ∧ tr f q0 4 = some (ad 67) ∧ tr f q0 6 = some (ad 68)) ∧ (∀ m, m < 40 → tr f (ad 65) m = some (ad (100 + m))) ∧ (∀ m m', m < 40 → m' < 40 → ad (100 + m) = ad (100 + m') → m = m') ∧ ∀ k, k ∈ RK → tr f q1 k = some (ad k)
theorem Ad.m (hA : Ad f q0 q1 ad) (hO : Ok L f) (m1 : q1 ∈ L ∧ tk f q1 = 27) : ∀ k, k ∈ RK → ad k ∈ L ∧ tk f (ad k) = kd k := by
  intro k hk
  have e := hA.2.2.2 k hk
  unfold RK at hk
  simp only [List.mem_cons, List.not_mem_nil, or_false] at hk
  rcases hk with rfl | rfl | rfl | rfl | rfl | rfl | rfl | rfl | rfl | rfl | rfl | rfl | rfl | rfl | rfl | rfl | rfl | rfl | rfl | rfl | rfl | rfl | rfl
  · exact hO.rm (j := 9) (k' := 33) (n := false) m1 rfl e
  · exact hO.rm (j := 10) (k' := 34) (n := false) m1 rfl e
  · exact hO.rm (j := 11) (k' := 35) (n := false) m1 rfl e
  · exact hO.rm (j := 12) (k' := 36) (n := false) m1 rfl e
  · exact hO.rm (j := 13) (k' := 37) (n := false) m1 rfl e
  · exact hO.rm (j := 14) (k' := 38) (n := false) m1 rfl e
  · exact hO.rm (j := 16) (k' := 40) (n := false) m1 rfl e
  · exact hO.rm (j := 17) (k' := 41) (n := false) m1 rfl e
  · exact hO.rm (j := 19) (k' := 43) (n := false) m1 rfl e
  · exact hO.rm (j := 20) (k' := 44) (n := false) m1 rfl e
  · exact hO.rm (j := 22) (k' := 45) (n := false) m1 rfl e
  · exact hO.rm (j := 23) (k' := 46) (n := false) m1 rfl e
  · exact hO.rm (j := 24) (k' := 47) (n := false) m1 rfl e
  · exact hO.rm (j := 25) (k' := 48) (n := false) m1 rfl e
  · exact hO.rm (j := 26) (k' := 49) (n := false) m1 rfl e
  · exact hO.rm (j := 48) (k' := 63) (n := false) m1 rfl e
  · exact hO.rm (j := 49) (k' := 64) (n := false) m1 rfl e
  · exact hO.rm (j := 50) (k' := 65) (n := false) m1 rfl e
  · exact hO.rm (j := 51) (k' := 66) (n := false) m1 rfl e
  · exact hO.rm (j := 52) (k' := 67) (n := false) m1 rfl e
  · exact hO.rm (j := 53) (k' := 68) (n := false) m1 rfl e
  · exact hO.rm (j := 54) (k' := 69) (n := false) m1 rfl e
  · exact hO.rm (j := 55) (k' := 70) (n := false) m1 rfl e
theorem Ad.river (hA : Ad f q0 q1 ad) (hO : Ok L f) (m0 : q0 ∈ L ∧ tk f q0 = 0) : ad 64 ∈ L ∧ tk f (ad 64) = 1 := hO.rm (j := 0) (k' := 1) (n := false) m0 rfl hA.1.1
theorem Ad.men (hA : Ad f q0 q1 ad) (hO : Ok L f) (m0 : q0 ∈ L ∧ tk f q0 = 0) : ad 65 ∈ L ∧ tk f (ad 65) = 6 := hO.rm (j := 1) (k' := 6) (n := false) m0 rfl hA.1.2.1
theorem Ad.boats (hA : Ad f q0 q1 ad) (hO : Ok L f) (m0 : q0 ∈ L ∧ tk f q0 = 0) : ad 66 ∈ L ∧ tk f (ad 66) = 7 := hO.rm (j := 2) (k' := 7) (n := false) m0 rfl hA.1.2.2.1
theorem Ad.trips (hA : Ad f q0 q1 ad) (hO : Ok L f) (m0 : q0 ∈ L ∧ tk f q0 = 0) : ad 67 ∈ L ∧ tk f (ad 67) = 9 := hO.rm (j := 4) (k' := 9) (n := false) m0 rfl hA.1.2.2.2.1
theorem Ad.box (hA : Ad f q0 q1 ad) (hO : Ok L f) (m0 : q0 ∈ L ∧ tk f q0 = 0) : ad 68 ∈ L ∧ tk f (ad 68) = 12 := hO.rm (j := 6) (k' := 12) (n := false) m0 rfl hA.1.2.2.2.2
theorem Ad.man (hA : Ad f q0 q1 ad) (hO : Ok L f) (m0 : q0 ∈ L ∧ tk f q0 = 0) {m : Nat} (hm : m < 40) : ad (100 + m) ∈ L ∧ tk f (ad (100 + m)) = 20 := hO.rm (k' := 20) (n := true) (hA.men hO m0) (slot_arr (n := 40) rfl hm) (hA.2.1 m hm)
def avAd (W : List (Nat × Nat)) : Bool := W.all (fun p => p.1 != 6) && [(0, 0), (0, 1), (0, 2), (0, 4), (0, 6)].all (fun q => !(wr W q.1 q.2)) && RK.all (fun k => !(wr W 27 k))
theorem Ad.ext {W : List (Nat × Nat)} {L1 : List Nat} {f1 : TF} (hA : Ad f q0 q1 ad) (hO : Ok L f) (m0 : q0 ∈ L ∧ tk f q0 = 0) (m1 : q1 ∈ L ∧ tk f q1 = 27) (hE : Ext W L f L1 f1) (ha : avAd W = true) : Ad f1 q0 q1 ad := by
  unfold avAd at ha
  rw [Bool.and_eq_true, Bool.and_eq_true] at ha
  obtain ⟨⟨a1, a2⟩, a3⟩ := ha
  have s : ∀ j, (0, j) ∈ [(0, 0), (0, 1), (0, 2), (0, 4), (0, 6)] → wr W 0 j = false := fun j hj => by simpa using List.all_eq_true.mp a2 (0, j) hj
  have s3 : ∀ k, k ∈ RK → wr W 27 k = false := fun k hk => by simpa using List.all_eq_true.mp a3 k hk
  obtain ⟨⟨h1, h2, h3, h4, h5⟩, h6, h7, h8⟩ := id hA
  exact ⟨⟨(hE.er m0 (s 0 (by decide))).trans h1, (hE.er m0 (s 1 (by decide))).trans h2, (hE.er m0 (s 2 (by decide))).trans h3, (hE.er m0 (s 4 (by decide))).trans h4, (hE.er m0 (s 6 (by decide))).trans h5⟩, fun m hm => (hE.er (hA.men hO m0) (wr_k a1 m)).trans (h6 m hm), h7, fun k hk => (hE.er m1 (s3 k hk)).trans (h8 k hk)⟩
/-- no reference of these is written -/
theorem Ad.same {f1 : TF} (hA : Ad f q0 q1 ad) (h0 : ∀ z, tr f1 q0 z = tr f q0 z) (h1 : ∀ z, tr f1 q1 z = tr f q1 z) (h6 : ∀ z, tr f1 (ad 65) z = tr f (ad 65) z) : Ad f1 q0 q1 ad := by
  obtain ⟨⟨a1, a2, a3, a4, a5⟩, a6, a7, a8⟩ := hA
  exact ⟨⟨(h0 _).trans a1, (h0 _).trans a2, (h0 _).trans a3, (h0 _).trans a4, (h0 _).trans a5⟩, fun m hm => (h6 _).trans (a6 m hm), a7, fun k hk => (h1 _).trans (a8 k hk)⟩
theorem h40 {p : Int32} : 40 ≤ p ↔ 39 < p := by
  rw [Int32.le_iff_toInt_le, Int32.lt_iff_toInt_lt]
  have z1 : (40 : Int32).toInt = 40 := by decide
  have z2 : (39 : Int32).toInt = 39 := by decide
  omega
/-- a man's number -/
def isM (p : Int32) : Prop := ¬ p < 0 ∧ ¬ 39 < p
theorem isM.n {p : Int32} (h : isM p) : ∃ m, m < 40 ∧ p = nI m := by
  obtain ⟨m, h1, h2⟩ := nI_of2 (M := 39) (n := 39) (by decide) h.1 (by have := h.2; rw [Int32.lt_iff_toInt_lt] at this; rw [Int32.le_iff_toInt_le]; omega)
  exact ⟨m, by omega, h2⟩
theorem isM_nI {m : Nat} (h : m < 40) : isM (nI m) := ⟨nI_pos (by omega), by rw [show (39 : Int32) = nI 39 from rfl, nI_ltI (by decide) (by omega)]; omega⟩
theorem manAt_x {p : Int32} {Q : Option Nat → Prop} (hA : Ad f q0 q1 ad) (hn : ¬ isM p → Q none) (hs : ∀ m, m < 40 → p = nI m → Q (some (ad (100 + m)))) : wp_WM_manAt_w L f q0 p Q := by
  refine ⟨fun g => hn (fun z => z.1 g), fun g => ⟨fun g2 => hn (fun z => z.2 (h40.mp g2)), fun g2 q3 e3 => ?_⟩⟩
  rw [hA.1.2.1] at e3; cases e3
  obtain ⟨m, hm, rfl⟩ := isM.n (p := p) ⟨g, fun z => g2 (h40.mpr z)⟩
  rw [nI_clamp (by omega), hA.2.1 m hm]
  exact ⟨fun z => (by cases z), fun q4 e4 => (by cases e4; exact hs m hm rfl)⟩
theorem today_x {Q : Int32 → Prop} {T : Int32} (ht : ti f q0 10 = T) (hq : Q (T / 720)) : wp_WM_today_w L f q0 Q := by
  intro x1 e1 y2 e2
  rw [ht] at e1
  subst e1 e2
  exact hq
theorem today_m {Q : Int32 → Prop} (hq : Q (ti f q1 1 / 720)) : wp_Md_today_w L f q1 Q := by
  intro y2 e2
  subst e2
  exact hq
end ADR
