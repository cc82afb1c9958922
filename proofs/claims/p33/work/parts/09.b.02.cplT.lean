/-- the four bytes of an int, the first one first -/
def byt (p : Int32) (i : Nat) : Int32 := match i with
  | 0 => vp_nar .byte ((p >>> ((8 * (3 : Int32)) &&& 31)).toInt8.toInt32)
  | 1 => vp_nar .byte ((p >>> ((8 * (2 : Int32)) &&& 31)).toInt8.toInt32)
  | 2 => vp_nar .byte ((p >>> ((8 * (1 : Int32)) &&& 31)).toInt8.toInt32)
  | _ => vp_nar .byte ((p >>> ((8 * (0 : Int32)) &&& 31)).toInt8.toInt32)
theorem i8_ext {x y : Int32} (h : ∀ i : Nat, i < 8 → x.toBitVec.getLsbD i = y.toBitVec.getLsbD i) : x.toInt8 = y.toInt8 := by
  apply Int8.toBitVec_inj.mp
  rw [Int32.toBitVec_toInt8, Int32.toBitVec_toInt8]
  apply BitVec.eq_of_getLsbD_eq
  intro i hi
  rw [BitVec.getLsbD_signExtend, BitVec.getLsbD_signExtend]
  have h32 : i < 32 := by omega
  simp only [hi, h32, decide_true, Bool.true_and, if_true]
  exact h i hi
theorem byte24 (p : Int32) : vp_nar .byte ((((p).toUInt32 >>> ((24 : Int32).toUInt32 &&& Int32.toUInt32 31)).toInt32).toInt8.toInt32) = byt p 0 := by
  unfold byt
  congr 2
  refine i8_ext (fun i hi => ?_)
  have e1 : ((p).toUInt32 >>> ((24 : Int32).toUInt32 &&& Int32.toUInt32 31)).toInt32.toBitVec = p.toBitVec >>> 24 := rfl
  have e2 : (p >>> ((8 * (3 : Int32)) &&& 31)).toBitVec = p.toBitVec.sshiftRight 24 := rfl
  rw [e1, e2, BitVec.getLsbD_ushiftRight, BitVec.getLsbD_sshiftRight]
  have h1 : ¬ 32 ≤ i := by omega
  have h2 : 24 + i < 32 := by omega
  simp [h1, h2]
theorem byte16 (p : Int32) : vp_nar .byte ((((p).toUInt32 >>> ((16 : Int32).toUInt32 &&& Int32.toUInt32 31)).toInt32).toInt8.toInt32) = byt p 1 := by
  unfold byt
  congr 2
  refine i8_ext (fun i hi => ?_)
  have e1 : ((p).toUInt32 >>> ((16 : Int32).toUInt32 &&& Int32.toUInt32 31)).toInt32.toBitVec = p.toBitVec >>> 16 := rfl
  have e2 : (p >>> ((8 * (2 : Int32)) &&& 31)).toBitVec = p.toBitVec.sshiftRight 16 := rfl
  rw [e1, e2, BitVec.getLsbD_ushiftRight, BitVec.getLsbD_sshiftRight]
  have h1 : ¬ 32 ≤ i := by omega
  have h2 : 16 + i < 32 := by omega
  simp [h1, h2]
theorem byte8 (p : Int32) : vp_nar .byte ((((p).toUInt32 >>> ((8 : Int32).toUInt32 &&& Int32.toUInt32 31)).toInt32).toInt8.toInt32) = byt p 2 := by
  unfold byt
  congr 2
  refine i8_ext (fun i hi => ?_)
  have e1 : ((p).toUInt32 >>> ((8 : Int32).toUInt32 &&& Int32.toUInt32 31)).toInt32.toBitVec = p.toBitVec >>> 8 := rfl
  have e2 : (p >>> ((8 * (1 : Int32)) &&& 31)).toBitVec = p.toBitVec.sshiftRight 8 := rfl
  rw [e1, e2, BitVec.getLsbD_ushiftRight, BitVec.getLsbD_sshiftRight]
  have h1 : ¬ 32 ≤ i := by omega
  have h2 : 8 + i < 32 := by omega
  simp [h1, h2]
theorem byte0 (p : Int32) : vp_nar .byte (p.toInt8.toInt32) = byt p 3 := by
  unfold byt
  congr 2
  refine i8_ext (fun i hi => ?_)
  have e2 : (p >>> ((8 * (0 : Int32)) &&& 31)).toBitVec = p.toBitVec.sshiftRight 0 := rfl
  rw [e2, BitVec.getLsbD_sshiftRight]
  have h1 : ¬ 32 ≤ i := by omega
  have h2 : 0 + i < 32 := by omega
  simp [h1]
def put4 (F : Nat → Int32) (x : Nat) (p : Int32) : Nat → Int32 := fun j => if x ≤ j ∧ j < x + 4 then byt p (j - x) else F j
/-- four bytes were put behind -/
def App (f f' : TF) (qb ql sl : Nat) (p : Int32) : Prop := ti f' ql sl = ti f ql sl + 4 ∧ (∀ j, ti f' qb j = put4 (ti f qb) (ti f ql sl).toNatClampNeg p j) ∧ (∀ c z, c ≠ qb → (c ≠ ql ∨ z ≠ sl) → ti f' c z = ti f c z) ∧ ∀ c z, tr f' c z = tr f c z
theorem nat_add32 {x k : Int32} {K : Nat} (h0 : ¬ x < 0) (h1 : ¬ 396 < x) (hk : k.toInt = (K : Int)) (hK : K ≤ 4) : (x + k).toNatClampNeg = x.toNatClampNeg + K := by
  have a := i32_nat h0
  have z0 : (0 : Int32).toInt = 0 := by decide
  have z1 : (396 : Int32).toInt = 396 := by decide
  rw [Int32.lt_iff_toInt_lt] at h0 h1
  have m : (x + k).toInt = x.toInt + K := by rw [fb_addI (by omega) (by omega), hk]
  have a5 := i32_nat (x := x + k) (by rw [Int32.lt_iff_toInt_lt, m]; omega)
  omega
theorem put4_is {f : TF} {qb X : Nat} {p : Int32} (j : Nat) : ti (sI (sI (sI (sI f qb X (byt p 0)) qb (X + 1) (byt p 1)) qb (X + 2) (byt p 2)) qb (X + 3) (byt p 3)) qb j = put4 (ti f qb) X p j := by
  unfold put4
  by_cases h3 : j = X + 3
  · subst h3
    rw [ti_sI_eq, if_pos (by omega)]
    rw [show X + 3 - X = 3 by omega]
  · rw [ti_sI_nj h3]
    by_cases h2 : j = X + 2
    · subst h2
      rw [ti_sI_eq, if_pos (by omega)]
      rw [show X + 2 - X = 2 by omega]
    · rw [ti_sI_nj h2]
      by_cases h1 : j = X + 1
      · subst h1
        rw [ti_sI_eq, if_pos (by omega)]
        rw [show X + 1 - X = 1 by omega]
      · rw [ti_sI_nj h1]
        by_cases h0 : j = X
        · subst h0
          rw [ti_sI_eq, if_pos (by omega)]
          rw [show j - j = 0 by omega]
        · rw [ti_sI_nj h0, if_neg (by omega)]
section TAPE
variable {L : List Nat} {f : TF} {q0 q1 : Nat}
theorem app_x {qT qB : Nat} {p : Int32} {Q : List Nat → TF → Prop} (hB : tr f qT 0 = some qB) (hne : qT ≠ qB) (h0 : ¬ ti f qT 1 < 0) (h1 : ¬ 396 < ti f qT 1) (hq : ∀ f', App f f' qB qT 1 p → Ok L f' → Q L f') : wp_Tp_append_w L f qT p Q := by
  intro x1 e1
  have h2 : x1 ≤ 396 := by
    rw [e1, Int32.lt_iff_toInt_lt] at h1
    rw [Int32.le_iff_toInt_le]
    omega
  refine ⟨fun _ q3 e3 g1 hg1 _ g2 hg2 _ g3 hg3 _ g4 hg4 _ g5 hg5 hO5 => hq g5 ?_ hO5, fun g => absurd h2 g⟩
  rw [hB] at e3; cases e3
  rw [e1] at h0 h1
  rw [byte24] at hg1
  rw [byte16, nat_add32 (K := 1) h0 h1 (by decide) (by decide)] at hg2
  rw [byte8, nat_add32 (K := 2) h0 h1 (by decide) (by decide)] at hg3
  rw [byte0, nat_add32 (K := 3) h0 h1 (by decide) (by decide)] at hg4
  subst hg1 hg2 hg3 hg4 hg5
  refine ⟨?_, fun j => ?_, fun c z hc hz => ?_, fun c z => ?_⟩
  · rw [ti_sI_eq, e1]
  · rw [ti_sI_ne hne.symm, e1]; exact put4_is j
  · rw [ti_sI]
    rw [if_neg (by rcases hz with h | h; exact fun k => h k.1; exact fun k => h k.2), ti_sI_ne hc, ti_sI_ne hc, ti_sI_ne hc, ti_sI_ne hc]
  · rw [tr_sI, tr_sI, tr_sI, tr_sI, tr_sI]
theorem four_m {mB : Nat} {p : Int32} {Q : List Nat → TF → Prop} (hO : Ok L f) (hB : tr f q1 27 = some mB) (hne : q1 ≠ mB) (h0 : ¬ ti f q1 28 < 0) (h1 : ¬ 396 < ti f q1 28) (hq : ∀ f', App f f' mB q1 28 p → Ok L f' → Q L f') : wp_Md_four_w L f q1 p Q := by
  have e0 : ((3 : Int32).toInt - (-1 : Int32).toInt).toNat = 4 := by decide
  unfold wp_Md_four_w
  rw [e0]
  intro _ _
  refine ⟨fun g => absurd g (by decide), fun _ q4 e4 g1 hg1 hO1 g2 hg2 hO2 => ?_⟩
  rw [hB] at e4; cases e4
  intro _ _
  refine ⟨fun g => absurd g (by decide), fun _ q4 e4 g3 hg3 hO3 g4 hg4 hO4 => ?_⟩
  rw [hg2, hg1, tr_sI, tr_sI, hB] at e4; cases e4
  intro _ _
  refine ⟨fun g => absurd g (by decide), fun _ q4 e4 g5 hg5 hO5 g6 hg6 hO6 => ?_⟩
  rw [hg4, hg3, hg2, hg1, tr_sI, tr_sI, tr_sI, tr_sI, hB] at e4; cases e4
  intro _ _
  refine ⟨fun g => absurd g (by decide), fun _ q4 e4 g7 hg7 hO7 g8 hg8 hO8 => ?_⟩
  rw [hg6, hg5, hg4, hg3, hg2, hg1, tr_sI, tr_sI, tr_sI, tr_sI, tr_sI, tr_sI, hB] at e4; cases e4
  intro _ _
  refine ⟨fun _ => hq g8 ?_ hO8, fun g => absurd (by decide) g⟩
  have t2 : ti g2 q1 28 = ti f q1 28 + 1 := by rw [hg2, ti_sI_eq]
  have t4 : ti g4 q1 28 = ti f q1 28 + 2 := by rw [hg4, ti_sI_eq, t2, Int32.add_assoc]; rfl
  have t6 : ti g6 q1 28 = ti f q1 28 + 3 := by rw [hg6, ti_sI_eq, t4, Int32.add_assoc]; rfl
  have t8 : ti g8 q1 28 = ti f q1 28 + 4 := by rw [hg8, ti_sI_eq, t6, Int32.add_assoc]; rfl
  refine ⟨t8, fun j => ?_, fun c z hc hz => ?_, fun c z => ?_⟩
  · rw [t2, nat_add32 (K := 1) h0 h1 (by decide) (by decide)] at hg3
    rw [t4, nat_add32 (K := 2) h0 h1 (by decide) (by decide)] at hg5
    rw [t6, nat_add32 (K := 3) h0 h1 (by decide) (by decide)] at hg7
    rw [← put4_is]
    rw [hg8, ti_sI_ne hne.symm, hg7]
    have b3 : vp_nar .byte ((p >>> ((8 * ((3 : Int32) + (-1) + (-1) + (-1))) &&& 31)).toInt8.toInt32) = byt p 3 := rfl
    have b2 : vp_nar .byte ((p >>> ((8 * ((3 : Int32) + (-1) + (-1))) &&& 31)).toInt8.toInt32) = byt p 2 := rfl
    have b1 : vp_nar .byte ((p >>> ((8 * ((3 : Int32) + (-1))) &&& 31)).toInt8.toInt32) = byt p 1 := rfl
    have b0 : vp_nar .byte ((p >>> ((8 * (3 : Int32)) &&& 31)).toInt8.toInt32) = byt p 0 := rfl
    rw [b3]
    by_cases j3 : j = (ti f q1 28).toNatClampNeg + 3
    · subst j3; rw [ti_sI_eq, ti_sI_eq]
    · rw [ti_sI_nj j3, ti_sI_nj j3, hg6, ti_sI_ne hne.symm, hg5, b2]
      by_cases j2 : j = (ti f q1 28).toNatClampNeg + 2
      · subst j2; rw [ti_sI_eq, ti_sI_eq]
      · rw [ti_sI_nj j2, ti_sI_nj j2, hg4, ti_sI_ne hne.symm, hg3, b1]
        by_cases j1 : j = (ti f q1 28).toNatClampNeg + 1
        · subst j1; rw [ti_sI_eq, ti_sI_eq]
        · rw [ti_sI_nj j1, ti_sI_nj j1, hg2, ti_sI_ne hne.symm, hg1, b0]
  · have hs : ∀ (g : TF) (v : Int32), ti (sI g q1 28 v) c z = ti g c z := fun g v => by
      rw [ti_sI, if_neg (by rcases hz with h | h; exact fun k => h k.1; exact fun k => h k.2)]
    rw [hg8, hs, hg7, ti_sI_ne hc, hg6, hs, hg5, ti_sI_ne hc, hg4, hs, hg3, ti_sI_ne hc, hg2, hs, hg1, ti_sI_ne hc]
  · rw [hg8, hg7, hg6, hg5, hg4, hg3, hg2, hg1, tr_sI, tr_sI, tr_sI, tr_sI, tr_sI, tr_sI, tr_sI, tr_sI]
def put20 (F : Nat → Int32) (x : Nat) (p0 p1 p2 p3 p4 : Int32) : Nat → Int32 := put4 (put4 (put4 (put4 (put4 F x p0) (x + 4) p1) (x + 8) p2) (x + 12) p3) (x + 16) p4
def App5 (f f' : TF) (qb ql sl : Nat) (p0 p1 p2 p3 p4 : Int32) : Prop := ti f' ql sl = ti f ql sl + 20 ∧ (∀ j, ti f' qb j = put20 (ti f qb) (ti f ql sl).toNatClampNeg p0 p1 p2 p3 p4 j) ∧ (∀ c z, c ≠ qb → (c ≠ ql ∨ z ≠ sl) → ti f' c z = ti f c z) ∧ ∀ c z, tr f' c z = tr f c z
theorem app_b {f' : TF} {qb ql sl K : Nat} {p x k : Int32} (h : App f f' qb ql sl p) (e : ti f ql sl = x + k) (h0 : ¬ x < 0) (h1 : ¬ 380 < x) (hk : k.toInt = (K : Int)) (hK : K ≤ 16) : ti f' ql sl = x + (k + 4) ∧ (∀ j, ti f' qb j = put4 (ti f qb) (x.toNatClampNeg + K) p j) ∧ ¬ ti f ql sl < 0 ∧ ¬ 396 < ti f ql sl := by
  have a := i32_nat h0
  have z0 : (0 : Int32).toInt = 0 := by decide
  have z1 : (380 : Int32).toInt = 380 := by decide
  have z2 : (396 : Int32).toInt = 396 := by decide
  rw [Int32.lt_iff_toInt_lt] at h0 h1
  have m : (x + k).toInt = x.toInt + K := by rw [fb_addI (by omega) (by omega), hk]
  have hn : ¬ (x + k) < 0 := by rw [Int32.lt_iff_toInt_lt, m]; omega
  have a5 := i32_nat hn
  refine ⟨by rw [h.1, e, Int32.add_assoc], fun j => ?_, by rw [e]; exact hn, by rw [e, Int32.lt_iff_toInt_lt, m]; omega⟩
  rw [h.2.1 j, e, show (x + k).toNatClampNeg = x.toNatClampNeg + K by omega]
theorem app_ok {x k y : Int32} {K : Nat} (e : y = x + k) (h0 : ¬ x < 0) (h1 : ¬ 380 < x) (hk : k.toInt = (K : Int)) (hK : K ≤ 16) : ¬ y < 0 ∧ ¬ 396 < y := by
  have z0 : (0 : Int32).toInt = 0 := by decide
  have z1 : (380 : Int32).toInt = 380 := by decide
  have z2 : (396 : Int32).toInt = 396 := by decide
  rw [Int32.lt_iff_toInt_lt] at h0 h1
  have m : (x + k).toInt = x.toInt + K := by rw [fb_addI (by omega) (by omega), hk]
  rw [e, Int32.lt_iff_toInt_lt, Int32.lt_iff_toInt_lt, m]
  omega
theorem app5 {f1 f2 f3 f4 f5 : TF} {qb ql sl : Nat} {p0 p1 p2 p3 p4 : Int32} (h0 : ¬ ti f ql sl < 0) (h1 : ¬ 380 < ti f ql sl) (a1 : App f f1 qb ql sl p0) (a2 : App f1 f2 qb ql sl p1) (a3 : App f2 f3 qb ql sl p2) (a4 : App f3 f4 qb ql sl p3) (a5 : App f4 f5 qb ql sl p4) : App5 f f5 qb ql sl p0 p1 p2 p3 p4 := by
  obtain ⟨l1, b1, -, -⟩ := app_b (x := ti f ql sl) (k := 0) (K := 0) a1 (Int32.add_zero _).symm h0 h1 (by decide) (by decide)
  obtain ⟨l2, b2, -, -⟩ := app_b (x := ti f ql sl) (k := 4) (K := 4) a2 l1 h0 h1 (by decide) (by decide)
  obtain ⟨l3, b3, -, -⟩ := app_b (x := ti f ql sl) (k := 8) (K := 8) a3 l2 h0 h1 (by decide) (by decide)
  obtain ⟨l4, b4, -, -⟩ := app_b (x := ti f ql sl) (k := 12) (K := 12) a4 l3 h0 h1 (by decide) (by decide)
  obtain ⟨l5, b5, -, -⟩ := app_b (x := ti f ql sl) (k := 16) (K := 16) a5 l4 h0 h1 (by decide) (by decide)
  refine ⟨l5, fun j => ?_, fun c z hc hz => ?_, fun c z => ?_⟩
  · have e1 : ti f1 qb = put4 (ti f qb) ((ti f ql sl).toNatClampNeg + 0) p0 := funext b1
    have e2 : ti f2 qb = put4 (ti f1 qb) ((ti f ql sl).toNatClampNeg + 4) p1 := funext b2
    have e3 : ti f3 qb = put4 (ti f2 qb) ((ti f ql sl).toNatClampNeg + 8) p2 := funext b3
    have e4 : ti f4 qb = put4 (ti f3 qb) ((ti f ql sl).toNatClampNeg + 12) p3 := funext b4
    rw [b5 j, e4, e3, e2, e1]
    rfl
  · rw [a5.2.2.1 c z hc hz, a4.2.2.1 c z hc hz, a3.2.2.1 c z hc hz, a2.2.2.1 c z hc hz, a1.2.2.1 c z hc hz]
  · rw [a5.2.2.2, a4.2.2.2, a3.2.2.2, a2.2.2.2, a1.2.2.2]
/-- the texts' bytes stand on both sides -/
def CT (f : TF) (q0 q1 : Nat) : Prop := ∃ qT qB mB : Nat, tr f q0 5 = some qT ∧ tr f qT 0 = some qB ∧ tr f q1 27 = some mB ∧ ti f qT 1 = ti f q1 28 ∧ ∀ j : Nat, ti f qB j = ti f mB j
def avT (W : List (Nat × Nat)) : Bool := [11, 50].all (fun k => W.all (fun p => p.1 != k)) && [(0, 5), (10, 0), (10, 1), (27, 27), (27, 28)].all (fun q => !(wr W q.1 q.2))
theorem avT_k {W : List (Nat × Nat)} (h : avT W = true) (k : Nat) (hk : k ∈ [11, 50]) (j : Nat) : wr W k j = false := by
  unfold avT at h
  rw [Bool.and_eq_true] at h
  exact wr_k (List.all_eq_true.mp h.1 k hk) j
theorem avT_s {W : List (Nat × Nat)} (h : avT W = true) (k j : Nat) (hk : (k, j) ∈ [(0, 5), (10, 0), (10, 1), (27, 27), (27, 28)]) : wr W k j = false := by
  unfold avT at h
  rw [Bool.and_eq_true] at h
  have := List.all_eq_true.mp h.2 (k, j) hk
  simpa using this
theorem CT.ext {W : List (Nat × Nat)} {L1 : List Nat} {f1 : TF} (h : CT f q0 q1) (hO : Ok L f) (m0 : q0 ∈ L ∧ tk f q0 = 0) (m1 : q1 ∈ L ∧ tk f q1 = 27) (hE : Ext W L f L1 f1) (ha : avT W = true) : CT f1 q0 q1 := by
  obtain ⟨qT, qB, mB, h1, h2, h3, h4, h5⟩ := h
  have iT := hO.rm (j := 5) (k' := 10) (n := false) m0 rfl h1
  have iB := hO.rm (j := 0) (k' := 11) (n := false) iT rfl h2
  have iM := hO.rm (j := 27) (k' := 50) (n := false) m1 rfl h3
  have s := avT_s ha
  have kk := avT_k ha
  exact ⟨qT, qB, mB, (hE.er m0 (s 0 5 (by decide))).trans h1, (hE.er iT (s 10 0 (by decide))).trans h2, (hE.er m1 (s 27 27 (by decide))).trans h3, (hE.ei iT (s 10 1 (by decide))).trans (h4.trans (hE.ei m1 (s 27 28 (by decide))).symm), fun j => (hE.ei iB (kk 11 (by decide) j)).trans ((h5 j).trans (hE.ei iM (kk 50 (by decide) j)).symm)⟩
/-- as PairQ, with any coupling -/
def PairG (C : List Nat → TF → Prop) (q0 q1 : Nat) (wpm : List Nat → TF → (Int32 → List Nat → TF → Prop) → Prop) : Int32 → List Nat → TF → Prop := fun r L1 f1 => Ok L1 f1 → (q0 ∈ L1 ∧ tk f1 q0 = 0) → (q1 ∈ L1 ∧ tk f1 q1 = 27) → wpm L1 f1 (fun r' L2 f2 => Ok L2 f2 → r = r' ∧ C L2 f2)
theorem pr_end (hO : Ok L f) (m0 : q0 ∈ L ∧ tk f q0 = 0) (m1 : q1 ∈ L ∧ tk f q1 = 27) (hC : CT f q0 q1) (p_0 : Int32) : wp_WM_end_w L f q0 p_0 (PairG (fun _ f => CT f q0 q1) q0 q1 (fun L f Q => wp_Md_end_w L f q1 p_0 Q)) := by
  obtain ⟨qT, qB, mB, h1, h2, h3, h4, h5⟩ := id hC
  have iT := hO.rm (j := 5) (k' := 10) (n := false) m0 rfl h1
  have iB := hO.rm (j := 0) (k' := 11) (n := false) iT rfl h2
  have iM := hO.rm (j := 27) (k' := 50) (n := false) m1 rfl h3
  refine ⟨fun c1 _ _ _ x1 e1 => ⟨fun _ _ => ⟨rfl, hC⟩, fun g => absurd c1 g⟩, fun c1 q2 e2 x3 e3 => ⟨fun c2 f1 hf1 hO1 _ _ _ x1 e1 => ?_, fun c2 _ _ _ x1 e1 => ?_⟩⟩
  · rw [h1] at e2; cases e2
    subst hf1
    have n1 : q1 ≠ qT := ne_tk m1.2 iT.2 (by decide)
    rw [ti_sI_ne n1, ← h4, e3] at e1
    subst e1
    refine ⟨fun g => absurd g c1, fun _ => ⟨fun g => ?_, fun _ f2 hf2 _ _ => ⟨rfl, ?_⟩⟩⟩
    · rw [Int32.le_iff_toInt_le] at c2
      rw [Int32.lt_iff_toInt_lt] at g
      omega
    · subst hf2
      refine ⟨qT, qB, mB, by rw [tr_sI, tr_sI]; exact h1, by rw [tr_sI, tr_sI]; exact h2, by rw [tr_sI, tr_sI]; exact h3, by rw [ti_sI_ne n1.symm, ti_sI_eq, ti_sI_eq], fun j => ?_⟩
      rw [ti_sI_ne (ne_tk iB.2 m1.2 (by decide)), ti_sI_ne (ne_tk iB.2 iT.2 (by decide)), ti_sI_ne (ne_tk iM.2 m1.2 (by decide)), ti_sI_ne (ne_tk iM.2 iT.2 (by decide))]
      exact h5 j
  · rw [h1] at e2; cases e2
    rw [← h4, e3] at e1
    subst e1
    refine ⟨fun g => absurd g c1, fun _ => ⟨fun _ _ => ⟨rfl, hC⟩, fun g => ?_⟩⟩
    rw [Int32.le_iff_toInt_le] at c2
    rw [Int32.lt_iff_toInt_lt] at g
    omega
theorem pr_feed (hO : Ok L f) (m0 : q0 ∈ L ∧ tk f q0 = 0) (m1 : q1 ∈ L ∧ tk f q1 = 27) (hC : CT f q0 q1) (p_0 p_1 p_2 p_3 p_4 : Int32) : wp_WM_feed_w L f q0 p_0 p_1 p_2 p_3 p_4 (PairG (fun _ f => CT f q0 q1) q0 q1 (fun L f Q => wp_Md_feed_w L f q1 p_0 p_1 p_2 p_3 p_4 Q)) := by
  obtain ⟨qT, qB, mB, h1, h2, h3, h4, h5⟩ := id hC
  have iT := hO.rm (j := 5) (k' := 10) (n := false) m0 rfl h1
  have iB := hO.rm (j := 0) (k' := 11) (n := false) iT rfl h2
  have iM := hO.rm (j := 27) (k' := 50) (n := false) m1 rfl h3
  have nTB : qT ≠ qB := ne_tk iT.2 iB.2 (by decide)
  have nT1 : q1 ≠ qT := ne_tk m1.2 iT.2 (by decide)
  have nB1 : q1 ≠ qB := ne_tk m1.2 iB.2 (by decide)
  have nM1 : q1 ≠ mB := ne_tk m1.2 iM.2 (by decide)
  have nMT : mB ≠ qT := ne_tk iM.2 iT.2 (by decide)
  have nMB : mB ≠ qB := ne_tk iM.2 iB.2 (by decide)
  have hl := hO.i iT (show slotD 10 1 = some (.inl (0, 400)) from rfl)
  have z0 : (0 : Int32).toInt = 0 := by decide
  have z20 : (20 : Int32).toInt = 20 := by decide
  have z380 : (380 : Int32).toInt = 380 := by decide
  have z400 : (400 : Int32).toInt = 400 := by decide
  have hcmp : ti f q1 28 + 20 ≤ 400 ↔ ¬ 380 < ti f qT 1 := by
    rw [← h4]
    obtain ⟨a, b⟩ := hl
    generalize ti f qT 1 = x at a b ⊢
    rw [Int32.lt_iff_toInt_lt] at a b
    rw [Int32.le_iff_toInt_le, Int32.lt_iff_toInt_lt, fb_addI (by omega) (by omega)]
    omega
  intro q1' e1 x1 ex
  rw [h1] at e1; cases e1
  refine ⟨fun c => ⟨fun _ => ?_, fun h => absurd h (by decide)⟩, fun c => ⟨fun h => absurd h (by decide), fun _ => ?_⟩⟩
  · intro _ _ _
    rw [← ex] at c
    exact ⟨fun g => absurd c (hcmp.mp g), fun _ _ => ⟨rfl, hC⟩⟩
  · rw [← ex] at c
    have a0 := hl.1
    have k0 := app_ok (y := ti f qT 1) (k := 0) (K := 0) (Int32.add_zero _).symm a0 c (by decide) (by decide)
    refine app_x h2 nTB k0.1 k0.2 (fun f1 a1 _ _ _ => ?_)
    obtain ⟨l1, -, -, -⟩ := app_b (x := ti f qT 1) (k := 0) (K := 0) a1 (Int32.add_zero _).symm a0 c (by decide) (by decide)
    have k1 := app_ok (y := ti f1 qT 1) (k := 4) (K := 4) l1 a0 c (by decide) (by decide)
    refine app_x ((a1.2.2.2 _ _).trans h2) nTB k1.1 k1.2 (fun f2 a2 _ _ _ => ?_)
    obtain ⟨l2, -, -, -⟩ := app_b (x := ti f qT 1) (k := 4) (K := 4) a2 l1 a0 c (by decide) (by decide)
    have k2 := app_ok (y := ti f2 qT 1) (k := 8) (K := 8) l2 a0 c (by decide) (by decide)
    refine app_x ((a2.2.2.2 _ _).trans ((a1.2.2.2 _ _).trans h2)) nTB k2.1 k2.2 (fun f3 a3 _ _ _ => ?_)
    obtain ⟨l3, -, -, -⟩ := app_b (x := ti f qT 1) (k := 8) (K := 8) a3 l2 a0 c (by decide) (by decide)
    have k3 := app_ok (y := ti f3 qT 1) (k := 12) (K := 12) l3 a0 c (by decide) (by decide)
    refine app_x ((a3.2.2.2 _ _).trans ((a2.2.2.2 _ _).trans ((a1.2.2.2 _ _).trans h2))) nTB k3.1 k3.2 (fun f4 a4 _ _ _ => ?_)
    obtain ⟨l4, -, -, -⟩ := app_b (x := ti f qT 1) (k := 12) (K := 12) a4 l3 a0 c (by decide) (by decide)
    have k4 := app_ok (y := ti f4 qT 1) (k := 16) (K := 16) l4 a0 c (by decide) (by decide)
    refine app_x ((a4.2.2.2 _ _).trans ((a3.2.2.2 _ _).trans ((a2.2.2.2 _ _).trans ((a1.2.2.2 _ _).trans h2)))) nTB k4.1 k4.2 (fun f5 a5 hO5 _ _ x8 e8 => ?_)
    have A := app5 a0 c a1 a2 a3 a4 a5
    intro hO5' m0' m1'
    -- the reference
    have t28 : ti f5 q1 28 = ti f q1 28 := A.2.2.1 _ _ nB1 (Or.inl nT1)
    have tMB : tr f5 q1 27 = some mB := (A.2.2.2 _ _).trans h3
    have b0 : ¬ ti f5 q1 28 < 0 := by rw [t28, ← h4]; exact a0
    have b1 : ¬ 380 < ti f5 q1 28 := by rw [t28, ← h4]; exact c
    refine ⟨fun _ => ?_, fun g => absurd (by rw [t28]; exact hcmp.mpr c) g⟩
    have j0 := app_ok (y := ti f5 q1 28) (k := 0) (K := 0) (Int32.add_zero _).symm b0 b1 (by decide) (by decide)
    refine four_m hO5 tMB nM1 j0.1 j0.2 (fun g1 c1 hP1 _ _ => ?_)
    obtain ⟨w1, -, -, -⟩ := app_b (x := ti f5 q1 28) (k := 0) (K := 0) c1 (Int32.add_zero _).symm b0 b1 (by decide) (by decide)
    have j1 := app_ok (y := ti g1 q1 28) (k := 4) (K := 4) w1 b0 b1 (by decide) (by decide)
    refine four_m hP1 ((c1.2.2.2 _ _).trans tMB) nM1 j1.1 j1.2 (fun g2 c2 hP2 _ _ => ?_)
    obtain ⟨w2, -, -, -⟩ := app_b (x := ti f5 q1 28) (k := 4) (K := 4) c2 w1 b0 b1 (by decide) (by decide)
    have j2 := app_ok (y := ti g2 q1 28) (k := 8) (K := 8) w2 b0 b1 (by decide) (by decide)
    refine four_m hP2 ((c2.2.2.2 _ _).trans ((c1.2.2.2 _ _).trans tMB)) nM1 j2.1 j2.2 (fun g3 c3 hP3 _ _ => ?_)
    obtain ⟨w3, -, -, -⟩ := app_b (x := ti f5 q1 28) (k := 8) (K := 8) c3 w2 b0 b1 (by decide) (by decide)
    have j3 := app_ok (y := ti g3 q1 28) (k := 12) (K := 12) w3 b0 b1 (by decide) (by decide)
    refine four_m hP3 ((c3.2.2.2 _ _).trans ((c2.2.2.2 _ _).trans ((c1.2.2.2 _ _).trans tMB))) nM1 j3.1 j3.2 (fun g4 c4 hP4 _ _ => ?_)
    obtain ⟨w4, -, -, -⟩ := app_b (x := ti f5 q1 28) (k := 12) (K := 12) c4 w3 b0 b1 (by decide) (by decide)
    have j4 := app_ok (y := ti g4 q1 28) (k := 16) (K := 16) w4 b0 b1 (by decide) (by decide)
    refine four_m hP4 ((c4.2.2.2 _ _).trans ((c3.2.2.2 _ _).trans ((c2.2.2.2 _ _).trans ((c1.2.2.2 _ _).trans tMB)))) nM1 j4.1 j4.2 (fun g5 c5 hP5 _ _ _ => ?_)
    have M := app5 b0 b1 c1 c2 c3 c4 c5
    have lx : ti g5 qT 1 = ti f5 qT 1 := M.2.2.1 _ _ nMT.symm (Or.inl nT1.symm)
    have hlen : ti f5 qT 1 = ti g5 q1 28 := by rw [A.1, M.1, t28, h4]
    refine ⟨by rw [← e8]; exact hlen, qT, qB, mB, ?_, ?_, ?_, lx.trans hlen, fun j => ?_⟩
    · rw [M.2.2.2, A.2.2.2]; exact h1
    · rw [M.2.2.2, A.2.2.2]; exact h2
    · rw [M.2.2.2, A.2.2.2]; exact h3
    · have e1 : ti f5 mB = ti f qB := funext (fun z => (A.2.2.1 _ _ nMB (Or.inl nMT)).trans (h5 z).symm)
      rw [M.2.2.1 _ _ nMB.symm (Or.inl nB1.symm), A.2.1 j, M.2.1 j, e1, t28, h4]
end TAPE
