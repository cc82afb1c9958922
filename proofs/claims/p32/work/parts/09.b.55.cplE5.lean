section CPD
variable {L : List Nat} {f : TF} {q0 q1 : Nat} {ad : Nat → Nat}
theorem KMo.extT {W : List (Nat × Nat)} {L1 : List Nat} {f1 : TF} (h : KMo f q1 ad (ti f q1 1).toNatClampNeg (ti f q1 47).toNatClampNeg) (hA : Ad f q0 q1 ad) (hO : Ok L f) (m0 : q0 ∈ L ∧ tk f q0 = 0) (m1 : q1 ∈ L ∧ tk f q1 = 27) (hE : Ext W L f L1 f1) (ha : (avKMo W && (!(wr W 27 1) && !(wr W 27 47))) = true) : KMo f1 q1 ad (ti f1 q1 1).toNatClampNeg (ti f1 q1 47).toNatClampNeg := by
  rw [Bool.and_eq_true, Bool.and_eq_true] at ha
  rw [hE.ei m1 (by simpa using ha.2.1), hE.ei m1 (by simpa using ha.2.2)]
  exact h.ext hA hO m0 m1 hE ha.1
theorem KMo.toT {f2 : TF} (h : KMo f2 q1 ad (ti f q1 1).toNatClampNeg (ti f2 q1 47).toNatClampNeg) (e : ti f2 q1 1 = ti f q1 1) : KMo f2 q1 ad (ti f2 q1 1).toNatClampNeg (ti f2 q1 47).toNatClampNeg := by rw [e]; exact h
theorem KMo.toTN {f2 : TF} (h : KMo f2 q1 ad (ti f q1 1).toNatClampNeg (ti f q1 47).toNatClampNeg) (e : ti f2 q1 1 = ti f q1 1) (e' : ti f2 q1 47 = ti f q1 47) : KMo f2 q1 ad (ti f2 q1 1).toNatClampNeg (ti f2 q1 47).toNatClampNeg := by rw [e, e']; exact h
/-- all that is coupled, money too -/
def CplD (j : Nat) (L : List Nat) (f : TF) (q0 q1 : Nat) : Prop := Cpl L f q0 q1 ∧ CT f q0 q1 ∧ CO f q0 q1 ∧ CM f q1 ∧ ∃ ad, Ad f q0 q1 ad ∧ K1 f ad (ti f q1 1 / 720).toInt ∧ K2 f q0 ad (ti f q1 2).toNatClampNeg j ∧ K3 f q0 q1 ad (ti f q1 1) (ti f q1 2).toNatClampNeg ∧ K4 f q1 ad ∧ K5 f q1 ad ∧ KMo f q1 ad (ti f q1 1).toNatClampNeg (ti f q1 47).toNatClampNeg
theorem CplD.mono {j j' : Nat} (h : CplD j L f q0 q1) (hj : j ≤ j') : CplD j' L f q0 q1 := by
  obtain ⟨a1, a2, a3, a4, ad, a5, a6, a7, a8⟩ := h
  exact ⟨a1, a2, a3, a4, ad, a5, a6, a7.mono hj (Nat.le_refl _), a8⟩
end CPD
