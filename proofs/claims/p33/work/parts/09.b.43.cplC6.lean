section CPC
variable {L : List Nat} {f : TF} {q0 q1 : Nat} {ad : Nat → Nat}
theorem n_succ {n : Int32} (h0 : ¬ n < 0) (h : n < 12) : n.toNatClampNeg ≤ (n + 1).toNatClampNeg := by
  have z0 : (0 : Int32).toInt = 0 := by decide
  have z1 : (1 : Int32).toInt = 1 := by decide
  have z12 : (12 : Int32).toInt = 12 := by decide
  have a1 := i32_nat h0
  rw [Int32.lt_iff_toInt_lt] at h0 h
  have b1 : (n + 1).toInt = n.toInt + 1 := by rw [fb_addI (by omega) (by omega)]; omega
  have a2 := i32_nat (x := n + 1) (by rw [Int32.lt_iff_toInt_lt]; omega)
  omega
theorem pr_stairsN (hO : Ok L f) (m0 : q0 ∈ L ∧ tk f q0 = 0) (m1 : q1 ∈ L ∧ tk f q1 = 27) (hC : Cpl L f q0 q1) (hK : CM f q1) (p_0 : Int32) : wp_WM_stairs_w L f q0 p_0 (PairG (fun L g => Cpl L g q0 q1 ∧ CM g q1 ∧ (ti f q1 2).toNatClampNeg ≤ (ti g q1 2).toNatClampNeg) q0 q1 (fun L f Q => wp_Md_stairs_w L f q1 p_0 Q)) := by
  obtain ⟨ad, hR, hV⟩ := id hC
  have hM := refs_m hO m0 m1 hR
  have hn := hO.i m1 (show slotD 27 2 = some (.inl (0, 12)) from rfl)
  have z0 : (0 : Int32).toInt = 0 := by decide
  have z1 : (1 : Int32).toInt = 1 := by decide
  have zm : (-1 : Int32).toInt = -1 := by decide
  have z12 : (12 : Int32).toInt = 12 := by decide
  have hle : ti f q1 2 ≤ 0 ↔ ti f q1 2 = 0 := by
    obtain ⟨h1, h2⟩ := hn
    generalize ti f q1 2 = n at h1 h2 ⊢
    rw [Int32.lt_iff_toInt_lt] at h1 h2
    rw [Int32.le_iff_toInt_le, ← Int32.toInt_inj]
    omega
  have h12 : ti f q1 2 < 12 ↔ ¬ ti f q1 2 = 12 := by
    obtain ⟨h1, h2⟩ := hn
    generalize ti f q1 2 = n at h1 h2 ⊢
    rw [Int32.lt_iff_toInt_lt] at h1 h2
    rw [Int32.lt_iff_toInt_lt, ← Int32.toInt_inj]
    omega
  unfold wp_WM_stairs_w
  refine ⟨fun c1 _ _ _ => ⟨fun _ _ => ⟨rfl, hC, hK, Nat.le_refl _⟩, fun g => absurd c1 g⟩, fun c1 => ⟨fun c2 _ _ _ => ⟨fun g => absurd g c1, fun _ => ⟨fun _ _ => ⟨rfl, hC, hK, Nat.le_refl _⟩, fun g => absurd c2 g⟩⟩, fun c2 q3 e3 => ?_⟩⟩
  rw [hR.1] at e3; cases e3
  -- adding
  have hadd : (ti f q1 2 = 0 ∨ (¬ ti f q1 2 = 0 ∧ ti f (ad 28) (ti f q1 2 - 1).toNatClampNeg < p_0)) → ti f q1 2 < 12 → wp_Rv_addStairs_w L f (ad 1) p_0 (fun (r_8 : Int32) (L_1 : List Nat) (f_1 : TF) => Ok L_1 f_1 → Ext W_Rv_addStairs_w L f L_1 f_1 → PairG (fun L g => Cpl L g q0 q1 ∧ CM g q1 ∧ (ti f q1 2).toNatClampNeg ≤ (ti g q1 2).toNatClampNeg) q0 q1 (fun L f Q => wp_Md_stairs_w L f q1 p_0 Q) r_8 L_1 f_1) := by
    intro hc hlt q1' e1 f1 hf1 _ f2 hf2 _ _ _ _ m0' m1'
    rw [hR.2.1] at e1; cases e1
    rw [hV.2.1] at hf1 hf2 ⊢
    subst hf1
    have q2 : q1 ≠ ad 2 := ne_tk m1.2 (hM 2 (by decide)).2 (by decide)
    have a1q : q1 ≠ ad 1 := ne_tk m1.2 (hM 1 (by decide)).2 (by decide)
    have m2 : ad 28 ≠ ad 2 := ne_tk (hM 28 (by decide)).2 (hM 2 (by decide)).2 (by decide)
    have m1' : ad 28 ≠ ad 1 := ne_tk (hM 28 (by decide)).2 (hM 1 (by decide)).2 (by decide)
    have en : ti f2 q1 2 = ti f q1 2 := by rw [hf2, ti_sI_ne a1q, ti_sI_ne q2]
    have em : ∀ z, ti f2 (ad 28) z = ti f (ad 28) z := fun z => by rw [hf2, ti_sI_ne m1', ti_sI_ne m2]
    have er : tr f2 q1 3 = some (ad 28) := by rw [hf2, tr_sI, tr_sI]; exact hR.2.2.2.2.2.1
    have hfin : ∀ q : Nat, tr f2 q1 3 = some q → ∀ f3 : TF, f3 = sI f2 q (ti f q1 2).toNatClampNeg p_0 → Ok L f3 → ∀ f4 : TF, f4 = sI f3 q1 2 (ti f q1 2 + 1) → Ok L f4 → Ok L f4 → (ti f q1 2 + 1 - 1 = ti f q1 2 + 1 - 1 ∧ Cpl L f4 q0 q1 ∧ CM f4 q1 ∧ (ti f q1 2).toNatClampNeg ≤ (ti f4 q1 2).toNatClampNeg) := by
      intro q hq f3 hf3 _ f4 hf4 _ _
      rw [er] at hq; cases hq
      subst hf3 hf4 hf2
      exact ⟨rfl, cpl_stairs hO m0 m1 hR hV, cm_stairs hO m0 m1 hR hK c1 c2 hc hlt, by rw [ti_sI_eq]; exact n_succ hn.1 hlt⟩
    refine ⟨fun g => absurd g c1, fun _ => ⟨fun g => absurd g c2, fun _ x4 e4 => ?_⟩⟩
    rw [en] at e4
    subst e4
    refine ⟨fun g q6 e6 f3 hf3 h3 f4 hf4 h4 h5 => hfin q6 e6 f3 hf3 h3 f4 hf4 h4 h5, fun g q9 e9 x10 e10 => ?_⟩
    have e9' := e9
    rw [er] at e9; cases e9
    rw [em] at e10
    refine ⟨fun g1 => ⟨fun g2 => absurd g2 (h12.mp hlt), fun _ f3 hf3 h3 f4 hf4 h4 h5 => hfin _ e9' f3 hf3 h3 f4 hf4 h4 h5⟩, fun g1 => ?_⟩
    rcases hc with hc | ⟨_, hc⟩
    · exact absurd (hle.mpr hc) g
    · rw [e10] at hc; exact absurd hc g1
  -- refusals
  have hbad : ¬ ti f q1 2 = 0 → ¬ (ti f (ad 28) (ti f q1 2 - 1).toNatClampNeg < p_0) → PairG (fun L g => Cpl L g q0 q1 ∧ CM g q1 ∧ (ti f q1 2).toNatClampNeg ≤ (ti g q1 2).toNatClampNeg) q0 q1 (fun L f Q => wp_Md_stairs_w L f q1 p_0 Q) (-1) L f := by
    intro h0 h _ _ _
    refine ⟨fun g => absurd g c1, fun _ => ⟨fun g => absurd g c2, fun _ x4 e4 => ?_⟩⟩
    subst e4
    refine ⟨fun g => absurd (hle.mp g) h0, fun g q9 e9 x10 e10 => ?_⟩
    rw [hR.2.2.2.2.2.1] at e9; cases e9
    subst e10
    exact ⟨fun g1 => absurd g1 h, fun _ _ => ⟨rfl, hC, hK, Nat.le_refl _⟩⟩
  have hfull : ¬ ti f q1 2 = 0 → (ti f (ad 28) (ti f q1 2 - 1).toNatClampNeg < p_0) → ¬ ti f q1 2 < 12 → PairG (fun L g => Cpl L g q0 q1 ∧ CM g q1 ∧ (ti f q1 2).toNatClampNeg ≤ (ti g q1 2).toNatClampNeg) q0 q1 (fun L f Q => wp_Md_stairs_w L f q1 p_0 Q) (-3) L f := by
    intro h0 h hn12 _ _ _
    refine ⟨fun g => absurd g c1, fun _ => ⟨fun g => absurd g c2, fun _ x4 e4 => ?_⟩⟩
    subst e4
    refine ⟨fun g => absurd (hle.mp g) h0, fun g q9 e9 x10 e10 => ?_⟩
    rw [hR.2.2.2.2.2.1] at e9; cases e9
    subst e10
    exact ⟨fun _ => ⟨fun _ _ => ⟨rfl, hC, hK, Nat.le_refl _⟩, fun g2 => absurd (h12.mpr g2) hn12⟩, fun g1 => absurd h g1⟩
  intro x1 e1
  rw [hV.2.1] at e1
  subst e1
  refine ⟨fun g0 => ⟨fun _ x6 e6 => ?_, fun g => ?_⟩, fun g0 q3 e3 x4 e4 => ?_⟩
  · rw [hV.2.1] at e6
    subst e6
    have hl : ti f q1 2 < 12 := by rw [g0]; decide
    exact ⟨fun _ => hadd (Or.inl g0) hl, fun g => absurd hl g⟩
  · exact absurd (by
      rw [Int32.lt_iff_toInt_lt] at c1 ⊢
      omega) g
  · rw [hR.2.1] at e3; cases e3
    rw [hV.2.2.1] at e4
    subst e4
    refine ⟨fun g x6 e6 => ?_, fun g => hbad g0 g⟩
    rw [hV.2.1] at e6
    subst e6
    exact ⟨fun gl => hadd (Or.inr ⟨g0, g⟩) gl, fun gl => hfull g0 g gl⟩
theorem K1.extT {W : List (Nat × Nat)} {L1 : List Nat} {f1 : TF} (h : K1 f ad (ti f q1 1 / 720).toInt) (hA : Ad f q0 q1 ad) (hO : Ok L f) (m0 : q0 ∈ L ∧ tk f q0 = 0) (m1 : q1 ∈ L ∧ tk f q1 = 27) (hE : Ext W L f L1 f1) (ha : (avK1 W && !(wr W 27 1)) = true) : K1 f1 ad (ti f1 q1 1 / 720).toInt := by
  rw [Bool.and_eq_true] at ha
  rw [hE.ei m1 (by simpa using ha.2)]
  exact h.ext hA hO m0 m1 hE ha.1
theorem K2.extN {W : List (Nat × Nat)} {L1 : List Nat} {f1 : TF} {j : Nat} (h : K2 f q0 ad (ti f q1 2).toNatClampNeg j) (hA : Ad f q0 q1 ad) (hO : Ok L f) (m0 : q0 ∈ L ∧ tk f q0 = 0) (m1 : q1 ∈ L ∧ tk f q1 = 27) (hE : Ext W L f L1 f1) (ha : (avK2 W && !(wr W 27 2)) = true) : K2 f1 q0 ad (ti f1 q1 2).toNatClampNeg j := by
  rw [Bool.and_eq_true] at ha
  rw [hE.ei m1 (by simpa using ha.2)]
  exact h.ext hA hO m0 m1 hE ha.1
theorem K3.extT {W : List (Nat × Nat)} {L1 : List Nat} {f1 : TF} (h : K3 f q0 q1 ad (ti f q1 1) (ti f q1 2).toNatClampNeg) (hA : Ad f q0 q1 ad) (hO : Ok L f) (m0 : q0 ∈ L ∧ tk f q0 = 0) (m1 : q1 ∈ L ∧ tk f q1 = 27) (hE : Ext W L f L1 f1) (ha : (avK3 W && (!(wr W 27 1) && !(wr W 27 2))) = true) : K3 f1 q0 q1 ad (ti f1 q1 1) (ti f1 q1 2).toNatClampNeg := by
  rw [Bool.and_eq_true, Bool.and_eq_true] at ha
  rw [hE.ei m1 (by simpa using ha.2.1), hE.ei m1 (by simpa using ha.2.2)]
  exact h.ext hA hO m0 m1 hE ha.1
theorem K1.toT {f2 : TF} (h : K1 f2 ad (ti f q1 1 / 720).toInt) (e : ti f2 q1 1 = ti f q1 1) : K1 f2 ad (ti f2 q1 1 / 720).toInt := by rw [e]; exact h
theorem K2.toN {f2 : TF} {j : Nat} (h : K2 f2 q0 ad (ti f q1 2).toNatClampNeg j) (e : ti f2 q1 2 = ti f q1 2) : K2 f2 q0 ad (ti f2 q1 2).toNatClampNeg j := by rw [e]; exact h
theorem K3.toT {f2 : TF} (h : K3 f2 q0 q1 ad (ti f q1 1) (ti f q1 2).toNatClampNeg) (e : ti f2 q1 1 = ti f q1 1) (e' : ti f2 q1 2 = ti f q1 2) : K3 f2 q0 q1 ad (ti f2 q1 1) (ti f2 q1 2).toNatClampNeg := by rw [e, e']; exact h
theorem K3.toN {f2 : TF} (h : K3 f2 q0 q1 ad (ti f2 q1 1) (ti f q1 2).toNatClampNeg) (e' : ti f2 q1 2 = ti f q1 2) : K3 f2 q0 q1 ad (ti f2 q1 1) (ti f2 q1 2).toNatClampNeg := by rw [e']; exact h
theorem K3.toM {f2 : TF} (h : K3 f2 q0 q1 ad (ti f q1 1) (ti f q1 2).toNatClampNeg) (e : ti f2 q1 1 = ti f q1 1) (hn : (ti f q1 2).toNatClampNeg ≤ (ti f2 q1 2).toNatClampNeg) : K3 f2 q0 q1 ad (ti f2 q1 1) (ti f2 q1 2).toNatClampNeg := by rw [e]; exact h.mono hn
/-- men's services, later -/
theorem K1.later {L2 : List Nat} {f2 : TF} (h : K1 f2 ad (ti f q1 1 / 720).toInt) (hO : Ok L f) (m1 : q1 ∈ L ∧ tk f q1 = 27) (hO2 : Ok L2 f2) (m2 : q1 ∈ L2 ∧ tk f2 q1 = 27) (hle : ti f q1 1 ≤ ti f2 q1 1) : K1 f2 ad (ti f2 q1 1 / 720).toInt := by
  obtain ⟨n, hn, e⟩ := tb_n hO m1
  obtain ⟨n', hn', e'⟩ := tb_n hO2 m2
  rw [e] at h hle
  rw [e'] at hle ⊢
  rw [nI_leI (by omega) (by omega)] at hle
  rw [show (720 : Int32) = nI 720 from rfl, pk_div (by omega) (by decide) (by decide), nI_toInt (by omega)] at h ⊢
  have hd : n / 720 ≤ n' / 720 := Nat.div_le_div_right hle
  have h5 : n' / 720 ≤ 499 := by omega
  exact h.mono (by omega) (by omega)
/-- all that is coupled behind j ints -/
def CplC (j : Nat) (L : List Nat) (f : TF) (q0 q1 : Nat) : Prop := Cpl L f q0 q1 ∧ CT f q0 q1 ∧ CO f q0 q1 ∧ CM f q1 ∧ ∃ ad, Ad f q0 q1 ad ∧ K1 f ad (ti f q1 1 / 720).toInt ∧ K2 f q0 ad (ti f q1 2).toNatClampNeg j ∧ K3 f q0 q1 ad (ti f q1 1) (ti f q1 2).toNatClampNeg ∧ K4 f q1 ad ∧ K5 f q1 ad
theorem CplC.mono {j j' : Nat} (h : CplC j L f q0 q1) (hj : j ≤ j') : CplC j' L f q0 q1 := by
  obtain ⟨a1, a2, a3, a4, ad, a5, a6, a7, a8⟩ := h
  exact ⟨a1, a2, a3, a4, ad, a5, a6, a7.mono hj (Nat.le_refl _), a8⟩
end CPC
