section STM
variable {L : List Nat} {f : TF} {q0 q1 : Nat}
theorem cm_stairs {ad : Nat → Nat} {v : Int32} (hO : Ok L f) (m0 : q0 ∈ L ∧ tk f q0 = 0) (m1 : q1 ∈ L ∧ tk f q1 = 27) (hR : Refs f q0 q1 ad) (hK : CM f q1) (c1 : ¬ v < 0) (c2 : ¬ 60 < v) (hc : ti f q1 2 = 0 ∨ (¬ ti f q1 2 = 0 ∧ ti f (ad 28) (ti f q1 2 - 1).toNatClampNeg < v)) (hlt : ti f q1 2 < 12) : CM (sI (sI (sI (sI f (ad 2) (ti f q1 2).toNatClampNeg v) (ad 1) 4 (ti f q1 2 + 1)) (ad 28) (ti f q1 2).toNatClampNeg v) q1 2 (ti f q1 2 + 1)) q1 := by
  have hM := refs_m hO m0 m1 hR
  obtain ⟨a, h1, h2, h3⟩ := hK
  rw [hR.2.2.2.2.2.1] at h1; cases h1
  have qm : ad 28 ≠ q1 := ne_tk (hM 28 (by decide)).2 m1.2 (by decide)
  have m2 : ad 28 ≠ ad 2 := ne_tk (hM 28 (by decide)).2 (hM 2 (by decide)).2 (by decide)
  have m1' : ad 28 ≠ ad 1 := ne_tk (hM 28 (by decide)).2 (hM 1 (by decide)).2 (by decide)
  obtain ⟨g1, g2⟩ := hO.i m1 (show slotD 27 2 = some (.inl (0, 12)) from rfl)
  generalize hn : ti f q1 2 = n at *
  have z0 : (0 : Int32).toInt = 0 := by decide
  have z1 : (1 : Int32).toInt = 1 := by decide
  have z12 : (12 : Int32).toInt = 12 := by decide
  have en : (n + 1).toNatClampNeg = n.toNatClampNeg + 1 := by
    have a1 := i32_nat g1
    rw [Int32.lt_iff_toInt_lt] at g1 hlt
    have b1 : (n + 1).toInt = n.toInt + 1 := by rw [fb_addI (by omega) (by omega)]; omega
    have a2 := i32_nat (x := n + 1) (by rw [Int32.lt_iff_toInt_lt]; omega)
    omega
  have ev : ∀ z, ti (sI (sI (sI (sI f (ad 2) n.toNatClampNeg v) (ad 1) 4 (n + 1)) (ad 28) n.toNatClampNeg v) q1 2 (n + 1)) (ad 28) z = if z = n.toNatClampNeg then v else ti f (ad 28) z := by
    intro z
    rw [ti_sI_ne qm, ti_sI]
    by_cases hz : z = n.toNatClampNeg
    · rw [if_pos ⟨rfl, hz⟩, if_pos hz]
    · rw [if_neg (fun k => hz k.2), if_neg hz, ti_sI_ne m1', ti_sI_ne m2]
  refine ⟨ad 28, by rw [tr_sI, tr_sI, tr_sI, tr_sI]; exact hR.2.2.2.2.2.1, fun i hi => ?_, fun i j hij hj => ?_⟩
  · rw [ti_sI_eq, en] at hi
    rw [ev]
    by_cases h : i = n.toNatClampNeg
    · rw [if_pos h]; exact ⟨c1, c2⟩
    · rw [if_neg h]; exact h2 i (by omega)
  · rw [ti_sI_eq, en] at hj
    rw [ev, ev, if_neg (show ¬ i = n.toNatClampNeg by omega)]
    by_cases h : j = n.toNatClampNeg
    · rw [if_pos h]
      rcases hc with hc | ⟨hn0, hc⟩
      · subst hc
        have : (0 : Int32).toNatClampNeg = 0 := by decide
        omega
      · have ep : (n - 1).toNatClampNeg + 1 = n.toNatClampNeg := by
          have a1 := i32_nat g1
          have k0 : ¬ n.toInt = 0 := fun k => hn0 (by rw [← Int32.toInt_inj, k, z0])
          rw [Int32.lt_iff_toInt_lt] at g1 hlt
          have b1 : (n - 1).toInt = n.toInt - 1 := by rw [fb_subI (by omega) (by omega)]; omega
          have a2 := i32_nat (x := n - 1) (by rw [Int32.lt_iff_toInt_lt]; omega)
          omega
        by_cases hi : i = (n - 1).toNatClampNeg
        · rw [hi]; exact hc
        · have := h3 i (n - 1).toNatClampNeg (by omega) (by omega)
          rw [Int32.lt_iff_toInt_lt] at this hc ⊢
          omega
    · rw [if_neg h]
      exact h3 i j hij (by omega)
theorem pr_stairsM (hO : Ok L f) (m0 : q0 ∈ L ∧ tk f q0 = 0) (m1 : q1 ∈ L ∧ tk f q1 = 27) (hC : Cpl L f q0 q1) (hK : CM f q1) (p_0 : Int32) : wp_WM_stairs_w L f q0 p_0 (PairG (fun L f => Cpl L f q0 q1 ∧ CM f q1) q0 q1 (fun L f Q => wp_Md_stairs_w L f q1 p_0 Q)) := by
  obtain ⟨ad, hR, hV⟩ := id hC
  have hM := refs_m hO m0 m1 hR
  have hn := hO.i m1 (show slotD 27 2 = some (.inl (0, 12)) from rfl)
  have z0 : (0 : Int32).toInt = 0 := by decide
  have z1 : (1 : Int32).toInt = 1 := by decide
  have zm : (-1 : Int32).toInt = -1 := by decide
  have z12 : (12 : Int32).toInt = 12 := by decide
  have hle : ti f q1 2 ≤ 0 ↔ ti f q1 2 = 0 := by
    obtain ⟨h1, h2⟩ := hn
    generalize ti f q1 2 = n at h1 h2 ⊢
    rw [Int32.lt_iff_toInt_lt] at h1 h2
    rw [Int32.le_iff_toInt_le, ← Int32.toInt_inj]
    omega
  have h12 : ti f q1 2 < 12 ↔ ¬ ti f q1 2 = 12 := by
    obtain ⟨h1, h2⟩ := hn
    generalize ti f q1 2 = n at h1 h2 ⊢
    rw [Int32.lt_iff_toInt_lt] at h1 h2
    rw [Int32.lt_iff_toInt_lt, ← Int32.toInt_inj]
    omega
  unfold wp_WM_stairs_w
  refine ⟨fun c1 _ _ _ => ⟨fun _ _ => ⟨rfl, hC, hK⟩, fun g => absurd c1 g⟩, fun c1 => ⟨fun c2 _ _ _ => ⟨fun g => absurd g c1, fun _ => ⟨fun _ _ => ⟨rfl, hC, hK⟩, fun g => absurd c2 g⟩⟩, fun c2 q3 e3 => ?_⟩⟩
  rw [hR.1] at e3; cases e3
  -- adding
  have hadd : (ti f q1 2 = 0 ∨ (¬ ti f q1 2 = 0 ∧ ti f (ad 28) (ti f q1 2 - 1).toNatClampNeg < p_0)) → ti f q1 2 < 12 → wp_Rv_addStairs_w L f (ad 1) p_0 (fun (r_8 : Int32) (L_1 : List Nat) (f_1 : TF) => Ok L_1 f_1 → Ext W_Rv_addStairs_w L f L_1 f_1 → PairG (fun L f => Cpl L f q0 q1 ∧ CM f q1) q0 q1 (fun L f Q => wp_Md_stairs_w L f q1 p_0 Q) r_8 L_1 f_1) := by
    intro hc hlt q1' e1 f1 hf1 _ f2 hf2 _ _ _ _ m0' m1'
    rw [hR.2.1] at e1; cases e1
    rw [hV.2.1] at hf1 hf2 ⊢
    subst hf1
    have q2 : q1 ≠ ad 2 := ne_tk m1.2 (hM 2 (by decide)).2 (by decide)
    have a1q : q1 ≠ ad 1 := ne_tk m1.2 (hM 1 (by decide)).2 (by decide)
    have m2 : ad 28 ≠ ad 2 := ne_tk (hM 28 (by decide)).2 (hM 2 (by decide)).2 (by decide)
    have m1' : ad 28 ≠ ad 1 := ne_tk (hM 28 (by decide)).2 (hM 1 (by decide)).2 (by decide)
    have en : ti f2 q1 2 = ti f q1 2 := by rw [hf2, ti_sI_ne a1q, ti_sI_ne q2]
    have em : ∀ z, ti f2 (ad 28) z = ti f (ad 28) z := fun z => by rw [hf2, ti_sI_ne m1', ti_sI_ne m2]
    have er : tr f2 q1 3 = some (ad 28) := by rw [hf2, tr_sI, tr_sI]; exact hR.2.2.2.2.2.1
    have hfin : ∀ q : Nat, tr f2 q1 3 = some q → ∀ f3 : TF, f3 = sI f2 q (ti f q1 2).toNatClampNeg p_0 → Ok L f3 → ∀ f4 : TF, f4 = sI f3 q1 2 (ti f q1 2 + 1) → Ok L f4 → Ok L f4 → (ti f q1 2 + 1 - 1 = ti f q1 2 + 1 - 1 ∧ Cpl L f4 q0 q1 ∧ CM f4 q1) := by
      intro q hq f3 hf3 _ f4 hf4 _ _
      rw [er] at hq; cases hq
      subst hf3 hf4 hf2
      exact ⟨rfl, cpl_stairs hO m0 m1 hR hV, cm_stairs hO m0 m1 hR hK c1 c2 hc hlt⟩
    refine ⟨fun g => absurd g c1, fun _ => ⟨fun g => absurd g c2, fun _ x4 e4 => ?_⟩⟩
    rw [en] at e4
    subst e4
    refine ⟨fun g q6 e6 f3 hf3 h3 f4 hf4 h4 h5 => hfin q6 e6 f3 hf3 h3 f4 hf4 h4 h5, fun g q9 e9 x10 e10 => ?_⟩
    have e9' := e9
    rw [er] at e9; cases e9
    rw [em] at e10
    refine ⟨fun g1 => ⟨fun g2 => absurd g2 (h12.mp hlt), fun _ f3 hf3 h3 f4 hf4 h4 h5 => hfin _ e9' f3 hf3 h3 f4 hf4 h4 h5⟩, fun g1 => ?_⟩
    rcases hc with hc | ⟨_, hc⟩
    · exact absurd (hle.mpr hc) g
    · rw [e10] at hc; exact absurd hc g1
  -- refusals
  have hbad : ¬ ti f q1 2 = 0 → ¬ (ti f (ad 28) (ti f q1 2 - 1).toNatClampNeg < p_0) → PairG (fun L f => Cpl L f q0 q1 ∧ CM f q1) q0 q1 (fun L f Q => wp_Md_stairs_w L f q1 p_0 Q) (-1) L f := by
    intro h0 h _ _ _
    refine ⟨fun g => absurd g c1, fun _ => ⟨fun g => absurd g c2, fun _ x4 e4 => ?_⟩⟩
    subst e4
    refine ⟨fun g => absurd (hle.mp g) h0, fun g q9 e9 x10 e10 => ?_⟩
    rw [hR.2.2.2.2.2.1] at e9; cases e9
    subst e10
    exact ⟨fun g1 => absurd g1 h, fun _ _ => ⟨rfl, hC, hK⟩⟩
  have hfull : ¬ ti f q1 2 = 0 → (ti f (ad 28) (ti f q1 2 - 1).toNatClampNeg < p_0) → ¬ ti f q1 2 < 12 → PairG (fun L f => Cpl L f q0 q1 ∧ CM f q1) q0 q1 (fun L f Q => wp_Md_stairs_w L f q1 p_0 Q) (-3) L f := by
    intro h0 h hn12 _ _ _
    refine ⟨fun g => absurd g c1, fun _ => ⟨fun g => absurd g c2, fun _ x4 e4 => ?_⟩⟩
    subst e4
    refine ⟨fun g => absurd (hle.mp g) h0, fun g q9 e9 x10 e10 => ?_⟩
    rw [hR.2.2.2.2.2.1] at e9; cases e9
    subst e10
    exact ⟨fun _ => ⟨fun _ _ => ⟨rfl, hC, hK⟩, fun g2 => absurd (h12.mpr g2) hn12⟩, fun g1 => absurd h g1⟩
  intro x1 e1
  rw [hV.2.1] at e1
  subst e1
  refine ⟨fun g0 => ⟨fun _ x6 e6 => ?_, fun g => ?_⟩, fun g0 q3 e3 x4 e4 => ?_⟩
  · rw [hV.2.1] at e6
    subst e6
    have hl : ti f q1 2 < 12 := by rw [g0]; decide
    exact ⟨fun _ => hadd (Or.inl g0) hl, fun g => absurd hl g⟩
  · exact absurd (by
      rw [Int32.lt_iff_toInt_lt] at c1 ⊢
      omega) g
  · rw [hR.2.1] at e3; cases e3
    rw [hV.2.2.1] at e4
    subst e4
    refine ⟨fun g x6 e6 => ?_, fun g => hbad g0 g⟩
    rw [hV.2.1] at e6
    subst e6
    exact ⟨fun gl => hadd (Or.inr ⟨g0, g⟩) gl, fun gl => hfull g0 g gl⟩
end STM
/-- all that is coupled: the river and the clocks, the tape, the orders, the miles -/
def CplB (L : List Nat) (f : TF) (q0 q1 : Nat) : Prop := Cpl L f q0 q1 ∧ CT f q0 q1 ∧ CO f q0 q1 ∧ CM f q1
