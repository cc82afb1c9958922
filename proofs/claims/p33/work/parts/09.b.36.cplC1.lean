section WHY
variable {L : List Nat} {f : TF} {q0 q1 : Nat} {ad : Nat → Nat} {N : Nat}
/-- the bridge of both sides -/
def K5 (f : TF) (q1 : Nat) (ad : Nat → Nat) : Prop := ti f (ad 64) 5 = ti f q1 4 ∧ (ti f q1 4 = -1 ∨ ¬ ti f q1 4 < 0)
def avK5 (W : List (Nat × Nat)) : Bool := [(1, 5), (27, 4)].all (fun q => !(wr W q.1 q.2))
theorem K5.ext {W : List (Nat × Nat)} {L1 : List Nat} {f1 : TF} (h : K5 f q1 ad) (hA : Ad f q0 q1 ad) (hO : Ok L f) (m0 : q0 ∈ L ∧ tk f q0 = 0) (m1 : q1 ∈ L ∧ tk f q1 = 27) (hE : Ext W L f L1 f1) (ha : avK5 W = true) : K5 f1 q1 ad := by
  unfold avK5 at ha
  have s : ∀ k j, (k, j) ∈ [(1, 5), (27, 4)] → wr W k j = false := fun k j hj => by simpa using List.all_eq_true.mp ha (k, j) hj
  unfold K5
  rw [hE.ei (hA.river hO m0) (s 1 5 (by decide)), hE.ei m1 (s 27 4 (by decide))]
  exact h
theorem pr_bridge5 (hO : Ok L f) (m0 : q0 ∈ L ∧ tk f q0 = 0) (m1 : q1 ∈ L ∧ tk f q1 = 27) (hC : Cpl L f q0 q1) (hA : Ad f q0 q1 ad) (hK : K5 f q1 ad) (p_0 : Int32) : wp_WM_bridge_w L f q0 p_0 (PairG (fun L g => Cpl L g q0 q1 ∧ K5 g q1 ad) q0 q1 (fun L f Q => wp_Md_bridge_w L f q1 p_0 Q)) := by
  obtain ⟨ad', hR, hV⟩ := id hC
  have hM := refs_m hO m0 m1 hR
  have e64 : ad 64 = ad' 1 := Option.some.inj (hA.1.1.symm.trans hR.1)
  have hn := hO.i m1 (show slotD 27 2 = some (.inl (0, 12)) from rfl)
  have z0 : (0 : Int32).toInt = 0 := by decide
  have z1 : (1 : Int32).toInt = 1 := by decide
  have z2 : (2 : Int32).toInt = 2 := by decide
  have z12 : (12 : Int32).toInt = 12 := by decide
  have hcmp : (p_0 < ti f q1 2 - 1) ↔ ¬ (ti f q1 2 - 2 < p_0) := by
    obtain ⟨h1, h2⟩ := hn
    generalize ti f q1 2 = n at h1 h2 ⊢
    rw [Int32.lt_iff_toInt_lt] at h1 h2
    rw [Int32.lt_iff_toInt_lt, Int32.lt_iff_toInt_lt, fb_subI (by omega) (by omega), fb_subI (by omega) (by omega)]
    omega
  have hgood : ((p_0 = (-1)) ∨ (¬ p_0 < 0 ∧ ¬ (ti f q1 2 - 2 < p_0))) → PairG (fun L g => Cpl L g q0 q1 ∧ K5 g q1 ad) q0 q1 (fun L f Q => wp_Md_bridge_w L f q1 p_0 Q) 1 L (sI f (ad' 1) 5 p_0) := by
    intro h hO1 m0' m1'
    have hC1 : Cpl L (sI f (ad' 1) 5 p_0) q0 q1 := cpl_one hO m0 m1 (hM 1 (by decide)).2 (by decide +kernel) hC
    have n1 : q1 ≠ ad' 1 := ne_tk m1.2 (hM 1 (by decide)).2 (by decide)
    have e2 : ti (sI f (ad' 1) 5 p_0) q1 2 = ti f q1 2 := ti_sI_ne n1
    have hfin : ∀ f2 : TF, f2 = sI (sI f (ad' 1) 5 p_0) q1 4 p_0 → Cpl L f2 q0 q1 ∧ K5 f2 q1 ad := by
      intro f2 hf2
      subst hf2
      refine ⟨cpl_one hO1 m0' m1' m1'.2 (by decide +kernel) hC1, ?_, ?_⟩
      · rw [e64, ti_sI_ne n1.symm, ti_sI_eq, ti_sI_eq]
      · rw [ti_sI_eq]; exact h.elim Or.inl (fun z => Or.inr z.1)
    refine ⟨fun g f2 hf2 _ _ => ⟨rfl, hfin f2 hf2⟩, fun g x3 e3 => ?_⟩
    rw [e2] at e3
    subst e3
    rcases h with h | ⟨h1, h2⟩
    · exact absurd h g
    · exact ⟨fun g1 => absurd g1 h1, fun _ => ⟨fun g2 => absurd g2 h2, fun _ f2 hf2 _ _ => ⟨rfl, hfin f2 hf2⟩⟩⟩
  have hbad : ¬ (p_0 = (-1)) → (p_0 < 0 ∨ ti f q1 2 - 2 < p_0) → PairG (fun L g => Cpl L g q0 q1 ∧ K5 g q1 ad) q0 q1 (fun L f Q => wp_Md_bridge_w L f q1 p_0 Q) (-1) L f := by
    intro h0 h _ _ _
    refine ⟨fun g => absurd g h0, fun g x3 e3 => ?_⟩
    subst e3
    refine ⟨fun _ _ => ⟨rfl, hC, hK⟩, fun g1 => ⟨fun _ _ => ⟨rfl, hC, hK⟩, fun g2 => ?_⟩⟩
    rcases h with h | h
    · exact absurd h g1
    · exact absurd h g2
  unfold wp_WM_bridge_w
  refine ⟨fun c1 q2 e2 f1 hf1 _ => ?_, fun c1 => ⟨fun c2 => hbad c1 (Or.inl c2), fun c2 q5 e5 x6 e6 => ?_⟩⟩
  · rw [hR.1] at e2; cases e2
    subst hf1
    exact hgood (Or.inl c1)
  · rw [hR.1] at e5; cases e5
    rw [hV.2.1] at e6
    subst e6
    refine ⟨fun c3 f1 hf1 _ => ?_, fun c3 => hbad c1 (Or.inr ?_)⟩
    · subst hf1
      exact hgood (Or.inr ⟨c2, hcmp.mp c3⟩)
    · exact Classical.not_not.mp (fun h => c3 (hcmp.mpr h))
theorem mayGo_x {ad' bt : Nat → Nat} {nT b s : Nat} {T to : Int32} {Q : Int32 → Prop} (hO : Ok L f) (m1 : q1 ∈ L ∧ tk f q1 = 27) (hR : Refs f q0 q1 ad') (hV : Vals f q0 q1 ad') (hBR : BR f ad T N nT b (bt b)) (has : ti f (ad 23) b = nI s) (h1 : ti f (ad 26) b = 0 → St f q1 to → ¬ to = nI s → Q 1) (h0 : (¬ ti f (ad 26) b = 0 ∨ ¬ St f q1 to ∨ to = nI s) → Q 0) : wp_WM_mayGoTo_w L f q0 (bt b) to Q := by
  obtain ⟨a1, a2, a3, a4, -⟩ := hBR
  intro x1 e1
  rw [a4] at e1
  subst e1
  refine ⟨fun g q3 e3 => ?_, fun g => h0 (Or.inl g)⟩
  rw [hR.1] at e3; cases e3
  refine isSt_x hO m1 hV (fun k => ⟨fun _ => h0 (Or.inr (Or.inl k)), fun z => absurd z (by decide)⟩) (fun k => ⟨fun z => absurd z (by decide), fun _ x7 e7 => ?_⟩)
  rw [a2, has] at e7
  subst e7
  exact ⟨fun z => h0 (Or.inr (Or.inr z)), fun z => h1 g k z⟩
theorem asked_m {bt tp : Nat → Nat} {nB nT : Nat} {p0 p1 p2 : Int32} {Q : Int32 → Prop} (hA : Ad f q0 q1 ad) (hB : BT f q0 q1 ad bt tp nB nT) (h0 : ((p0 < 0 ∨ nI nB - 1 < p0) ∨ ¬ isM p1 ∨ ∃ b, b < nB ∧ p0 = nI b ∧ (¬ ti f (ad 26) b = 0 ∨ ¬ St f q1 p2 ∨ p2 = ti f (ad 23) b)) → Q 0) (h1 : ∀ b, b < nB → p0 = nI b → isM p1 → ti f (ad 26) b = 0 → St f q1 p2 → ¬ p2 = ti f (ad 23) b → Q 1) : wp_Md_isAsked_w L f q1 p0 p1 p2 Q := by
  have r := hA.2.2.2
  have h20 := hB.1.1
  refine isB_m hB (fun h => ⟨fun _ => h0 (Or.inl h), fun z => absurd z (by decide)⟩) (fun b hb hp => ⟨fun z => absurd z (by decide), fun _ q4 e4 x5 e5 => ?_⟩)
  subst hp
  rw [r 26 (by decide)] at e4; cases e4
  rw [nI_clamp (by omega)] at e5
  subst e5
  refine ⟨fun g => mck (fun k => h0 (Or.inr (Or.inl k))) (fun k => isSt_m (fun k2 => ⟨fun _ => h0 (Or.inr (Or.inr ⟨b, hb, rfl, Or.inr (Or.inl k2)⟩)), fun z => absurd z (by decide)⟩) (fun k2 => ⟨fun z => absurd z (by decide), fun _ q14 e14 x15 e15 => ?_⟩)), fun g => h0 (Or.inr (Or.inr ⟨b, hb, rfl, Or.inl g⟩))⟩
  rw [r 23 (by decide)] at e14; cases e14
  rw [nI_clamp (by omega)] at e15
  subst e15
  exact ⟨fun z => h0 (Or.inr (Or.inr ⟨b, hb, rfl, Or.inr (Or.inr z)⟩)), fun z => h1 b hb rfl k g k2 z⟩
theorem pr_why (hO : Ok L f) (m0 : q0 ∈ L ∧ tk f q0 = 0) (m1 : q1 ∈ L ∧ tk f q1 = 27) (hC : Cpl L f q0 q1) (hD : CO f q0 q1) (hM : CM f q1) (hA : Ad f q0 q1 ad) {D : Int} (hK1 : K1 f ad D) {j : Nat} (hK2 : K2 f q0 ad (ti f q1 2).toNatClampNeg j) (hK3 : K3 f q0 q1 ad (ti f q1 1) (ti f q1 2).toNatClampNeg) (hK5 : K5 f q1 ad) (p_0 p_1 p_2 : Int32) : wp_WM_why_w L f q0 p_0 p_1 p_2 (fun r => wp_Md_why_w L f q1 p_0 p_1 p_2 (fun r' => r = r')) := by
  obtain ⟨ad', hR, hV⟩ := id hC
  obtain ⟨n, qx, cO, cF, cH, cS, am, oo, hOo⟩ := hD.full
  obtain ⟨hN, hN2⟩ := nst hO m1
  obtain ⟨tn, htn, hTn⟩ := tb_n hO m1
  have ht : ti f q0 10 = ti f q1 1 := hV.1
  generalize (ti f q1 2).toNatClampNeg = N at *
  obtain ⟨ql, J, -, -, hTX, hTM, -, -⟩ := hK2
  obtain ⟨bt, tp, nB, nT, hB, h1, h2, h3⟩ := hK3
  have h20 := hB.1.1
  have e64 : ad 64 = ad' 1 := Option.some.inj (hA.1.1.symm.trans hR.1)
  have hbad : ((p_0 < 0 ∨ nI nB - 1 < p_0) ∨ ¬ isM p_1 ∨ ∃ b, b < nB ∧ p_0 = nI b ∧ (¬ ti f (ad 26) b = 0 ∨ ¬ St f q1 p_2 ∨ p_2 = ti f (ad 23) b)) → wp_Md_why_w L f q1 p_0 p_1 p_2 (fun r' => -1 = r') := by
    intro h
    refine asked_m hA hB (fun _ => ⟨fun _ => rfl, fun z => absurd z (by decide)⟩) (fun b hb hp k1 k2 k3 k4 => ?_)
    rcases h with h | h | ⟨b', hb', hp', h⟩
    · exact absurd (hp ▸ h) (nb_no hb (by omega))
    · exact absurd k1 h
    · have : b = b' := by
        rw [hp, nI_eq (by omega) (by omega)] at hp'
        exact hp'
      subst this
      rcases h with h | h | h
      · exact absurd k2 h
      · exact absurd k3 h
      · exact absurd h k4
  refine boatAt_x hA hB (fun h => ⟨fun _ => manAt_x hA (fun _ => ⟨fun _ => hbad (Or.inl h), fun _ _ => hbad (Or.inl h)⟩) (fun _ _ _ => ⟨fun _ => hbad (Or.inl h), fun _ _ => hbad (Or.inl h)⟩), fun q z => (by cases z)⟩) (fun b hb hp => ⟨fun z => (by cases z), fun q eq => manAt_x hA (fun h => ⟨fun _ => hbad (Or.inr (Or.inl h)), fun q z => (by cases z)⟩) (fun m hm hp' => ⟨fun z => (by cases z), fun q' eq' => ?_⟩)⟩)
  cases eq
  cases eq'
  subst hp hp'
  have hBR := h1 b hb
  obtain ⟨s, hsN, has⟩ := hBR.2.2.2.2.1
  refine mayGo_x (bt := bt) hO m1 hR hV hBR has (fun k1 k2 k3 => ⟨fun z => absurd z (by decide), fun _ => ?_⟩) (fun h => ⟨fun _ => hbad (Or.inr (Or.inr ⟨b, hb, rfl, by rw [has]; exact h⟩)), fun z => absurd z (by decide)⟩)
  refine hind_x hO m0 m1 hR hV hM hOo hA hK1 hTX hTM hB hBR (h2 m hm) rfl htn hTn hN hN2 hb hm hsN has k2 k3 k1 (fun v hv => ?_) ht (by rw [← e64]; exact hK5.1) hK5.2
  refine asked_m hA hB (fun h => ?_) (fun b' hb' hp _ _ _ _ => ⟨fun z => absurd z (by decide), fun _ => ?_⟩)
  · rcases h with h | h | ⟨b', hb', hp', h⟩
    · exact absurd h (nb_no hb (by omega))
    · exact absurd (isM_nI hm) h
    · have : b = b' := by
        rw [nI_eq (by omega) (by omega)] at hp'
        exact hp'
      subst this
      rw [has] at h
      rcases h with h | h | h
      · exact absurd k1 h
      · exact absurd k2 h
      · exact absurd h k3
  · exact hinders_r hR hOo.1.1 hOo.1.2.2.1 hOo.1.2.2.2.2.1 (fun i hi => ⟨(hOo.2 i hi).1, (hOo.2 i hi).2.2⟩) hA hTM (fun s hs x hx => (hTX.1 s hs x hx).1) rfl (by omega) hm (by omega) has (fun w hw => hv.uni hw)
end WHY
