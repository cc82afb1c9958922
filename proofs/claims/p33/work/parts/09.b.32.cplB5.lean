section MIN
variable {L : List Nat} {f : TF} {q0 q1 : Nat} {ad : Nat → Nat} {N : Nat}
theorem xm3_loop {x p y r : Int32} {Q : Int32 → List Nat → TF → Prop} (hx : ∀ (L1 : List Nat) (f1 : TF), Ok L1 f1 → Ext WL_WM_minutes_w_44_9 L f L1 f1 → ∀ f2 : TF, f2 = sI f1 q0 10 (x + p) → Ok L1 f2 → Q (x + p) L1 f2) : ∀ (n : Nat) (v : Int32) (L1 : List Nat) (f1 : TF), wpL_WM_minutes_w_44_9 L f q0 p x y r Q n v L1 f1 := by
  intro n
  induction n with
  | zero =>
    intro v L1 f1 h1 h2
    exact ⟨fun _ => hx L1 f1 h1 h2, fun _ _ _ _ _ _ _ _ _ _ _ => trivial⟩
  | succ n ih =>
    intro v L1 f1 h1 h2
    exact ⟨fun _ => hx L1 f1 h1 h2, fun _ _ _ _ _ _ _ L3 f3 _ _ => ih (v + 1) L3 f3⟩
def Mid3 (ad : Nat → Nat) (N : Nat) (cN cT : Int32) (q0 q1 : Nat) (L : List Nat) (f : TF) : Prop := Mid cN cT q0 q1 L f ∧ Ad f q0 q1 ad ∧ K3 f q0 q1 ad cT N
theorem Mid3.ext {cN cT : Int32} {W : List (Nat × Nat)} {L1 : List Nat} {f1 : TF} (h : Mid3 ad N cN cT q0 q1 L f) (hO : Ok L f) (hE : Ext W L f L1 f1) (ha : (avL W && (avAd W && avK3 W)) = true) : Mid3 ad N cN cT q0 q1 L1 f1 := by
  rw [Bool.and_eq_true, Bool.and_eq_true] at ha
  exact ⟨h.1.ext hO hE ha.1, h.2.1.ext hO h.1.1 h.1.2.1 hE ha.2.1, h.2.2.ext h.2.1 hO h.1.1 h.1.2.1 hE ha.2.2⟩
theorem mm3_loop {p t c : Int32} {Q : Int32 → List Nat → TF → Prop} (hp : ¬ 1440 < p) (ht0 : ¬ t < 0) (ht : ¬ 359999 < t) (hx : ∀ (L1 : List Nat) (f1 : TF), Ok L1 f1 → Mid3 ad N c (t + p) q0 q1 L1 f1 → Q (t + p) L1 f1) : ∀ (n : Nat) (v : Int32) (L1 : List Nat) (f1 : TF), ¬ v < 0 → ¬ p < v → Mid3 ad N c (t + v) q0 q1 L1 f1 → wpL_Md_minutes_w_27_6 L f q1 p Q n v L1 f1 := by
  have z0 : (0 : Int32).toInt = 0 := by decide
  have z1 : (1 : Int32).toInt = 1 := by decide
  have z2 : (1440 : Int32).toInt = 1440 := by decide
  have z3 : (359999 : Int32).toInt = 359999 := by decide
  have hstep : ∀ (rec_6 : Int32 → List Nat → TF → Prop) (v : Int32) (L1 : List Nat) (f1 : TF), ¬ v < 0 → ¬ p < v → Mid3 ad N c (t + v) q0 q1 L1 f1 → (∀ (L5 : List Nat) (f5 : TF), ¬ (v + 1) < 0 → ¬ p < (v + 1) → Mid3 ad N c (t + (v + 1)) q0 q1 L5 f5 → rec_6 (v + 1) L5 f5) → wpB_Md_minutes_w_27_6 L f q1 p Q rec_6 v L1 f1 := by
    intro rec_6 v L1 f1 hv0 hvp hm hrec hO1 hE1
    refine ⟨fun g => ?_, fun g f2 hf2 hO2 => ?_⟩
    · have e : v = p := by
        rw [Int32.le_iff_toInt_le] at g
        rw [Int32.lt_iff_toInt_lt] at hvp
        rw [← Int32.toInt_inj]
        omega
      subst e
      rw [hm.1.2.2.2.2]
      exact hx L1 f1 hO1 hm
    · have b1 : ¬ (v + 1) < 0 := by
        rw [Int32.le_iff_toInt_le] at g
        rw [Int32.lt_iff_toInt_lt] at hv0 hp ⊢
        rw [fb_addI (by omega) (by omega)]
        omega
      have b2 : ¬ p < (v + 1) := by
        rw [Int32.le_iff_toInt_le] at g
        rw [Int32.lt_iff_toInt_lt] at hv0 hp ⊢
        rw [fb_addI (by omega) (by omega)]
        omega
      have bl : t + v ≤ t + (v + 1) := by
        rw [Int32.le_iff_toInt_le] at g
        rw [Int32.lt_iff_toInt_lt] at hv0 hp ht0 ht
        have e1 : (v + 1).toInt = v.toInt + 1 := by rw [fb_addI (by omega) (by omega)]; omega
        rw [Int32.le_iff_toInt_le, fb_addI (by omega) (by omega), fb_addI (by omega) (by omega)]
        omega
      rw [hm.1.2.2.2.2, Int32.add_assoc] at hf2
      have i1 := hm.1.2.1
      have hE2 : Ext [(27, 1)] L1 f1 L1 f2 := by rw [hf2]; exact ext_sI i1.2
      have hm2 : Mid c (t + (v + 1)) q0 q1 L1 f2 := by
        rw [hf2]
        exact hm.1.tick hO1
      have hA2 : Ad f2 q0 q1 ad := hm.2.1.ext hO1 hm.1.1 i1 hE2 (by decide +kernel)
      have hK2 : K3 f2 q0 q1 ad (t + v) N := hm.2.2.ext hm.2.1 hO1 hm.1.1 i1 hE2 (by decide +kernel)
      refine arrive_m hA2 hO2 hm2.1 hm2.2.1 hK2 hm2.2.2.2.2 bl (fun f3 hK3 => ?_)
      intro hO3 hE3
      have hm3 : Mid3 ad N c (t + (v + 1)) q0 q1 L1 f3 := ⟨hm2.ext hO2 hE3 (by decide +kernel), hA2.ext hO2 hm2.1 hm2.2.1 hE3 (by decide +kernel), hK3⟩
      have hgo : ∀ (L5 : List Nat) (f5 : TF), Mid3 ad N c (t + (v + 1)) q0 q1 L5 f5 → rec_6 (v + 1) L5 f5 := fun L5 f5 h => hrec L5 f5 b1 b2 h
      intro y11 e11
      refine ⟨fun _ => ?_, fun _ => hgo _ _ hm3⟩
      intro y13 e13 y18 e18
      refine ⟨fun _ => ?_, fun _ => ?_⟩
      · intro y33 e33 L4 f4 hO4 hE4
        have hm4 := hm3.ext hO3 hE4 (by decide +kernel)
        intro y39 e39 y44 e44
        refine ⟨fun _ => ?_, fun _ => hgo _ _ hm4⟩
        intro y46 e46 L5 f5 hO5 hE5
        exact hgo _ _ (hm4.ext hO4 hE5 (by decide +kernel))
      · intro y20 e20 y25 e25
        refine ⟨fun _ => ?_, fun _ => hgo _ _ hm3⟩
        intro y27 e27 L4 f4 hO4 hE4
        exact hgo _ _ (hm3.ext hO3 hE4 (by decide +kernel))
  intro n
  induction n with
  | zero =>
    intro v L1 f1 h1 h2 h3
    exact hstep (fun _ _ _ => True) v L1 f1 h1 h2 h3 (fun _ _ _ _ _ => trivial)
  | succ n ih =>
    intro v L1 f1 h1 h2 h3
    exact hstep _ v L1 f1 h1 h2 h3 (fun L5 f5 a b d => ih (v + 1) L5 f5 a b d)
theorem pr_minutes3 (hO : Ok L f) (m0 : q0 ∈ L ∧ tk f q0 = 0) (m1 : q1 ∈ L ∧ tk f q1 = 27) (hC : Cpl L f q0 q1) (hA : Ad f q0 q1 ad) (hK : K3 f q0 q1 ad (ti f q1 1) N) (p_0 : Int32) : wp_WM_minutes_w L f q0 p_0 (PairG (fun L g => Cpl L g q0 q1 ∧ K3 g q0 q1 ad (ti g q1 1) N ∧ ti f q1 1 ≤ ti g q1 1) q0 q1 (fun L f Q => wp_Md_minutes_w L f q1 p_0 Q)) := by
  have ht := hC.time
  have hb := hO.i m1 (show slotD 27 1 = some (.inl (0, 359999)) from rfl)
  have z0 : (0 : Int32).toInt = 0 := by decide
  have z1 : (1 : Int32).toInt = 1 := by decide
  have z2 : (1440 : Int32).toInt = 1440 := by decide
  have z3 : (359999 : Int32).toInt = 359999 := by decide
  have hrf : ti f q1 1 ≤ ti f q1 1 := by rw [Int32.le_iff_toInt_le]; omega
  have hbad : (p_0 < 1 ∨ 1440 < p_0 ∨ ¬ (ti f q1 1 + p_0 ≤ 359999)) → PairG (fun L g => Cpl L g q0 q1 ∧ K3 g q0 q1 ad (ti g q1 1) N ∧ ti f q1 1 ≤ ti g q1 1) q0 q1 (fun L f Q => wp_Md_minutes_w L f q1 p_0 Q) (-1) L f := by
    intro h _ _ _
    refine ⟨fun _ _ => ⟨rfl, hC, hK, hrf⟩, fun g1 => ⟨fun _ _ => ⟨rfl, hC, hK, hrf⟩, fun g2 => ⟨fun g3 => ?_, fun _ _ => ⟨rfl, hC, hK, hrf⟩⟩⟩⟩
    rcases h with h | h | h
    · exact absurd h g1
    · exact absurd h g2
    · exact absurd g3 h
  unfold wp_WM_minutes_w
  refine ⟨fun c1 => hbad (Or.inl c1), fun c1 => ⟨fun c2 => hbad (Or.inr (Or.inl c2)), fun c2 x3 e3 => ?_⟩⟩
  rw [ht] at e3
  have hcmp : p_0 ≤ 359999 - x3 ↔ ti f q1 1 + p_0 ≤ 359999 := by
    rw [e3] at hb ⊢
    obtain ⟨h1, h2⟩ := hb
    rw [Int32.lt_iff_toInt_lt] at h1 h2 c1 c2
    rw [Int32.le_iff_toInt_le, Int32.le_iff_toInt_le, fb_subI (by omega) (by omega), fb_addI (by omega) (by omega)]
    omega
  refine ⟨fun c3 y5 e5 => ?_, fun c3 => hbad (Or.inr (Or.inr (fun h => c3 (hcmp.mpr h))))⟩
  have c3' := hcmp.mp c3
  subst e3
  intro x1 e1 y2 e2
  refine xm3_loop (fun L1 f1 hO1 hE1 f2 hf2 hO2 => ?_) _ _ _ _
  have n0 := hE1.m m0
  have n1 := hE1.m m1
  have hC1 := hC.ext hO m0 m1 hE1 (by decide +kernel)
  have hA1 := hA.ext hO m0 m1 hE1 (by decide +kernel)
  have hK1 := hK.ext hA hO m0 m1 hE1 (by decide +kernel)
  have et : ti f1 q1 1 = ti f q1 1 := hE1.ei m1 (by decide +kernel)
  have hE2 : Ext [(0, 10)] L1 f1 L1 f2 := by rw [hf2]; exact ext_sI n0.2
  have hR2 : CplR f2 q0 q1 := hC1.rest.ext hO1 n0 n1 hE2 (by decide +kernel)
  have hA2 := hA1.ext hO1 n0 n1 hE2 (by decide +kernel)
  have hK2 := hK1.ext hA1 hO1 n0 n1 hE2 (by decide +kernel)
  have e0 : ti f2 q0 10 = ti f q1 1 + p_0 := by rw [hf2]; exact ti_sI_eq
  have e1' : ti f2 q1 1 = ti f q1 1 := by rw [hf2, ti_sI_ne (ne_tk n1.2 n0.2 (by decide))]; exact et
  have hmn : ti f q1 1 ≤ ti f q1 1 + p_0 := by
    obtain ⟨h1, h2⟩ := hb
    rw [Int32.lt_iff_toInt_lt] at h1 h2 c1 c2
    rw [Int32.le_iff_toInt_le, fb_addI (by omega) (by omega)]
    omega
  intro hO2' m0' m1'
  refine ⟨fun g => absurd g c1, fun _ => ⟨fun g => absurd g c2, fun _ => ⟨fun _ => ?_, fun g => ?_⟩⟩⟩
  · have hk0 : K3 f2 q0 q1 ad (ti f q1 1 + 0) N := by rw [Int32.add_zero]; exact hK2
    have ht0 : ti f2 q1 1 = ti f q1 1 + 0 := by rw [Int32.add_zero]; exact e1'
    have hp0 : ¬ p_0 < 0 := by
      rw [Int32.lt_iff_toInt_lt] at c1 ⊢
      omega
    refine mm3_loop (t := ti f q1 1) (c := ti f q1 1 + p_0) (q0 := q0) (ad := ad) (N := N) c2 hb.1 hb.2 (fun L3 f3 hO3 hm3 _ => ?_) _ 0 _ _ (by decide) hp0 ⟨⟨m0', m1', hR2, e0, ht0⟩, hA2, hk0⟩
    refine ⟨rfl, hm3.1.2.2.1.full (hm3.1.2.2.2.1.trans hm3.1.2.2.2.2.symm), ?_, ?_⟩
    · rw [hm3.1.2.2.2.2]; exact hm3.2.2
    · rw [hm3.1.2.2.2.2]; exact hmn
  · rw [e1'] at g; exact absurd c3' g
end MIN
