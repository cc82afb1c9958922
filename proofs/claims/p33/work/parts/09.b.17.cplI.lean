section FARP
variable {L : List Nat} {f : TF} {q0 q1 : Nat}
/-- the miles of the stairs lie in 0 .. 60 and rise -/
def CM (f : TF) (q1 : Nat) : Prop := ∃ a, tr f q1 3 = some a ∧ (∀ i, i < (ti f q1 2).toNatClampNeg → ¬ ti f a i < 0 ∧ ¬ 60 < ti f a i) ∧ ∀ i j, i < j → j < (ti f q1 2).toNatClampNeg → ti f a i < ti f a j
def avM (W : List (Nat × Nat)) : Bool := [28].all (fun k => W.all (fun p => p.1 != k)) && [(27, 2), (27, 3)].all (fun q => !(wr W q.1 q.2))
theorem avM_k {W : List (Nat × Nat)} (h : avM W = true) (k : Nat) (hk : k ∈ [28]) (j : Nat) : wr W k j = false := by
  unfold avM at h
  rw [Bool.and_eq_true] at h
  exact wr_k (List.all_eq_true.mp h.1 k hk) j
theorem avM_s {W : List (Nat × Nat)} (h : avM W = true) (k j : Nat) (hk : (k, j) ∈ [(27, 2), (27, 3)]) : wr W k j = false := by
  unfold avM at h
  rw [Bool.and_eq_true] at h
  have := List.all_eq_true.mp h.2 (k, j) hk
  simpa using this
theorem CM.ext {W : List (Nat × Nat)} {L1 : List Nat} {f1 : TF} (h : CM f q1) (hO : Ok L f) (_ : q0 ∈ L ∧ tk f q0 = 0) (m1 : q1 ∈ L ∧ tk f q1 = 27) (hE : Ext W L f L1 f1) (ha : avM W = true) : CM f1 q1 := by
  obtain ⟨a, h1, h2, h3⟩ := h
  have ia := hO.rm (j := 3) (k' := 28) (n := false) m1 rfl h1
  have e2 := hE.ei m1 (avM_s ha 27 2 (by decide))
  have ea : ∀ j, ti f1 a j = ti f a j := fun j => hE.ei ia (avM_k ha 28 (by decide) j)
  refine ⟨a, (hE.er m1 (avM_s ha 27 3 (by decide))).trans h1, fun i hi => ?_, fun i j hij hj => ?_⟩
  · rw [e2] at hi; rw [ea]; exact h2 i hi
  · rw [e2] at hj; rw [ea, ea]; exact h3 i j hij hj
/-- a stairs that is there -/
def St (f : TF) (q1 : Nat) (p : Int32) : Prop := ¬ p < 0 ∧ ¬ ti f q1 2 - 1 < p
theorem nSt (hO : Ok L f) (m1 : q1 ∈ L ∧ tk f q1 = 27) (p : Int32) : ti f q1 2 ≤ p ↔ ti f q1 2 - 1 < p := by
  obtain ⟨h1, h2⟩ := hO.i m1 (show slotD 27 2 = some (.inl (0, 12)) from rfl)
  generalize ti f q1 2 = n at h1 h2 ⊢
  have z0 : (0 : Int32).toInt = 0 := by decide
  have z1 : (1 : Int32).toInt = 1 := by decide
  have z12 : (12 : Int32).toInt = 12 := by decide
  rw [Int32.lt_iff_toInt_lt] at h1 h2
  rw [Int32.le_iff_toInt_le, Int32.lt_iff_toInt_lt, fb_subI (by omega) (by omega)]
  omega
theorem St.nat (hO : Ok L f) (m1 : q1 ∈ L ∧ tk f q1 = 27) {p : Int32} (h : St f q1 p) : p.toNatClampNeg < (ti f q1 2).toNatClampNeg := by
  obtain ⟨h1, h2⟩ := hO.i m1 (show slotD 27 2 = some (.inl (0, 12)) from rfl)
  have h3 := h.2
  rw [← nSt hO m1 p, Int32.le_iff_toInt_le] at h3
  have a := i32_nat h.1
  have b := i32_nat h1
  omega
theorem isSt_m {p : Int32} {Q : Int32 → Prop} (h0 : ¬ St f q1 p → Q 0) (h1 : St f q1 p → Q 1) : wp_Md_isStairs_w L f q1 p Q := ⟨fun g => h0 (fun z => z.1 g), fun g => ⟨fun g2 => h0 (fun z => z.2 g2), fun g2 => h1 ⟨g, g2⟩⟩⟩
theorem isSt_x {ad : Nat → Nat} {p : Int32} {Q : Int32 → Prop} (hO : Ok L f) (m1 : q1 ∈ L ∧ tk f q1 = 27) (hV : Vals f q0 q1 ad) (h0 : ¬ St f q1 p → Q 0) (h1 : St f q1 p → Q 1) : wp_Rv_hasStairs_w L f (ad 1) p Q := by
  refine ⟨fun g => h0 (fun z => z.1 g), fun g x2 e2 => ?_⟩
  rw [hV.2.1] at e2
  subst e2
  exact ⟨fun g2 => h0 (fun z => z.2 ((nSt hO m1 p).mp g2)), fun g2 => h1 ⟨g, fun z => g2 ((nSt hO m1 p).mpr z)⟩⟩
theorem mup_sgn {ad : Nat → Nat} {a b : Int32} (hO : Ok L f) (m1 : q1 ∈ L ∧ tk f q1 = 27) (hR : Refs f q0 q1 ad) (hC : CM f q1) (ha : St f q1 a) (hb : St f q1 b) (hab : ¬ a = b) : (mup f ad a b ≤ 0 ↔ b ≤ a) ∧ (if 0 ≤ mup f ad a b then mup f ad a b else 0 - mup f ad a b) = mdi f ad a b := by
  obtain ⟨c, h1, h2, h3⟩ := hC
  rw [hR.2.2.2.2.2.1] at h1; cases h1
  have na := ha.nat hO m1
  have nb := hb.nat hO m1
  have ia := i32_nat ha.1
  have ib := i32_nat hb.1
  have hne : a.toNatClampNeg ≠ b.toNatClampNeg := i32_ne_nat ha.1 hb.1 hab
  have z0 : (0 : Int32).toInt = 0 := by decide
  have z60 : (60 : Int32).toInt = 60 := by decide
  obtain ⟨u1, u2⟩ := h2 _ na
  obtain ⟨w1, w2⟩ := h2 _ nb
  have hlt : a.toNatClampNeg < b.toNatClampNeg → ti f (ad 28) a.toNatClampNeg < ti f (ad 28) b.toNatClampNeg := fun h => h3 _ _ h nb
  have hgt : b.toNatClampNeg < a.toNatClampNeg → ti f (ad 28) b.toNatClampNeg < ti f (ad 28) a.toNatClampNeg := fun h => h3 _ _ h na
  unfold mdi mup
  rw [Int32.lt_iff_toInt_lt] at u1 u2 w1 w2 hlt hgt
  have ed : (ti f (ad 28) b.toNatClampNeg - ti f (ad 28) a.toNatClampNeg).toInt = (ti f (ad 28) b.toNatClampNeg).toInt - (ti f (ad 28) a.toNatClampNeg).toInt := fb_subI (by omega) (by omega)
  refine ⟨?_, ?_⟩
  · rw [Int32.le_iff_toInt_le, Int32.le_iff_toInt_le, ed]
    omega
  · generalize ti f (ad 28) b.toNatClampNeg - ti f (ad 28) a.toNatClampNeg = m at ed ⊢
    have hm0 : ¬ m.toInt = 0 := by omega
    by_cases h : 0 ≤ m
    · rw [if_pos h, if_neg (by rw [Int32.le_iff_toInt_le] at h ⊢; omega)]
    · rw [if_neg h, if_pos (by rw [Int32.le_iff_toInt_le] at h ⊢; omega), Int32.zero_sub]
theorem hr12 {p : Int32} (h1 : ¬ p < 0) (h2 : ¬ 5999 < p) : (¬ p / 12 < 0 ∧ ¬ 499 < p / 12) ∧ ¬ p - p / 12 * 12 < 0 ∧ ¬ 11 < p - p / 12 * 12 := by
  obtain ⟨n, hn, rfl⟩ := nI_of2 (M := 5999) (n := 5999) (by decide) h1 (by rw [Int32.lt_iff_toInt_lt] at h2; rw [Int32.le_iff_toInt_le]; omega)
  rw [show (12 : Int32) = nI 12 from rfl, pk_rem (by omega) (by decide) (by decide), pk_div (by omega) (by decide) (by decide), show (499 : Int32) = nI 499 from rfl, show (11 : Int32) = nI 11 from rfl, nI_ltI (by decide) (by omega), nI_ltI (by decide) (by omega)]
  exact ⟨⟨nI_pos (by omega), by omega⟩, nI_pos (by omega), by omega⟩
theorem priceOf_x {ad : Nat → Nat} {qO qF qH qS : Nat} {o : OS} {a b p oars : Int32} {Q : Int32 → Prop} (hO : Ok L f) (m1 : q1 ∈ L ∧ tk f q1 = 27) (hR : Refs f q0 q1 ad) (hV : Vals f q0 q1 ad) (hC : CM f q1) (ha : St f q1 a) (hb : St f q1 b) (hab : ¬ a = b) (hp : ¬ p < 0) (hp2 : ¬ 5999 < p) (hX : OrdX f qO qF qH qS o) (hw : WfO o) (hq : Q (FR o (mdi f ad a b) (flv f ad (p / 12) (p - p / 12 * 12)) (decide (¬ mup f ad a b ≤ 0)) (p / 12) (p - p / 12 * 12) oars)) : wp_WM_priceOf_w L f q0 qO a b p oars Q := by
  obtain ⟨s1, s2⟩ := mup_sgn hO m1 hR hC ha hb hab
  obtain ⟨⟨t1, t2⟩, t3, t4⟩ := hr12 hp hp2
  intro y1 e1 y2 e2 q3 e3
  subst e1 e2
  rw [hR.1] at e3; cases e3
  generalize p - p / 12 * 12 = hour at *
  generalize p / 12 = day at *
  have hp : wp_Rv_distance_w L f (ad 1) a b (fun r_5 => wp_Or_price_w L f qO r_5 (drv (flv f ad day hour) (decide (¬ mup f ad a b ≤ 0))) day hour oars (fun r_6 => Q r_6)) := by
    intro q1' e1 x2 e2 x3 e3 y4 e4
    rw [hR.2.1] at e1; cases e1
    rw [hV.2.2.1] at e2 e3
    subst e2 e3 e4
    have := price_x (L := L) hX hw hq
    rw [← s2] at this
    exact this
  refine flow_x hR hV day hour t1 t2 t3 t4 ?_
  generalize flv f ad day hour = fl at *
  have s3 : b ≤ a → decide (¬ mup f ad a b ≤ 0) = false := fun h => decide_eq_false (fun z => z (s1.mpr h))
  have s4 : ¬ b ≤ a → decide (¬ mup f ad a b ≤ 0) = true := fun h => decide_eq_true (fun z => h (s1.mp z))
  generalize decide (¬ mup f ad a b ≤ 0) = up at *
  unfold drv at hp
  refine ⟨fun g => ?_, fun g => ⟨fun g1 => ⟨fun g2 => ?_, fun g2 => ?_⟩, fun g1 => ⟨fun g2 => ?_, fun g2 => ?_⟩⟩⟩
  · rw [if_pos g] at hp; exact hp
  · rw [if_neg g, if_pos g1, s3 g2] at hp; exact hp
  · rw [if_neg g, if_pos g1, s4 g2] at hp; exact hp
  · rw [if_neg g, if_neg g1, s3 g2] at hp; exact hp
  · rw [if_neg g, if_neg g1, s4 g2] at hp; exact hp
theorem orderAt_g {n qx : Nat} {cO am : Nat → Nat} {p : Int32} {Q : Option Nat → Prop} (h : CO' f q0 q1 n qx cO am) (hn : (p < 0 ∨ nI n - 1 < p) → Q none) (hs : ∀ i, i < n → p = nI i → Q (some (cO i))) : wp_WM_orderAt_w L f q0 p Q := by
  by_cases g : p < 0
  · exact ⟨fun _ => hn (Or.inl g), fun z => absurd g z⟩
  have h1 := h.1
  by_cases g2 : nI n ≤ p
  · have hg : nI n - 1 < p := by
      have z1 : (1 : Int32).toInt = 1 := by decide
      have := nI_toInt (n := n) (by omega)
      rw [Int32.le_iff_toInt_le] at g2
      rw [Int32.lt_iff_toInt_lt, fb_subI (by omega) (by omega)]
      omega
    refine ⟨fun z => absurd z g, fun _ x2 e2 => ?_⟩
    rw [h.2.1] at e2
    subst e2
    exact ⟨fun _ => hn (Or.inr hg), fun z => absurd g2 z⟩
  · have hle : p ≤ nI n := by
      rw [Int32.le_iff_toInt_le] at g2 ⊢
      omega
    obtain ⟨i, hi, rfl⟩ := nI_of2 (M := nI n) (n := n) (nI_toInt (by omega)) g hle
    rw [nI_leI (by omega) (by omega)] at g2
    exact orderAt_x h (by omega) (hs i (by omega) rfl)
theorem oars12 {p : Int32} : (p = 1 ∨ p = 2) ↔ ¬ p < 1 ∧ ¬ 2 < p := by
  rw [Int32.lt_iff_toInt_lt, Int32.lt_iff_toInt_lt, ← Int32.toInt_inj, ← Int32.toInt_inj]
  have z1 : (1 : Int32).toInt = 1 := by decide
  have z2 : (2 : Int32).toInt = 2 := by decide
  omega
theorem h6000 {p : Int32} : 6000 ≤ p ↔ 5999 < p := by
  rw [Int32.le_iff_toInt_le, Int32.lt_iff_toInt_lt]
  have z1 : (6000 : Int32).toInt = 6000 := by decide
  have z2 : (5999 : Int32).toInt = 5999 := by decide
  omega
theorem pr_fare (hO : Ok L f) (m0 : q0 ∈ L ∧ tk f q0 = 0) (m1 : q1 ∈ L ∧ tk f q1 = 27) (hC : Cpl L f q0 q1) (hD : CO f q0 q1) (hM : CM f q1) (p_0 p_1 p_2 p_3 p_4 : Int32) : wp_WM_fare_w L f q0 p_0 p_1 p_2 p_3 p_4 (fun r => wp_Md_fare_w L f q1 p_0 p_1 p_2 p_3 p_4 (fun r' => r = r')) := by
  obtain ⟨ad, hR, hV⟩ := id hC
  obtain ⟨n, qx, cO, cF, cH, cS, am, h1, h2, h3, h4, h5, h6, h7, h8, h9⟩ := id hD
  have hS : CO' f q0 q1 n qx cO am := ⟨h1, h2, h3, h4, h6, fun i hi => ⟨(h9 i hi).1, (h9 i hi).2.1, (h9 i hi).2.2.1⟩⟩
  have hbad : ((p_0 < 0 ∨ nI n - 1 < p_0) ∨ ¬ St f q1 p_1 ∨ ¬ St f q1 p_2 ∨ p_1 = p_2 ∨ p_3 < 0 ∨ 5999 < p_3 ∨ ¬ (¬ p_4 < 1 ∧ ¬ 2 < p_4)) → wp_Md_fare_w L f q1 p_0 p_1 p_2 p_3 p_4 (fun r' => -1 = r') := by
    intro h x1 e1
    rw [h3] at e1
    subst e1
    refine ⟨fun _ => rfl, fun g1 => ⟨fun _ => rfl, fun g2 => isSt_m (fun _ => ⟨fun _ => rfl, fun z => absurd z (by decide)⟩) (fun g3 => ⟨fun _ => rfl, fun _ => isSt_m (fun _ => ⟨fun _ => rfl, fun z => absurd z (by decide)⟩) (fun g4 => ⟨fun _ => rfl, fun _ => ⟨fun _ => rfl, fun g5 => ⟨fun _ => rfl, fun g6 => ⟨fun _ => rfl, fun g7 => ⟨fun _ => rfl, fun g8 => ⟨fun _ => rfl, fun g9 => ?_⟩⟩⟩⟩⟩⟩)⟩)⟩⟩
    rcases h with (h | h) | h | h | h | h | h | h
    · exact absurd h g1
    · exact absurd h g2
    · exact absurd g3 h
    · exact absurd g4 h
    · exact absurd h g5
    · exact absurd h g6
    · exact absurd h g7
    · exact absurd ⟨g8, g9⟩ h
  refine orderAt_g hS (fun h => ⟨fun _ => hbad (Or.inl h), fun q z => by cases z⟩) (fun i hi hpi => ⟨fun z => (by cases z), fun q1' eq q2 e2 => ?_⟩)
  cases eq
  rw [hR.1] at e2; cases e2
  refine isSt_x hO m1 hV (fun g => ⟨fun _ => hbad (Or.inr (Or.inl g)), fun z => absurd z (by decide)⟩) (fun s1 => ⟨fun z => absurd z (by decide), fun _ => isSt_x hO m1 hV (fun g => ⟨fun _ => hbad (Or.inr (Or.inr (Or.inl g))), fun z => absurd z (by decide)⟩) (fun s2 => ⟨fun z => absurd z (by decide), fun _ => ⟨fun g => hbad (Or.inr (Or.inr (Or.inr (Or.inl g)))), fun s3 => ⟨fun g => hbad (Or.inr (Or.inr (Or.inr (Or.inr (Or.inl g))))), fun s4 => ⟨fun g => hbad (Or.inr (Or.inr (Or.inr (Or.inr (Or.inr (Or.inl (h6000.mp g))))))), fun s5 => ?_⟩⟩⟩⟩)⟩)
  have s5' : ¬ 5999 < p_3 := fun z => s5 (h6000.mpr z)
  obtain ⟨-, -, -, o, hw, oX, oM⟩ := h9 i hi
  have hgood : (¬ p_4 < 1 ∧ ¬ 2 < p_4) → wp_WM_priceOf_w L f q0 (cO i) p_1 p_2 p_3 p_4 (fun (r_14 : Int32) => ((r_14 = (-1) → wp_Md_fare_w L f q1 p_0 p_1 p_2 p_3 p_4 (fun r' => -2 = r')) ∧ (¬ (r_14 = (-1)) → wp_Md_fare_w L f q1 p_0 p_1 p_2 p_3 p_4 (fun r' => r_14 = r')))) := by
    intro s6
    have hfin : ∀ r : Int32, r = frN (FR o (mdi f ad p_1 p_2) (flv f ad (p_3 / 12) (p_3 - p_3 / 12 * 12)) (decide (¬ mup f ad p_1 p_2 ≤ 0)) (p_3 / 12) (p_3 - p_3 / 12 * 12) p_4) → wp_Md_fare_w L f q1 p_0 p_1 p_2 p_3 p_4 (fun r' => r = r') := by
      intro r hr x1 e1
      rw [h3] at e1
      subst e1
      have i1 : ¬ p_0 < 0 := by rw [hpi]; exact nI_pos (by omega)
      have i2 : ¬ nI n - 1 < p_0 := by
        have z1 : (1 : Int32).toInt = 1 := by decide
        have k1 := nI_toInt (n := n) (by omega)
        have k2 := nI_toInt (n := i) (by omega)
        rw [hpi, Int32.lt_iff_toInt_lt, fb_subI (by omega) (by omega)]
        omega
      refine ⟨fun z => absurd z i1, fun _ => ⟨fun z => absurd z i2, fun _ => isSt_m (fun z => absurd s1 z) (fun _ => ⟨fun z => absurd z (by decide), fun _ => isSt_m (fun z => absurd s2 z) (fun _ => ⟨fun z => absurd z (by decide), fun _ => ⟨fun z => absurd z s3, fun _ => ⟨fun z => absurd z s4, fun _ => ⟨fun z => absurd z s5', fun _ => ⟨fun z => absurd z s6.1, fun _ => ⟨fun z => absurd z s6.2, fun _ y20 e20 y21 e21 => ?_⟩⟩⟩⟩⟩⟩)⟩)⟩⟩
      subst e20 e21
      rw [hpi]
      exact fareOf_m hR oM hw (by omega) hr
    refine priceOf_x hO m1 hR hV hM s1 s2 s3 s4 s5' oX hw ⟨fun g => hfin _ ?_, fun g => hfin _ ?_⟩
    · exact (if_pos g).symm
    · exact (if_neg g).symm
  refine ⟨fun g => hgood (oars12.mp (Or.inl g)), fun g1 => ⟨fun g => hgood (oars12.mp (Or.inr g)), fun g2 => hbad (Or.inr (Or.inr (Or.inr (Or.inr (Or.inr (Or.inr (fun z => ?_)))))))⟩⟩
  rcases oars12.mpr z with k | k
  · exact g1 k
  · exact g2 k
end FARP
