section SEE
variable {L : List Nat} {f : TF} {q0 q1 : Nat} {ad : Nat → Nat} {N : Nat} {T : Int32}
theorem pr_pensioner {Tn nTn : Nat} (hA : Ad f q0 q1 ad) (hMo : KMo f q1 ad Tn nTn) (p_0 p_1 : Int32) : wp_WM_pensioner_w L f q0 p_0 p_1 (fun r => wp_Md_pensioner_w L f q1 p_0 p_1 (fun r' => r = r')) := by
  obtain ⟨pn, np, ls, pen, pend, M, ⟨hX, hR⟩, -, -⟩ := hMo
  have c2 := hR.2.1.1.2
  have c1 := hR.2.1.1.1
  have r := hR.2.1.2.1
  have hcmp : nI np ≤ p_0 ↔ nI np - 1 < p_0 := by
    have z1 : (1 : Int32).toInt = 1 := by decide
    have := nI_toInt (n := np) (by omega)
    rw [Int32.le_iff_toInt_le, Int32.lt_iff_toInt_lt, fb_subI (by omega) (by omega)]
    omega
  intro q1' e1
  rw [hA.1.2.2.2.2] at e1; cases e1
  refine pensioner_x hX.2 (fun h => ⟨fun _ x1 e1 => ?_, fun q z => (by cases z)⟩) (fun i hi hp => ⟨fun z => (by cases z), fun q eq => ?_⟩)
  · rw [c2] at e1
    subst e1
    refine ⟨fun _ => rfl, fun g1 => ⟨fun _ => rfl, fun g2 => ?_⟩⟩
    rcases h with h | h
    · exact absurd h g1
    · exact absurd (hcmp.mp h) g2
  · cases eq
    subst hp
    have n1 : ¬ nI i < 0 := nI_pos (by omega)
    have n2 : ¬ nI np - 1 < nI i := fun z => by rw [← hcmp, nI_leI (by omega) (by omega)] at z; omega
    have v61 : ti f (ad 61) i = ti f (pn i) 0 := by rw [(hR.2.1.2.2 i hi).1, (hX.2.2.2.2.1 i hi).1]
    have v62 : ti f (ad 62) i = ti f (pn i) 1 := by rw [(hR.2.1.2.2 i hi).2, (hX.2.2.2.2.1 i hi).2]
    have v63 : ti f (ad 63) i = ti f (pn i) 2 := by rw [hR.1.2.2.2.2.2 i (by omega), hX.1.2.2.2.2.2 i hi]
    refine ⟨fun d0 x4 e4 x1 e1 => ?_, fun d0 => ⟨fun d1 x6 e6 x1 e1 => ?_, fun d1 => ⟨fun d2 x8 e8 x1 e1 => ?_, fun d2 x1 e1 => ?_⟩⟩⟩
    · rw [c2] at e1; subst e1
      refine ⟨fun z => absurd z n1, fun _ => ⟨fun z => absurd z n2, fun _ => ⟨fun _ q6 e6 x7 e7 => ?_, fun z => absurd d0 z⟩⟩⟩
      rw [r 61 (by decide)] at e6; cases e6
      rw [nI_clamp (by omega), v61] at e7
      rw [← e4, ← e7]
    · rw [c2] at e1; subst e1
      refine ⟨fun z => absurd z n1, fun _ => ⟨fun z => absurd z n2, fun _ => ⟨fun z => absurd z d0, fun _ => ⟨fun _ q6 eq x7 e7 => ?_, fun z => absurd d1 z⟩⟩⟩⟩
      rw [r 62 (by decide)] at eq; cases eq
      rw [nI_clamp (by omega), v62] at e7
      rw [← e6, ← e7]
    · rw [c2] at e1; subst e1
      refine ⟨fun z => absurd z n1, fun _ => ⟨fun z => absurd z n2, fun _ => ⟨fun z => absurd z d0, fun _ => ⟨fun z => absurd z d1, fun _ => ⟨fun _ q6 eq x7 e7 => ?_, fun z => absurd d2 z⟩⟩⟩⟩⟩
      rw [r 63 (by decide)] at eq; cases eq
      rw [nI_clamp (by omega), v63] at e7
      rw [← e8, ← e7]
    · rw [c2] at e1; subst e1
      exact ⟨fun z => absurd z n1, fun _ => ⟨fun z => absurd z n2, fun _ => ⟨fun z => absurd z d0, fun _ => ⟨fun z => absurd z d1, fun _ => ⟨fun z => absurd z d2, fun _ => rfl⟩⟩⟩⟩⟩
theorem i64_sm {v : Int64} {x y : Int32} (h : v.toInt32 = y) : (v + x.toInt64).toInt32 = y + x := by rw [Int64.toInt32_add, Int32.toInt32_toInt64, h]
theorem coins_x {Q : Int32 → Prop} {co : Nat → Int32} (hA : Ad f q0 q1 ad) (hc : ∀ m, m < 40 → ti f (ad (100 + m)) 4 = co m) (hq : Q (sm32 co 40)) : wp_WM_coinsOfMen_w L f q0 Q := by
  have hstep : ∀ (rc : Int32 → Int32 → Prop) (i : Nat), i ≤ 40 → (i < 40 → rc (sm32 co (i + 1)) (nI (i + 1))) → wpB_WM_coinsOfMen_w_4_1 L f q0 Q rc (sm32 co i) (nI i) := by
    intro rc i hi hrec
    refine ⟨fun g => ?_, fun g q3 e3 => ?_⟩
    · rw [show (40 : Int32) = nI 40 from rfl, nI_leI (by decide) (by omega)] at g
      have : i = 40 := by omega
      subst this
      exact hq
    · rw [show (40 : Int32) = nI 40 from rfl, nI_leI (by decide) (by omega)] at g
      have hlt : i < 40 := by omega
      rw [hA.1.2.1] at e3; cases e3
      rw [nI_clamp (by omega), hA.2.1 i hlt, nI_1]
      refine ⟨fun z => (by cases z), fun q4 e4 x5 e5 => ?_⟩
      cases e4
      rw [hc i hlt] at e5
      subst e5
      exact hrec hlt
  have hloop : ∀ (n i : Nat), i ≤ 40 → wpL_WM_coinsOfMen_w_4_1 L f q0 Q n (sm32 co i) (nI i) := by
    intro n
    induction n with
    | zero => intro i a1; exact hstep (fun _ _ => True) i a1 (fun _ => trivial)
    | succ n ih => intro i a1; exact hstep _ i a1 (fun b1 => ih _ (by omega))
  exact hloop _ 0 (by omega)
theorem coins2_m {p_0 : Int32} {Q : Int32 → Prop} {co : Nat → Int32} (hr : tr f q1 15 = some (ad 15)) (hc : ∀ m, m < 40 → ti f (ad 15) m = co m) (hq : Q (sm32 co 40)) : ∀ (n i : Nat) (v : Int64), i ≤ 40 → v.toInt32 = sm32 co i → wpL_Md_coins_w_51_8 L f q1 p_0 Q n (nI i) v := by
  have hstep : ∀ (rc : Int32 → Int64 → Prop) (i : Nat) (v : Int64), i ≤ 40 → v.toInt32 = sm32 co i → (∀ v' : Int64, i < 40 → v'.toInt32 = sm32 co (i + 1) → rc (nI (i + 1)) v') → wpB_Md_coins_w_51_8 L f q1 p_0 Q rc (nI i) v := by
    intro rc i v hi hv hrec
    refine ⟨fun g y10 e10 => ?_, fun g q11 e11 x12 e12 y13 e13 => ?_⟩
    · rw [show (40 : Int32) = nI 40 from rfl, nI_leI (by decide) (by omega)] at g
      have : i = 40 := by omega
      subst this
      rw [e10, hv]; exact hq
    · rw [show (40 : Int32) = nI 40 from rfl, nI_leI (by decide) (by omega)] at g
      have hlt : i < 40 := by omega
      rw [hr] at e11; cases e11
      rw [nI_clamp (by omega), hc i hlt] at e12
      subst e12
      rw [nI_1]
      exact hrec y13 hlt (by rw [e13, i64_sm hv]; rfl)
  intro n
  induction n with
  | zero => intro i v a1 a2; exact hstep (fun _ _ => True) i v a1 a2 (fun _ _ _ => trivial)
  | succ n ih => intro i v a1 a2; exact hstep _ i v a1 a2 (fun v' b1 b2 => ih _ v' (by omega) b2)
theorem coins3_m {p_0 : Int32} {Q : Int32 → Prop} {nT : Nat} (hn : ti f q1 47 = nI nT) (h600 : nT ≤ 600) (hr : tr f q1 54 = some (ad 54)) (hq : Q (sm32 (fun t => ti f (ad 54) t) nT)) : ∀ (n i : Nat) (v : Int64), i ≤ nT → v.toInt32 = sm32 (fun t => ti f (ad 54) t) i → wpL_Md_coins_w_81_15 L f q1 p_0 Q n (nI i) v := by
  have hstep : ∀ (rc : Int32 → Int64 → Prop) (i : Nat) (v : Int64), i ≤ nT → v.toInt32 = sm32 (fun t => ti f (ad 54) t) i → (∀ v' : Int64, i < nT → v'.toInt32 = sm32 (fun t => ti f (ad 54) t) (i + 1) → rc (nI (i + 1)) v') → wpB_Md_coins_w_81_15 L f q1 p_0 Q rc (nI i) v := by
    intro rc i v hi hv hrec x16 e16
    rw [hn] at e16
    subst e16
    refine ⟨fun g y10 e10 => ?_, fun g q11 e11 x12 e12 y13 e13 => ?_⟩
    · rw [nI_leI (by omega) (by omega)] at g
      have : i = nT := by omega
      subst this
      rw [e10, hv]; exact hq
    · rw [nI_leI (by omega) (by omega)] at g
      have hlt : i < nT := by omega
      rw [hr] at e11; cases e11
      rw [nI_clamp (by omega)] at e12
      subst e12
      rw [nI_1]
      exact hrec y13 hlt (by rw [e13, i64_sm hv]; rfl)
  intro n
  induction n with
  | zero => intro i v a1 a2; exact hstep (fun _ _ => True) i v a1 a2 (fun _ _ _ => trivial)
  | succ n ih => intro i v a1 a2; exact hstep _ i v a1 a2 (fun v' b1 b2 => ih _ v' (by omega) b2)
theorem pr_coins {Tn : Nat} (hA : Ad f q0 q1 ad) (hK : K3 f q0 q1 ad T N) (hMo : KMo f q1 ad Tn (ti f q1 47).toNatClampNeg) (p_0 : Int32) : wp_WM_coins_w L f q0 p_0 (fun r => wp_Md_coins_w L f q1 p_0 (fun r' => r = r')) := by
  obtain ⟨bt, tp, nB, nT, hB, -⟩ := hK
  have h600 := hB.1.2
  have hcn : (ti f q1 47).toNatClampNeg = nT := by rw [hB.2.1.2.2.2]; exact nI_clamp (by omega)
  rw [hcn] at hMo
  obtain ⟨pn, np, ls, pen, pend, M, ⟨hX, hR⟩, -, hS⟩ := hMo
  have r := hR.2.1.2.1
  have h0 : ti f (ad 68) 0 = (tl f q1 56).toInt32 := by rw [toI32 hR.1.1, ← hX.1.1, Int32.ofInt_toInt]
  have h1 : ti f (ad 68) 1 = (tl f q1 57).toInt32 := by rw [toI32 hR.1.2.1, ← hX.1.2.1, Int32.ofInt_toInt]
  have h4 : ti f (ad 68) 3 = (tl f q1 58).toInt32 := by rw [hR.1.2.2.1, hX.1.2.2.1]
  refine ⟨fun d0 q2 e2 x3 e3 => ?_, fun d0 => ⟨fun d1 q2 e2 x3 e3 => ?_, fun d1 => ⟨fun d2 => ?_, fun d2 => ⟨fun d3 q2 e2 x3 e3 => ?_, fun d3 => ⟨fun d4 q2 e2 x3 e3 => ?_, fun d4 => ?_⟩⟩⟩⟩⟩
  · rw [hA.1.2.2.2.2] at e2; cases e2
    exact ⟨fun _ x2 e2 y3 ey => by rw [ey, ← e2, ← h0, e3], fun z => absurd d0 z⟩
  · rw [hA.1.2.2.2.2] at e2; cases e2
    exact ⟨fun z => absurd z d0, fun _ => ⟨fun _ x2 e2 y3 ey => by rw [ey, ← e2, ← h1, e3], fun z => absurd d1 z⟩⟩
  · refine coins_x hA (co := M.2.2.2.2.1) hX.1.2.2.2.2.1 ?_
    exact ⟨fun z => absurd z d0, fun _ => ⟨fun z => absurd z d1, fun _ => ⟨fun _ => coins2_m (co := M.2.2.2.2.1) (r 15 (by decide)) hR.1.2.2.2.2.1 rfl _ 0 0 (by omega) rfl, fun z => absurd d2 z⟩⟩⟩
  · rw [hA.1.2.2.2.2] at e2; cases e2
    exact ⟨fun z => absurd z d0, fun _ => ⟨fun z => absurd z d1, fun _ => ⟨fun z => absurd z d2, fun _ => ⟨fun _ => coins3_m hB.2.1.2.2.2 h600 (hA.2.2.2 54 (by decide)) (by rw [← e3, hS]) _ 0 0 (by omega) rfl, fun z => absurd d3 z⟩⟩⟩⟩
  · rw [hA.1.2.2.2.2] at e2; cases e2
    exact ⟨fun z => absurd z d0, fun _ => ⟨fun z => absurd z d1, fun _ => ⟨fun z => absurd z d2, fun _ => ⟨fun z => absurd z d3, fun _ => ⟨fun _ x2 e2 y3 ey => by rw [ey, ← e2, ← h4, e3], fun z => absurd d4 z⟩⟩⟩⟩⟩
  · exact ⟨fun z => absurd z d0, fun _ => ⟨fun z => absurd z d1, fun _ => ⟨fun z => absurd z d2, fun _ => ⟨fun z => absurd z d3, fun _ => ⟨fun z => absurd z d4, fun _ => rfl⟩⟩⟩⟩⟩
end SEE
