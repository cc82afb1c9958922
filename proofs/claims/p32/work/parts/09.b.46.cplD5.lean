section MNN
variable {L : List Nat} {f : TF} {q0 q1 : Nat} {ad : Nat → Nat} {N : Nat}
def sm32 (g : Nat → Int32) : Nat → Int32
  | 0 => 0
  | n + 1 => sm32 g n + g n
theorem sm32_eq {g h : Nat → Int32} : ∀ n, (∀ i, i < n → g i = h i) → sm32 g n = sm32 h n := by
  intro n
  induction n with
  | zero => intro _; rfl
  | succ n ih =>
    intro hh
    show sm32 g n + g n = sm32 h n + h n
    rw [ih (fun i hi => hh i (by omega)), hh n (by omega)]
/-- the money of both sides, at the minute T, with nT trips -/
def KMo (f : TF) (q1 : Nat) (ad : Nat → Nat) (T nT : Nat) : Prop := ∃ (pn : Nat → Nat) (np : Nat) (ls pen pend : Nat → Int32) (M : MS), (XF f ad pn np ls pen pend M ∧ RF f q1 ad np ls pen pend (T / 720) M) ∧ (IV (1000000 * (nT : Int)) M ∧ PB np pen ∧ PT ls (T / 720) M ∧ LSu ls (T / 720) ∧ GZ np M) ∧ ti f (ad 68) 2 = sm32 (fun t => ti f (ad 54) t) nT
def avKMo (W : List (Nat × Nat)) : Bool := W.all (fun p => p.1 != 69) && (!(wr W 12 2) && (avXF W && avRF W))
theorem KMo.ext {W : List (Nat × Nat)} {L1 : List Nat} {f1 : TF} {T nT : Nat} (h : KMo f q1 ad T nT) (hA : Ad f q0 q1 ad) (hO : Ok L f) (m0 : q0 ∈ L ∧ tk f q0 = 0) (m1 : q1 ∈ L ∧ tk f q1 = 27) (hE : Ext W L f L1 f1) (ha : avKMo W = true) : KMo f1 q1 ad T nT := by
  unfold avKMo at ha
  rw [Bool.and_eq_true, Bool.and_eq_true, Bool.and_eq_true] at ha
  obtain ⟨pn, np, ls, pen, pend, M, ⟨h1, h2⟩, h3, h4⟩ := h
  refine ⟨pn, np, ls, pen, pend, M, ⟨RX.ext h1 hA hO m0 hE ha.2.2.1, h2.ext hO m1 hE ha.2.2.2⟩, h3, ?_⟩
  rw [hE.ei (hA.box hO m0) (by simpa using ha.2.1), h4]
  exact sm32_eq nT (fun i _ => (hE.ei (hA.m hO m1 54 (by decide)) (wr_k ha.1 i)).symm)
theorem pr_minutes4 (hO : Ok L f) (m0 : q0 ∈ L ∧ tk f q0 = 0) (m1 : q1 ∈ L ∧ tk f q1 = 27) (hC : Cpl L f q0 q1) (hA : Ad f q0 q1 ad) (hK : K3 f q0 q1 ad (ti f q1 1) N) (hM : KMo f q1 ad (ti f q1 1).toNatClampNeg (ti f q1 47).toNatClampNeg) (p_0 : Int32) : wp_WM_minutes_w L f q0 p_0 (PairG (fun L g => (Cpl L g q0 q1 ∧ K3 g q0 q1 ad (ti g q1 1) N ∧ ti f q1 1 ≤ ti g q1 1) ∧ KMo g q1 ad (ti g q1 1).toNatClampNeg (ti g q1 47).toNatClampNeg) q0 q1 (fun L f Q => wp_Md_minutes_w L f q1 p_0 Q)) := by
  have ht := hC.time
  have hb := hO.i m1 (show slotD 27 1 = some (.inl (0, 359999)) from rfl)
  have hrf : ti f q1 1 ≤ ti f q1 1 := by rw [Int32.le_iff_toInt_le]; omega
  have hbad : (p_0 < 1 ∨ 1440 < p_0 ∨ ¬ (ti f q1 1 + p_0 ≤ 359999)) → PairG (fun L g => (Cpl L g q0 q1 ∧ K3 g q0 q1 ad (ti g q1 1) N ∧ ti f q1 1 ≤ ti g q1 1) ∧ KMo g q1 ad (ti g q1 1).toNatClampNeg (ti g q1 47).toNatClampNeg) q0 q1 (fun L f Q => wp_Md_minutes_w L f q1 p_0 Q) (-1) L f := by
    intro h _ _ _
    refine ⟨fun _ _ => ⟨rfl, ⟨hC, hK, hrf⟩, hM⟩, fun g1 => ⟨fun _ _ => ⟨rfl, ⟨hC, hK, hrf⟩, hM⟩, fun g2 => ⟨fun g3 => ?_, fun _ _ => ⟨rfl, ⟨hC, hK, hrf⟩, hM⟩⟩⟩⟩
    rcases h with h | h | h
    · exact absurd h g1
    · exact absurd h g2
    · exact absurd g3 h
  have z1 : (1 : Int32).toInt = 1 := by decide
  have z2 : (1440 : Int32).toInt = 1440 := by decide
  have z3 : (359999 : Int32).toInt = 359999 := by decide
  have z0 : (0 : Int32).toInt = 0 := by decide
  unfold wp_WM_minutes_w
  refine ⟨fun c1 => hbad (Or.inl c1), fun c1 => ⟨fun c2 => hbad (Or.inr (Or.inl c2)), fun c2 x3 e3 => ?_⟩⟩
  rw [ht] at e3
  have hcmp : p_0 ≤ 359999 - x3 ↔ ti f q1 1 + p_0 ≤ 359999 := by
    rw [e3] at hb ⊢
    obtain ⟨h1, h2⟩ := hb
    rw [Int32.lt_iff_toInt_lt] at h1 h2 c1 c2
    rw [Int32.le_iff_toInt_le, Int32.le_iff_toInt_le, fb_subI (by omega) (by omega), fb_addI (by omega) (by omega)]
    omega
  refine ⟨fun c3 y5 e5 => ?_, fun c3 => hbad (Or.inr (Or.inr (fun h => c3 (hcmp.mpr h))))⟩
  have c3' := hcmp.mp c3
  subst e3
  obtain ⟨τ0, hτ, eτ⟩ := nI_of2 (M := 359999) (n := 359999) (by decide) hb.1 (by have := hb.2; rw [Int32.lt_iff_toInt_lt] at this; rw [Int32.le_iff_toInt_le]; omega)
  obtain ⟨π, hπ, eπ⟩ := nI_of2 (x := p_0) (M := 1440) (n := 1440) (by decide) (by rw [Int32.lt_iff_toInt_lt] at c1 ⊢; omega) (by rw [Int32.lt_iff_toInt_lt] at c2; rw [Int32.le_iff_toInt_le]; omega)
  subst eπ
  have esum : ti f q1 1 + nI π = nI (τ0 + π) := by rw [eτ, nI_add]
  have hlt : τ0 + π < 360000 := by
    rw [esum, show (359999 : Int32) = nI 359999 from rfl, nI_leI (by omega) (by decide)] at c3'
    omega
  have hcl : (ti f q1 1).toNatClampNeg = τ0 := by rw [eτ]; exact nI_clamp (by omega)
  rw [hcl] at hM
  obtain ⟨pn, np, ls, pen, pend, M, ⟨hX, hR⟩, ⟨hI, hp, hP, hL, hG⟩, hS⟩ := id hM
  have ey5 : y5 = nI ((τ0 + π) / 720) := by rw [e5, esum, show (720 : Int32) = nI 720 from rfl, pk_div (by omega) (by decide) (by decide)]
  rw [ey5]
  intro x1 e1 y2 e2
  have ey2 : y2 = nI (τ0 / 720) := by rw [e2, ← e1, ht, eτ, show (720 : Int32) = nI 720 from rfl, pk_div (by omega) (by decide) (by decide)]
  rw [ey2, nI_1]
  refine xm4_loop (ad := ad) (q1 := q1) (d0 := τ0 / 720) hA hO m0 m1 hX.2 hI hp hP hG (by omega) (fun f1 hO1 hE1 hX1 f2 hf2 hO2 => ?_) _ 0 f (by omega) hX.1
  have n0 := hE1.m m0
  have n1 := hE1.m m1
  have hC1 := hC.ext hO m0 m1 hE1 (by decide +kernel)
  have hA1 := hA.ext hO m0 m1 hE1 (by decide +kernel)
  have hK1 := hK.ext hA hO m0 m1 hE1 (by decide +kernel)
  have hR1 := hR.ext hO m1 hE1 (by decide +kernel)
  have et : ti f1 q1 1 = ti f q1 1 := hE1.ei m1 (by decide +kernel)
  have hE2 : Ext [(0, 10)] L f1 L f2 := by rw [hf2]; exact ext_sI n0.2
  have hR2 : CplR f2 q0 q1 := hC1.rest.ext hO1 n0 n1 hE2 (by decide +kernel)
  have hA2 := hA1.ext hO1 n0 n1 hE2 (by decide +kernel)
  have hK2 := hK1.ext hA1 hO1 n0 n1 hE2 (by decide +kernel)
  have hRF2 := hR1.ext hO1 n1 hE2 (by decide +kernel)
  have hX2 := RX.ext hX1 hA1 hO1 n0 hE2 (by decide +kernel)
  have e0 : ti f2 q0 10 = nI (τ0 + π) := by rw [hf2, ← esum]; exact ti_sI_eq
  have e1' : ti f2 q1 1 = nI τ0 := by rw [hf2, ti_sI_ne (ne_tk n1.2 n0.2 (by decide)), et, eτ]
  have e47 : ti f2 q1 47 = ti f q1 47 := by rw [hE2.ei n1 (by decide +kernel), hE1.ei m1 (by decide +kernel)]
  have hS2 : ti f2 (ad 68) 2 = sm32 (fun t => ti f2 (ad 54) t) (ti f q1 47).toNatClampNeg := by
    rw [hE2.ei (hA1.box hO1 n0) (by decide +kernel), hE1.ei (hA.box hO m0) (by decide +kernel), hS]
    exact sm32_eq _ (fun i _ => by rw [hE2.ei (hA1.m hO1 n1 54 (by decide)) (wr_k (by decide +kernel) i), hE1.ei (hA.m hO m1 54 (by decide)) (wr_k (by decide +kernel) i)])
  intro hO2' m0' m1'
  rw [esum]
  refine ⟨fun g => absurd g c1, fun _ => ⟨fun g => absurd g c2, fun _ => ⟨fun _ => ?_, fun g => ?_⟩⟩⟩
  · refine mm4_loop (pend := pend) (L := L) (f := f2) (q0 := q0) (ad := ad) (N := N) (c := nI (τ0 + π)) (π := π) (τ0 := τ0) hI hp hP hG hL rfl hlt (fun L3 f3 hO3 hE3 hm3 _ => ?_) _ 0 L f2 (by omega) ⟨⟨m0', m1', hR2, e0, e1'⟩, hA2, ?_, ?_⟩
    · obtain ⟨hmid, hA3, hK3, hRF3⟩ := hm3
      have hge := gN_all (pend := pend) hI hp hP hG ((τ0 + π) / 720 - τ0 / 720)
      rw [show τ0 / 720 + ((τ0 + π) / 720 - τ0 / 720) = (τ0 + π) / 720 by omega] at hge
      refine ⟨rfl, ⟨hmid.2.2.1.full (hmid.2.2.2.1.trans hmid.2.2.2.2.symm), ?_, ?_⟩, ?_⟩
      · rw [hmid.2.2.2.2]; exact hK3
      · rw [hmid.2.2.2.2, eτ, nI_leI (by omega) (by omega)]; omega
      · rw [hmid.2.2.2.2, nI_clamp (by omega), hE3.ei m1' (by decide +kernel), e47]
        refine ⟨pn, np, ls, pen, pend, _, ⟨RX.ext hX2 hA2 hO2' m0' hE3 (by decide +kernel), hRF3⟩, ⟨hge.1, hp, hge.2.1, fun m hm => ?_, hge.2.2⟩, ?_⟩
        · have := hL m hm; omega
        · rw [hE3.ei (hA2.box hO2' m0') (by decide +kernel), hS2]
          exact sm32_eq _ (fun i _ => (hE3.ei (hA2.m hO2' m1' 54 (by decide)) (wr_k (by decide +kernel) i)).symm)
    · show K3 f2 q0 q1 ad (nI (τ0 + 0)) N
      rw [Nat.add_zero, ← eτ]; exact hK2
    · show RF f2 q1 ad np ls pen pend ((τ0 + 0) / 720) (gN np ls pen pend (τ0 / 720) M ((τ0 + 0) / 720 - τ0 / 720))
      rw [Nat.add_zero, Nat.sub_self]; exact hRF2
  · rw [e1', ← eτ] at g; exact absurd c3' g
end MNN
