section DUE
variable {L : List Nat} {f : TF} {q0 q1 : Nat} {ad ad' : Nat → Nat} {N nB nT : Nat}
/-- what is due for trip t by what is known on day k: -1 where there is no fare -/
def duV (f : TF) (ad ad' am : Nat → Nat) (oo : Nat → OS) (n : Nat) (k : Int32) (t : Nat) : Int32 := if fi f am (ti f (ad 52) t / 720) k n = -2 then -1 else FR (oo (fi f am (ti f (ad 52) t / 720) k n).toNatClampNeg) (mdi f ad' (ti f (ad 50) t) (ti f (ad 51) t)) (flv f ad' (ti f (ad 52) t / 720) (hrs (ti f (ad 52) t))) (decide (¬ mup f ad' (ti f (ad 50) t) (ti f (ad 51) t) ≤ 0)) (ti f (ad 52) t / 720) (hrs (ti f (ad 52) t)) (ti f (ad 22) (ti f (ad 48) t).toNatClampNeg)
theorem st_n {t : Nat} (hA : Ad f q0 q1 ad) (hO : Ok L f) (m1 : q1 ∈ L ∧ tk f q1 = 27) (ht : t < 600) : ∃ n, n ≤ 359999 ∧ ti f (ad 52) t = nI n := by
  obtain ⟨b1, b2⟩ := hO.i (hA.m hO m1 52 (by decide)) (slot_arr (n := 600) rfl ht)
  exact nI_of2 (M := 359999) (n := 359999) (by decide) b1 (by rw [Int32.lt_iff_toInt_lt] at b2; rw [Int32.le_iff_toInt_le]; omega)
theorem dueOf_x {n qx t : Nat} {cO cF cH cS am : Nat → Nat} {oo : Nat → OS} {bt tp : Nat → Nat} {k : Int32} {Q : Int32 → Prop} (hO : Ok L f) (m1 : q1 ∈ L ∧ tk f q1 = 27) (hR : Refs f q0 q1 ad') (hV : Vals f q0 q1 ad') (hCM : CM f q1) (hOo : COf f q0 q1 n qx cO cF cH cS am oo) (hA : Ad f q0 q1 ad) (hB : BT f q0 q1 ad bt tp nB nT) (hBo : ∀ b, b < nB → ti f (bt b) 0 = ti f (ad 22) b) (hTR : TR f ad N nB t (tp t)) (hN : ti f q1 2 = nI N) (hN2 : N ≤ 12) (ht : t < nT) (hq : Q (duV f ad ad' am oo n k t)) : wp_WM_dueOf_w L f q0 (tp t) k Q := by
  have h600 := hB.1.2
  have h20 := hB.1.1
  have hn20 := hOo.1.1
  obtain ⟨a1, a2, a3, a4, a5, a6, a7, a8, ⟨b, hb, a9⟩, a54, s, s', s1, s2, s3, s4, s5⟩ := hTR
  obtain ⟨sn, hsn, hS⟩ := st_n hA hO m1 (show t < 600 by omega)
  unfold duV at hq
  intro x1 e1 y2 e2
  rw [a3] at e1
  subst e1 e2
  generalize hSS : ti f (ad 52) t = S at *
  refine nif_x hOo.1 ?_
  refine orderAt_g hOo.1 (fun h => ⟨fun _ x5 e5 => ?_, fun q z => (by cases z)⟩) (fun i hi hfi => ⟨fun z => (by cases z), fun q eq x7 e7 => ?_⟩)
  · have hz : fi f am (S / 720) k n = -2 := by
      rcases fi_cases (f := f) (am := am) (p0 := S / 720) (p1 := k) n with h' | ⟨i, hi, h'⟩
      · exact h'
      · rw [h'] at h
        exact absurd h (nb_no hi (by omega))
    rw [if_pos hz] at hq
    exact boatAt_x hA hB (fun _ => ⟨fun _ => hq, fun _ _ => hq⟩) (fun _ _ _ => ⟨fun _ => hq, fun _ _ => hq⟩)
  · cases eq
    rw [a1, a9] at e7
    subst e7
    have hfn : ¬ fi f am (S / 720) k n = -2 := by rw [hfi]; exact m2_nI (by omega)
    have hi0 : (fi f am (S / 720) k n).toNatClampNeg = i := by rw [hfi, nI_clamp (by omega)]
    rw [if_neg hfn, hi0, a9, nI_clamp (by omega), s4, s5] at hq
    refine boatAt_x hA hB (fun h => absurd h (nb_no hb (by omega))) (fun b' hb' hp => ⟨fun z => (by cases z), fun q eq x9 e9 x10 e10 y11 e11 x12 e12 => ?_⟩)
    cases eq
    have : b' = b := by
      rw [nI_eq (by omega) (by omega)] at hp
      exact hp.symm
    subst this
    rw [a5, s4] at e9
    rw [a6, s5] at e10
    rw [hBo b' hb'] at e12
    subst e9 e10 e11 e12
    obtain ⟨hw, oX, oM⟩ := hOo.2 i hi
    obtain ⟨hr1, hr2⟩ := hrs_x hsn hS
    have hp0 : ¬ S / 60 < 0 ∧ ¬ 5999 < S / 60 := by
      rw [hS, show (60 : Int32) = nI 60 from rfl, pk_div (by omega) (by decide) (by decide), show (5999 : Int32) = nI 5999 from rfl, nI_ltI (by decide) (by omega)]
      exact ⟨nI_pos (by omega), by omega⟩
    refine priceOf_x hO m1 hR hV hCM (St_s hN hN2 s1) (St_s hN hN2 s2) (fun e => s3 ?_) hp0.1 hp0.2 oX hw ?_
    · rw [nI_eq (by omega) (by omega)] at e
      exact e
    · rw [hr1, hr2]; exact hq
theorem dueOf_m {n qx t : Nat} {cO cF cH cS am : Nat → Nat} {oo : Nat → OS} {c : Nat} {k : Int32} {Q : Int32 → Prop} (hR : Refs f q0 q1 ad') (hOo : COf f q0 q1 n qx cO cF cH cS am oo) (hA : Ad f q0 q1 ad) (hTR : TR f ad N nB t c) (hB20 : nB ≤ 20) (ht : t < 600) (hq : Q (duV f ad ad' am oo n k t)) : wp_Md_dueOf_w L f q1 (nI t) k Q := by
  have hn20 := hOo.1.1
  have r := hA.2.2.2
  obtain ⟨a1, a2, a3, a4, a5, a6, a7, a8, ⟨b, hb, a9⟩, -, -⟩ := hTR
  unfold duV at hq
  intro q e x2 e2 y3 e3
  rw [r 52 (by decide)] at e; cases e
  rw [nI_clamp (by omega)] at e2
  subst e2 e3
  generalize hSS : ti f (ad 52) t = S at *
  refine nif_m hOo.1 ⟨fun h => ?_, fun h q7 e7 x8 e8 q9 e9 x10 e10 y12 e12 y13 e13 q14 e14 q15 e15 x16 e16 x17 e17 => ?_⟩
  · rw [if_pos h] at hq
    exact hq
  · rw [if_neg h] at hq
    rw [r 50 (by decide)] at e7; cases e7
    rw [r 51 (by decide)] at e9; cases e9
    rw [r 22 (by decide)] at e14; cases e14
    rw [r 48 (by decide)] at e15; cases e15
    rw [nI_clamp (by omega)] at e8 e10 e16
    subst e8 e10 e12 e13 e16 e17
    obtain ⟨i, hi, hfi⟩ : ∃ i, i < n ∧ fi f am (S / 720) k n = nI i := (fi_cases n).elim (fun z => absurd z h) id
    have hi0 : (fi f am (S / 720) k n).toNatClampNeg = i := by rw [hfi, nI_clamp (by omega)]
    rw [hi0] at hq
    obtain ⟨hw, oX, oM⟩ := hOo.2 i hi
    rw [hfi]
    refine fareOf_m hR oM hw (by omega) ?_
    have hh : (S - S / 720 * 720) / 60 = hrs S := rfl
    rw [hh]
    unfold frN
    by_cases hz : FR (oo i) (mdi f ad' (ti f (ad 50) t) (ti f (ad 51) t)) (flv f ad' (S / 720) (hrs S)) (decide (¬ mup f ad' (ti f (ad 50) t) (ti f (ad 51) t) ≤ 0)) (S / 720) (hrs S) (ti f (ad 22) (ti f (ad 48) t).toNatClampNeg) = -1
    · rw [hz] at hq
      rw [if_pos hz]
      exact ⟨fun z => absurd z (by decide), fun _ => hq⟩
    · rw [if_neg hz]
      refine ⟨fun _ => hq, fun z => absurd (le0.mpr (FR_nn hw (fun y => hz ?_))) z⟩
      unfold FR
      exact if_pos y
theorem duV_c {n qx : Nat} {cO cF cH cS am : Nat → Nat} {oo : Nat → OS} {k : Int32} {t : Nat} (hOo : COf f q0 q1 n qx cO cF cH cS am oo) : duV f ad ad' am oo n k t = -1 ∨ ¬ duV f ad ad' am oo n k t < 0 := by
  have hn20 := hOo.1.1
  unfold duV
  by_cases h : fi f am (ti f (ad 52) t / 720) k n = -2
  · rw [if_pos h]; exact Or.inl rfl
  · rw [if_neg h]
    obtain ⟨i, hi, hfi⟩ : ∃ i, i < n ∧ fi f am (ti f (ad 52) t / 720) k n = nI i := (fi_cases n).elim (fun z => absurd z h) id
    rw [hfi, nI_clamp (by omega)]
    obtain ⟨hw, -, -⟩ := hOo.2 i hi
    by_cases hb : bsP (oo i).1 (mdi f ad' (ti f (ad 50) t) (ti f (ad 51) t)) (oo i).1.1 0 = -1
    · exact Or.inl (by unfold FR; exact if_pos hb)
    · exact Or.inr (FR_nn hw hb)
theorem pr_due (hO : Ok L f) (m0 : q0 ∈ L ∧ tk f q0 = 0) (m1 : q1 ∈ L ∧ tk f q1 = 27) (hC : Cpl L f q0 q1) (hD : CO f q0 q1) (hM : CM f q1) (hA : Ad f q0 q1 ad) (hK3 : K3 f q0 q1 ad (ti f q1 1) (ti f q1 2).toNatClampNeg) (p_0 p_1 : Int32) : wp_WM_due_w L f q0 p_0 p_1 (fun r => wp_Md_due_w L f q1 p_0 p_1 (fun r' => r = r')) := by
  obtain ⟨ad', hR, hV⟩ := id hC
  obtain ⟨n, qx, cO, cF, cH, cS, am, oo, hOo⟩ := hD.full
  obtain ⟨hN, hN2⟩ := nst hO m1
  generalize (ti f q1 2).toNatClampNeg = N at *
  obtain ⟨bt, tp, nB, nT, hB, h1, h2, h3⟩ := hK3
  have h20 := hB.1.1
  have h600 := hB.1.2
  have hbad : ((p_0 < 0 ∨ nI nT - 1 < p_0) ∨ p_1 < 0 ∨ 499 < p_1) → wp_Md_due_w L f q1 p_0 p_1 (fun r' => -2 = r') := by
    intro h x1 e1
    rw [hB.2.1.2.2.2] at e1
    subst e1
    refine ⟨fun _ => rfl, fun g1 => ⟨fun _ => rfl, fun g2 => ⟨fun _ => rfl, fun g3 => ⟨fun _ => rfl, fun g4 => ?_⟩⟩⟩⟩
    rcases h with (h | h) | h | h
    · exact absurd h g1
    · exact absurd h g2
    · exact absurd h g3
    · exact absurd h g4
  refine tripAt_x hA hB (fun h => ⟨fun _ => hbad (Or.inl h), fun q z => (by cases z)⟩) (fun t ht hp => ⟨fun z => (by cases z), fun q eq => ⟨fun z => hbad (Or.inr (Or.inl z)), fun c1 => ⟨fun z => hbad (Or.inr (Or.inr (d500.mp z))), fun c2 => ?_⟩⟩⟩)
  cases eq
  subst hp
  refine dueOf_x hO m1 hR hV hM hOo hA hB (fun b hb => (h1 b hb).1) (h3 t ht) hN hN2 ht ?_
  intro x1 e1
  rw [hB.2.1.2.2.2] at e1
  subst e1
  have hno := nb_no ht h600
  exact ⟨fun z => absurd (Or.inl z) hno, fun _ => ⟨fun z => absurd (Or.inr z) hno, fun _ => ⟨fun z => absurd z c1, fun _ => ⟨fun z => absurd (d500.mpr z) c2, fun _ => dueOf_m hR hOo hA (h3 t ht) h20 (by omega) rfl⟩⟩⟩⟩
/-- what was paid beyond the due, by the trips from t on -/
def ovV (f : TF) (ad ad' am : Nat → Nat) (oo : Nat → OS) (n : Nat) (p k : Int32) : Nat → Nat → Int32 → Int32
  | 0, _, v => v
  | c + 1, t, v => ovV f ad ad' am oo n p k c (t + 1) (if ti f (ad 49) t = p then (if duV f ad ad' am oo n k t = -1 then v else if ti f (ad 54) t ≤ duV f ad ad' am oo n k t then v else v + (ti f (ad 54) t - duV f ad ad' am oo n k t)) else v)
theorem ovV_z {am : Nat → Nat} {oo : Nat → OS} {n t : Nat} {p k v : Int32} (h : nT ≤ t) : ovV f ad ad' am oo n p k (nT - t) t v = v := by rw [show nT - t = 0 by omega]; rfl
theorem ovV_s {am : Nat → Nat} {oo : Nat → OS} {n t : Nat} {p k v : Int32} (h : t < nT) : ovV f ad ad' am oo n p k (nT - t) t v = ovV f ad ad' am oo n p k (nT - (t + 1)) (t + 1) (if ti f (ad 49) t = p then (if duV f ad ad' am oo n k t = -1 then v else if ti f (ad 54) t ≤ duV f ad ad' am oo n k t then v else v + (ti f (ad 54) t - duV f ad ad' am oo n k t)) else v) := by rw [show nT - t = nT - (t + 1) + 1 by omega]; rfl
theorem pr_over (hO : Ok L f) (m0 : q0 ∈ L ∧ tk f q0 = 0) (m1 : q1 ∈ L ∧ tk f q1 = 27) (hC : Cpl L f q0 q1) (hD : CO f q0 q1) (hM : CM f q1) (hA : Ad f q0 q1 ad) (hK3 : K3 f q0 q1 ad (ti f q1 1) (ti f q1 2).toNatClampNeg) (p_0 p_1 : Int32) : wp_WM_over_w L f q0 p_0 p_1 (fun r => wp_Md_over_w L f q1 p_0 p_1 (fun r' => r = r')) := by
  obtain ⟨ad', hR, hV⟩ := id hC
  obtain ⟨n, qx, cO, cF, cH, cS, am, oo, hOo⟩ := hD.full
  obtain ⟨hN, hN2⟩ := nst hO m1
  generalize (ti f q1 2).toNatClampNeg = N at *
  obtain ⟨bt, tp, nB, nT, hB, h1, h2, h3⟩ := hK3
  have h20 := hB.1.1
  have h600 := hB.1.2
  have r := hA.2.2.2
  have hbad : (¬ isM p_0 ∨ p_1 < 0 ∨ 499 < p_1) → wp_Md_over_w L f q1 p_0 p_1 (fun r' => -1 = r') := by
    intro h
    refine mck (fun _ => rfl) (fun g1 => ⟨fun _ => rfl, fun g3 => ⟨fun _ => rfl, fun g4 => ?_⟩⟩)
    rcases h with h | h | h
    · exact absurd g1 h
    · exact absurd h g3
    · exact absurd h g4
  refine manAt_x hA (fun h => ⟨fun _ => hbad (Or.inl h), fun q z => (by cases z)⟩) (fun m hm hp => ⟨fun z => (by cases z), fun q eq => ⟨fun z => hbad (Or.inr (Or.inl z)), fun c1 => ⟨fun z => hbad (Or.inr (Or.inr (d500.mp z))), fun c2 => ?_⟩⟩⟩)
  cases eq
  -- the program's sum
  have hx : ∀ (Q : Int32 → Prop) (qm : Nat), Q (ovV f ad ad' am oo n p_0 p_1 nT 0 0) → wpL_WM_over_w_22_5 L f q0 p_0 p_1 qm Q (((600 : Int32).toInt - (0 : Int32).toInt).toNat) (0 : Int32) (0 : Int32) := by
    intro Q qm hq
    have hstep : ∀ (rc : Int32 → Int32 → Prop) (t : Nat) (v : Int32), t ≤ nT → Q (ovV f ad ad' am oo n p_0 p_1 (nT - t) t v) → (∀ v', t < nT → Q (ovV f ad ad' am oo n p_0 p_1 (nT - (t + 1)) (t + 1) v') → rc v' (nI (t + 1))) → wpB_WM_over_w_22_5 L f q0 p_0 p_1 qm Q rc v (nI t) := by
      intro rc t v ht hqt hrec x6 e6
      rw [hB.2.1.2.2.1] at e6
      subst e6
      refine ⟨fun g => ?_, fun g => ?_⟩
      · rw [nI_leI (by omega) (by omega)] at g
        rw [ovV_z g] at hqt
        exact hqt
      · rw [nI_leI (by omega) (by omega)] at g
        have hlt : t < nT := by omega
        rw [ovV_s hlt] at hqt
        rw [nI_1]
        refine tripAt_x hA hB (fun h => absurd h (nb_no hlt h600)) (fun t' ht' hp' => ⟨fun z => (by cases z), fun q eq x9 e9 => ?_⟩)
        cases eq
        have : t' = t := by
          rw [nI_eq (by omega) (by omega)] at hp'
          exact hp'.symm
        subst this
        have hTR := h3 t' ht'
        rw [hTR.2.1] at e9
        subst e9
        refine ⟨fun g2 => dueOf_x hO m1 hR hV hM hOo hA hB (fun b hb => (h1 b hb).1) hTR hN hN2 ht' ⟨fun g3 => ?_, fun g3 x3 e3 y4 e4 => ?_⟩, fun g2 => ?_⟩
        · rw [if_pos g2, if_pos g3] at hqt
          rw [Int32.add_zero]
          exact hrec _ hlt hqt
        · rw [hTR.2.2.2.1] at e3
          subst e3
          rw [if_pos g2, if_neg g3] at hqt
          have hd : ¬ duV f ad ad' am oo n p_1 t' < 0 := (duV_c hOo).elim (fun z => absurd z g3) id
          have hpd := hTR.2.2.2.2.2.2.2.2.2.1
          have hcmp : 0 < ti f (ad 54) t' - duV f ad ad' am oo n p_1 t' ↔ ¬ ti f (ad 54) t' ≤ duV f ad ad' am oo n p_1 t' := by
            have z0 : (0 : Int32).toInt = 0 := by decide
            generalize duV f ad ad' am oo n p_1 t' = dd at *
            generalize ti f (ad 54) t' = pp at *
            rw [Int32.lt_iff_toInt_lt] at hd hpd
            have i1 := Int32.toInt_lt dd
            have i2 := Int32.toInt_lt pp
            rw [Int32.lt_iff_toInt_lt, Int32.le_iff_toInt_le, fb_subI (by omega) (by omega)]
            omega
          by_cases g4 : ti f (ad 54) t' ≤ duV f ad ad' am oo n p_1 t'
          · rw [if_pos g4] at hqt
            rw [if_neg (fun z => hcmp.mp z g4)] at e4
            subst e4
            rw [Int32.add_zero]
            exact hrec _ hlt hqt
          · rw [if_neg g4] at hqt
            rw [if_pos (hcmp.mpr g4)] at e4
            subst e4
            exact hrec _ hlt hqt
        · rw [if_neg g2] at hqt
          exact hrec _ hlt hqt
    have hloop : ∀ (c t : Nat) (v : Int32), t ≤ nT → Q (ovV f ad ad' am oo n p_0 p_1 (nT - t) t v) → wpL_WM_over_w_22_5 L f q0 p_0 p_1 qm Q c v (nI t) := by
      intro c
      induction c with
      | zero => intro t v d1 d2; exact hstep (fun _ _ => True) t v d1 d2 (fun _ _ _ => trivial)
      | succ c ih => intro t v d1 d2; exact hstep _ t v d1 d2 (fun v' e1 e2 => ih _ _ (by omega) e2)
    exact hloop _ 0 0 (Nat.zero_le _) hq
  have hm' : ∀ (Q : Int32 → Prop), Q (ovV f ad ad' am oo n p_0 p_1 nT 0 0) → wpL_Md_over_w_21_7 L f q1 p_0 p_1 Q (((600 : Int32).toInt - (0 : Int32).toInt).toNat) (0 : Int32) (0 : Int32) := by
    intro Q hq
    have hstep : ∀ (rc : Int32 → Int32 → Prop) (t : Nat) (v : Int32), t ≤ nT → Q (ovV f ad ad' am oo n p_0 p_1 (nT - t) t v) → (∀ v', t < nT → Q (ovV f ad ad' am oo n p_0 p_1 (nT - (t + 1)) (t + 1) v') → rc v' (nI (t + 1))) → wpB_Md_over_w_21_7 L f q1 p_0 p_1 Q rc v (nI t) := by
      intro rc t v ht hqt hrec x8 e8
      rw [hB.2.1.2.2.2] at e8
      subst e8
      refine ⟨fun g => ?_, fun g q10 e10 x11 e11 => ?_⟩
      · rw [nI_leI (by omega) (by omega)] at g
        rw [ovV_z g] at hqt
        exact hqt
      · rw [nI_leI (by omega) (by omega)] at g
        have hlt : t < nT := by omega
        rw [ovV_s hlt] at hqt
        rw [r 49 (by decide)] at e10; cases e10
        rw [nI_clamp (by omega)] at e11
        subst e11
        rw [nI_1, nI_clamp (by omega), Int32.add_zero]
        refine ⟨fun g2 => dueOf_m hR hOo hA (h3 t hlt) h20 (by omega) ⟨fun g3 => ?_, fun g3 q15 e15 x16 e16 => ?_⟩, fun g2 => ?_⟩
        · have hz : duV f ad ad' am oo n p_1 t = -1 := (duV_c hOo).elim id (fun z => absurd g3 z)
          rw [if_pos g2, if_pos hz] at hqt
          exact hrec _ hlt hqt
        · have hz : ¬ duV f ad ad' am oo n p_1 t = -1 := by intro e; rw [e] at g3; exact g3 (by decide)
          rw [r 54 (by decide)] at e15; cases e15
          subst e16
          rw [if_pos g2, if_neg hz] at hqt
          refine ⟨fun g4 => ?_, fun g4 => ?_⟩
          · rw [if_pos g4] at hqt
            exact hrec _ hlt hqt
          · rw [if_neg g4] at hqt
            exact hrec _ hlt hqt
        · rw [if_neg g2] at hqt
          exact hrec _ hlt hqt
    have hloop : ∀ (c t : Nat) (v : Int32), t ≤ nT → Q (ovV f ad ad' am oo n p_0 p_1 (nT - t) t v) → wpL_Md_over_w_21_7 L f q1 p_0 p_1 Q c v (nI t) := by
      intro c
      induction c with
      | zero => intro t v d1 d2; exact hstep (fun _ _ => True) t v d1 d2 (fun _ _ _ => trivial)
      | succ c ih => intro t v d1 d2; exact hstep _ t v d1 d2 (fun v' e1 e2 => ih _ _ (by omega) e2)
    exact hloop _ 0 0 (Nat.zero_le _) hq
  refine hx _ _ ?_
  exact mck (fun z => absurd (hp ▸ isM_nI hm) z) (fun _ => ⟨fun z => absurd z c1, fun _ => ⟨fun z => absurd (d500.mpr z) c2, fun _ => hm' _ rfl⟩⟩)
end DUE
