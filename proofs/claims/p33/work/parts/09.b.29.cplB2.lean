section BOB
variable {L : List Nat} {f : TF} {q0 q1 : Nat} {ad : Nat → Nat} {T : Int32} {N nB nT : Nat}
theorem BR.up {f' : TF} {b c nT' : Nat} (h : BR f ad T N nT b c) (hT : nT ≤ nT') (hb : ∀ k, k ∈ [22, 23, 24, 25, 26] → ti f' (ad k) b = ti f (ad k) b) (hc : ∀ z, ti f' c z = ti f c z) (ht : ∀ k, k ∈ [48, 49, 53] → ∀ t, t < nT → ti f' (ad k) t = ti f (ad k) t) (h16 : ∀ m t, m < 40 → t < nT → ti f (ad 25) b = nI t → ti f (ad 49) t = nI m → ti f (ad 16) m = nI t → ti f' (ad 16) m = nI t) : BR f' ad T N nT' b c := by
  obtain ⟨a1, a2, a3, a4, ⟨s, hs, a5⟩, a6⟩ := h
  refine ⟨?_, ?_, ?_, ?_, ⟨s, hs, ?_⟩, ?_⟩
  · rw [hc, hb 22 (by decide)]; exact a1
  · rw [hc, hb 23 (by decide)]; exact a2
  · rw [hc, hb 24 (by decide)]; exact a3
  · rw [hc, hb 26 (by decide)]; exact a4
  · rw [hb 23 (by decide)]; exact a5
  · rw [hb 25 (by decide)]
    simp only [hc]
    rcases a6 with a6 | ⟨t, h1, h2, h3, h4, h5, h6, h7, m, h8, h9, h10, h11⟩
    · exact Or.inl a6
    · refine Or.inr ⟨t, by omega, h2, h3, h4, h5, ?_, ?_, m, h8, h9, ?_, h16 m t h8 h1 h2 h10 h11⟩
      · rw [ht 53 (by decide) t h1]; exact h6
      · rw [ht 48 (by decide) t h1]; exact h7
      · rw [ht 49 (by decide) t h1]; exact h10
theorem MR.up {f' : TF} {m nB' nT' : Nat} (h : MR f ad T nB nT m) (hB : nB ≤ nB') (hT : nT ≤ nT') (hm : ∀ k, k ∈ [16, 17] → ti f' (ad k) m = ti f (ad k) m) (hc : ti f' (ad (100 + m)) 5 = ti f (ad (100 + m)) 5 ∧ ti f' (ad (100 + m)) 6 = ti f (ad (100 + m)) 6) (ht : ∀ k, k ∈ [48, 49, 53] → ∀ t, t < nT → ti f' (ad k) t = ti f (ad k) t) (h25 : ∀ b t, b < nB → t < nT → ti f (ad 16) m = nI t → ti f (ad 48) t = nI b → ti f (ad 25) b = nI t → ti f' (ad 25) b = nI t) : MR f' ad T nB' nT' m := by
  obtain ⟨a1, a2⟩ := h
  refine ⟨by rw [hc.2, hm 17 (by decide)]; exact a1, ?_⟩
  rw [hm 16 (by decide), hc.1]
  rcases a2 with a2 | ⟨t, h1, h2, h3, h4, h5, b, h6, h7, h8⟩
  · exact Or.inl a2
  · refine Or.inr ⟨t, by omega, h2, h3, ?_, ?_, b, by omega, ?_, h25 b t h6 h1 h2 h7 h8⟩
    · rw [ht 53 (by decide) t h1]; exact h4
    · rw [ht 49 (by decide) t h1]; exact h5
    · rw [ht 48 (by decide) t h1]; exact h7
theorem TR.up {f' : TF} {t c nB' : Nat} (h : TR f ad N nB t c) (hB : nB ≤ nB') (hc : ∀ z, ti f' c z = ti f c z) (ht : ∀ k, k ∈ [48, 49, 50, 51, 52, 53, 54, 55] → ti f' (ad k) t = ti f (ad k) t) : TR f' ad N nB' t c := by
  obtain ⟨a1, a2, a3, a4, a5, a6, a7, a8, ⟨b, hb, a9⟩, a54, s, s', s1, s2, s3, s4, s5⟩ := h
  refine ⟨?_, ?_, ?_, ?_, ?_, ?_, ?_, ?_, ⟨b, by omega, ?_⟩, by rw [ht 54 (by decide)]; exact a54, s, s', s1, s2, s3, ?_, ?_⟩
  · rw [hc, ht 48 (by decide)]; exact a1
  · rw [hc, ht 49 (by decide)]; exact a2
  · rw [hc, ht 52 (by decide)]; exact a3
  · rw [hc, ht 54 (by decide)]; exact a4
  · rw [hc, ht 50 (by decide)]; exact a5
  · rw [hc, ht 51 (by decide)]; exact a6
  · rw [hc, ht 53 (by decide)]; exact a7
  · rw [hc, ht 55 (by decide)]; exact a8
  · rw [ht 48 (by decide)]; exact a9
  · rw [ht 50 (by decide)]; exact s4
  · rw [ht 51 (by decide)]; exact s5
theorem pr_trip (hA : Ad f q0 q1 ad) (hK : K3 f q0 q1 ad T N) (p_0 p_1 : Int32) : wp_WM_trip_w L f q0 p_0 p_1 (fun r => wp_Md_trip_w L f q1 p_0 p_1 (fun r' => r = r')) := by
  obtain ⟨bt, tp, nB, nT, hB, h1, h2, h3⟩ := hK
  have r := hA.2.2.2
  have h600 := hB.1.2
  refine tripAt_x hA hB (fun h => ⟨fun _ x1 e1 => ?_, fun q z => (by cases z)⟩) (fun t ht hp => ⟨fun z => (by cases z), fun q eq => ?_⟩)
  · rw [hB.2.1.2.2.2] at e1
    subst e1
    exact ⟨fun _ => rfl, fun k => ⟨fun _ => rfl, fun k' => (h.elim (fun z => absurd z k) (fun z => absurd z k'))⟩⟩
  · cases eq
    subst hp
    obtain ⟨a1, a2, a3, a4, a5, a6, a7, a8, -, -⟩ := h3 t ht
    have hno := nb_no ht h600
    have go : ∀ (v : Int32), ((p_1 = 0 → v = ti f (tp t) 0) ∧ (p_1 = 1 → v = ti f (tp t) 1) ∧ (p_1 = 2 → v = ti f (tp t) 4) ∧ (p_1 = 3 → v = ti f (tp t) 5) ∧ (p_1 = 4 → v = ti f (tp t) 2) ∧ (p_1 = 5 → v = ti f (tp t) 6) ∧ (p_1 = 6 → v = ti f (tp t) 3) ∧ (p_1 = 7 → (ti f (tp t) 7 = 0 → v = 0) ∧ (¬ ti f (tp t) 7 = 0 → v = 1)) ∧ (¬ p_1 = 0 → ¬ p_1 = 1 → ¬ p_1 = 2 → ¬ p_1 = 3 → ¬ p_1 = 4 → ¬ p_1 = 5 → ¬ p_1 = 6 → ¬ p_1 = 7 → v = -2)) → wp_Md_trip_w L f q1 (nI t) p_1 (fun r' => v = r') := by
      intro v ⟨v0, v1, v2, v3, v4, v5, v6, v7, v8⟩ x1 e1
      rw [hB.2.1.2.2.2] at e1
      subst e1
      rw [nI_clamp (by omega)]
      refine ⟨fun k => absurd (Or.inl k) hno, fun _ => ⟨fun k => absurd (Or.inr k) hno, fun _ => ⟨fun e q6 e6 x7 e7 => ?_, fun c0 => ⟨fun e q6 e6 x7 e7 => ?_, fun c1 => ⟨fun e q6 e6 x7 e7 => ?_, fun c2 => ⟨fun e q6 e6 x7 e7 => ?_, fun c3 => ⟨fun e q6 e6 x7 e7 => ?_, fun c4 => ⟨fun e q6 e6 x7 e7 => ?_, fun c5 => ⟨fun e q6 e6 x7 e7 => ?_, fun c6 => ⟨fun e q6 e6 x7 e7 => ?_, fun c7 => v8 c0 c1 c2 c3 c4 c5 c6 c7⟩⟩⟩⟩⟩⟩⟩⟩⟩⟩
      · rw [r 48 (by decide)] at e6; cases e6; exact (v0 e).trans (a1.trans e7)
      · rw [r 49 (by decide)] at e6; cases e6; exact (v1 e).trans (a2.trans e7)
      · rw [r 50 (by decide)] at e6; cases e6; exact (v2 e).trans (a5.trans e7)
      · rw [r 51 (by decide)] at e6; cases e6; exact (v3 e).trans (a6.trans e7)
      · rw [r 52 (by decide)] at e6; cases e6; exact (v4 e).trans (a3.trans e7)
      · rw [r 53 (by decide)] at e6; cases e6; exact (v5 e).trans (a7.trans e7)
      · rw [r 54 (by decide)] at e6; cases e6; exact (v6 e).trans (a4.trans e7)
      · rw [r 55 (by decide)] at e6; cases e6
        subst e7
        rw [a8] at v7
        exact ⟨fun k => (v7 e).1 k, fun k => (v7 e).2 k⟩
    have ne : ∀ {x y : Int32}, p_1 = x → ¬ x = y → ¬ p_1 = y := fun h1 h2 h3 => h2 (h1.symm.trans h3)
    refine ⟨fun e x ex => ?_, fun c0 => ⟨fun e x ex => ?_, fun c1 => ⟨fun e x ex => ?_, fun c2 => ⟨fun e x ex => ?_, fun c3 => ⟨fun e x ex => ?_, fun c4 => ⟨fun e x ex => ?_, fun c5 => ⟨fun e x ex => ?_, fun c6 => ⟨fun e x ex => ?_, fun c7 => ?_⟩⟩⟩⟩⟩⟩⟩⟩
    · subst ex; exact go _ ⟨fun _ => rfl, fun k => absurd k (ne e (by decide)), fun k => absurd k (ne e (by decide)), fun k => absurd k (ne e (by decide)), fun k => absurd k (ne e (by decide)), fun k => absurd k (ne e (by decide)), fun k => absurd k (ne e (by decide)), fun k => absurd k (ne e (by decide)), fun k => absurd e k⟩
    · subst ex; exact go _ ⟨fun k => absurd k c0, fun _ => rfl, fun k => absurd k (ne e (by decide)), fun k => absurd k (ne e (by decide)), fun k => absurd k (ne e (by decide)), fun k => absurd k (ne e (by decide)), fun k => absurd k (ne e (by decide)), fun k => absurd k (ne e (by decide)), fun _ k => absurd e k⟩
    · subst ex; exact go _ ⟨fun k => absurd k c0, fun k => absurd k c1, fun _ => rfl, fun k => absurd k (ne e (by decide)), fun k => absurd k (ne e (by decide)), fun k => absurd k (ne e (by decide)), fun k => absurd k (ne e (by decide)), fun k => absurd k (ne e (by decide)), fun _ _ k => absurd e k⟩
    · subst ex; exact go _ ⟨fun k => absurd k c0, fun k => absurd k c1, fun k => absurd k c2, fun _ => rfl, fun k => absurd k (ne e (by decide)), fun k => absurd k (ne e (by decide)), fun k => absurd k (ne e (by decide)), fun k => absurd k (ne e (by decide)), fun _ _ _ k => absurd e k⟩
    · subst ex; exact go _ ⟨fun k => absurd k c0, fun k => absurd k c1, fun k => absurd k c2, fun k => absurd k c3, fun _ => rfl, fun k => absurd k (ne e (by decide)), fun k => absurd k (ne e (by decide)), fun k => absurd k (ne e (by decide)), fun _ _ _ _ k => absurd e k⟩
    · subst ex; exact go _ ⟨fun k => absurd k c0, fun k => absurd k c1, fun k => absurd k c2, fun k => absurd k c3, fun k => absurd k c4, fun _ => rfl, fun k => absurd k (ne e (by decide)), fun k => absurd k (ne e (by decide)), fun _ _ _ _ _ k => absurd e k⟩
    · subst ex; exact go _ ⟨fun k => absurd k c0, fun k => absurd k c1, fun k => absurd k c2, fun k => absurd k c3, fun k => absurd k c4, fun k => absurd k c5, fun _ => rfl, fun k => absurd k (ne e (by decide)), fun _ _ _ _ _ _ k => absurd e k⟩
    · subst ex
      exact ⟨fun z => go _ ⟨fun k => absurd k c0, fun k => absurd k c1, fun k => absurd k c2, fun k => absurd k c3, fun k => absurd k c4, fun k => absurd k c5, fun k => absurd k c6, fun _ => ⟨fun _ => rfl, fun k => absurd z k⟩, fun _ _ _ _ _ _ _ k => absurd e k⟩, fun z => go _ ⟨fun k => absurd k c0, fun k => absurd k c1, fun k => absurd k c2, fun k => absurd k c3, fun k => absurd k c4, fun k => absurd k c5, fun k => absurd k c6, fun _ => ⟨fun k => absurd k z, fun _ => rfl⟩, fun _ _ _ _ _ _ _ k => absurd e k⟩⟩
    · exact go _ ⟨fun k => absurd k c0, fun k => absurd k c1, fun k => absurd k c2, fun k => absurd k c3, fun k => absurd k c4, fun k => absurd k c5, fun k => absurd k c6, fun k => absurd k c7, fun _ _ _ _ _ _ _ _ => rfl⟩
theorem pr_boat (hO : Ok L f) (m0 : q0 ∈ L ∧ tk f q0 = 0) (m1 : q1 ∈ L ∧ tk f q1 = 27) (hC : Cpl L f q0 q1) (hA : Ad f q0 q1 ad) (hK : K3 f q0 q1 ad (ti f q1 1) (ti f q1 2).toNatClampNeg) (p_0 p_1 : Int32) : wp_WM_boat_w L f q0 p_0 p_1 (PairG (fun _ g => K3 g q0 q1 ad (ti f q1 1) (ti f q1 2).toNatClampNeg) q0 q1 (fun L f Q => wp_Md_boat_w L f q1 p_0 p_1 Q)) := by
  obtain ⟨ad', hR, hV⟩ := id hC
  have hStn : ∀ p, St f q1 p → ∃ s, s < (ti f q1 2).toNatClampNeg ∧ p = nI s := fun p h => h.n hO m1
  have im := hA.m hO m1
  have r := hA.2.2.2
  have hT0 : ¬ ti f q1 1 < 0 := (hO.i m1 (show slotD 27 1 = some (.inl (0, 359999)) from rfl)).1
  generalize hNN : (ti f q1 2).toNatClampNeg = N at *
  generalize hTT : ti f q1 1 = T at *
  obtain ⟨bt, tp, nB, nT, hB, h1, h2, h3⟩ := id hK
  have h20 := hB.1.1
  have hbad : (¬ (¬ p_0 < 1 ∧ ¬ 2 < p_0) ∨ ¬ St f q1 p_1) → PairG (fun _ g => K3 g q0 q1 ad T N) q0 q1 (fun L f Q => wp_Md_boat_w L f q1 p_0 p_1 Q) (-1) L f := by
    intro h _ _ _
    refine ⟨fun _ _ => ⟨rfl, hK⟩, fun k1 => ⟨fun _ _ => ⟨rfl, hK⟩, fun k2 => isSt_m (fun _ => ⟨fun _ _ => ⟨rfl, hK⟩, fun k => absurd k (by decide)⟩) (fun g => h.elim (fun z => absurd ⟨k1, k2⟩ z) (fun z => absurd g z))⟩⟩
  have hmain : (¬ p_0 < 1 ∧ ¬ 2 < p_0) → ∀ q_3 : Nat, tr f q0 0 = some q_3 → wp_Rv_hasStairs_w L f q_3 p_1 (fun (r_4 : Int32) => ((r_4 = 0 → PairG (fun _ g => K3 g q0 q1 ad T N) q0 q1 (fun L f Q => wp_Md_boat_w L f q1 p_0 p_1 Q) (-1) L f) ∧ (r_4 = 1 → ∀ x_7 : Int32, ti f q0 7 = x_7 → ((x_7 < 20 → ∀ q_9 : Nat, tr f q0 2 = some q_9 → ∀ (q_n1 : Nat) (L_1 : List Nat) (f_1 : TF), q_n1 ∉ L → L_1 = L ++ [q_n1] → f_1 = nC f q_n1 24 → Ok L_1 f_1 → wp_Bt_init_w L_1 f_1 q_n1 p_0 p_1 (fun (L_2 : List Nat) (f_2 : TF) => Ok L_2 f_2 → Ext W_Bt_init_w L_1 f_1 L_2 f_2 → ∀ f_3 : TF, f_3 = sR f_2 q_9 (x_7 : Int32).toNatClampNeg q_n1 → Ok L_2 f_3 → ∀ f_4 : TF, f_4 = sI f_3 q0 7 (x_7 + 1) → Ok L_2 f_4 → PairG (fun _ g => K3 g q0 q1 ad T N) q0 q1 (fun L f Q => wp_Md_boat_w L f q1 p_0 p_1 Q) ((x_7 + 1) - 1) L_2 f_4)) ∧ (¬ (x_7 < 20) → PairG (fun _ g => K3 g q0 q1 ad T N) q0 q1 (fun L f Q => wp_Md_boat_w L f q1 p_0 p_1 Q) (-3) L f))))) := by
    intro ho q3 e3
    rw [hR.1] at e3; cases e3
    refine isSt_x hO m1 hV (fun g => ⟨fun _ => hbad (Or.inr g), fun z => absurd z (by decide)⟩) (fun hs => ⟨fun z => absurd z (by decide), fun _ x7 e7 => ?_⟩)
    rw [hB.2.1.1] at e7
    subst e7
    refine ⟨fun g20 q9 e9 qn L1 f1 hqn hL1 hf1 hO1 g1 hg1 hOg1 g2 hg2 hOg2 g3 hg3 hOg3 g4 hg4 hOg4 _ _ f3 hf3 hO3 f4 hf4 hO4 _ m0' m1' => ?_, fun g20 _ _ _ => ?_⟩
    rotate_left
    · rw [show (20 : Int32) = nI 20 from rfl, nI_ltI (by omega) (by decide)] at g20
      refine ⟨fun k => absurd k ho.1, fun _ => ⟨fun k => absurd k ho.2, fun _ => isSt_m (fun g => absurd hs g) (fun _ => ⟨fun k => absurd k (by decide), fun _ x8 e8 => ?_⟩)⟩⟩
      rw [hB.2.1.2.1] at e8
      subst e8
      have : nB = 20 := by omega
      subst this
      exact ⟨fun _ _ => ⟨rfl, hK⟩, fun k => absurd rfl k⟩
    rw [show (20 : Int32) = nI 20 from rfl, nI_ltI (by omega) (by decide)] at g20
    rw [hA.1.2.2.1] at e9; cases e9
    rw [nI_clamp (by omega)] at hf3
    rw [nI_1] at hf4 ⊢
    have i66 := hA.boats hO m0
    have nqn : ∀ c, c ∈ L → c ≠ qn := fun c hc e => hqn (e ▸ hc)
    have oi : ∀ c z, c ∈ L → ti f4 c z = if c = q0 ∧ z = 7 then nI (nB + 1) else ti f c z := fun c z hc => by
      rw [hf4, ti_sI, hf3, ti_sR, hg4, ti_sI_ne (nqn c hc), hg3, ti_sI_ne (nqn c hc), hg2, ti_sI_ne (nqn c hc), hg1, ti_sI_ne (nqn c hc), hf1, ti_nC (nqn c hc)]
    have orr : ∀ c z, c ∈ L → tr f4 c z = if c = ad 66 ∧ z = nB then some qn else tr f c z := fun c z hc => by
      rw [hf4, tr_sI, hf3, tr_sR, hg4, tr_sI, hg3, tr_sI, hg2, tr_sI, hg1, tr_sI, hf1, tr_nC (nqn c hc)]
    have nq0 : qn ≠ q0 := (nqn q0 m0.1).symm
    have v0 : ti f4 qn 0 = p_0 := by rw [hf4, ti_sI_ne nq0, hf3, ti_sR, hg4, ti_sI_nj (by decide), hg3, ti_sI_eq]
    have v1 : ti f4 qn 1 = p_1 := by rw [hf4, ti_sI_ne nq0, hf3, ti_sR, hg4, ti_sI_eq]
    have v2 : ti f4 qn 2 = 0 := by rw [hf4, ti_sI_ne nq0, hf3, ti_sR, hg4, ti_sI_nj (by decide), hg3, ti_sI_nj (by decide), hg2, ti_sI_nj (by decide), hg1, ti_sI_nj (by decide), hf1, ti_nC_eq]
    have v5 : ti f4 qn 5 = 0 := by rw [hf4, ti_sI_ne nq0, hf3, ti_sR, hg4, ti_sI_nj (by decide), hg3, ti_sI_nj (by decide), hg2, ti_sI_nj (by decide), hg1, ti_sI_nj (by decide), hf1, ti_nC_eq]
    have iR : ∀ k, k ∈ RK → ad k ∈ L := fun k hk => (im k hk).1
    have nR0 : ∀ k, k ∈ RK → ad k ≠ q0 := fun k hk => ne_tk (im k hk).2 m0.2 (by have := kd_ge k; omega)
    have oR : ∀ k, k ∈ RK → ∀ z, ti f4 (ad k) z = ti f (ad k) z := fun k hk z => by rw [oi _ _ (iR k hk), if_neg (fun h => nR0 k hk h.1)]
    have n10 : q1 ≠ q0 := ne_tk m1.2 m0.2 (by decide)
    have o1 : ∀ z, ti f4 q1 z = ti f q1 z := fun z => by rw [oi _ _ m1.1, if_neg (fun h => n10 h.1)]
    have n166 : q1 ≠ ad 66 := ne_tk m1.2 i66.2 (by decide)
    have r1 : ∀ z, tr f4 q1 z = tr f q1 z := fun z => by rw [orr _ _ m1.1, if_neg (fun h => n166 h.1)]
    have hs4 : St f4 q1 p_1 := by unfold St; rw [o1]; exact hs
    refine ⟨fun k => absurd k ho.1, fun _ => ⟨fun k => absurd k ho.2, fun _ => isSt_m (fun g => absurd hs4 g) (fun _ => ⟨fun k => absurd k (by decide), fun _ x8 e8 => ?_⟩)⟩⟩
    rw [o1, hB.2.1.2.1] at e8
    subst e8
    refine ⟨fun k => ?_, fun _ qa ea h1' hh1 _ qb eb h2' hh2 _ qc ec h3' hh3 _ qd ed h4' hh4 _ h5' hh5 hO5 _ => ?_⟩
    · rw [show (20 : Int32) = nI 20 from rfl, nI_eq (by omega) (by decide)] at k; omega
    rw [r1, r 22 (by decide)] at ea; cases ea
    rw [hh1, tr_sI, r1, r 23 (by decide)] at eb; cases eb
    rw [hh2, tr_sI, hh1, tr_sI, r1, r 24 (by decide)] at ec; cases ec
    rw [hh3, tr_sI, hh2, tr_sI, hh1, tr_sI, r1, r 25 (by decide)] at ed; cases ed
    rw [nI_clamp (by omega)] at hh1 hh2 hh3 hh4
    rw [nI_1] at hh5 ⊢
    have ne : ∀ k k', k ∈ RK → k' ∈ RK → kd k ≠ kd k' → ad k ≠ ad k' := fun k k' hk hk' h => ne_tk (im k hk).2 (im k' hk').2 h
    have nR1 : ∀ k, k ∈ RK → ad k ≠ q1 := fun k hk => ne_tk (im k hk).2 m1.2 (by
      unfold kd
      unfold RK at hk
      simp only [List.mem_cons, List.not_mem_nil, or_false] at hk
      repeat' split
      all_goals omega)
    have w : ∀ k, k ∈ RK → ∀ z, z ≠ nB → ti h5' (ad k) z = ti f (ad k) z := fun k hk z hz => by
      rw [hh5, ti_sI_ne (nR1 k hk), hh4, ti_sI_nj hz, hh3, ti_sI_nj hz, hh2, ti_sI_nj hz, hh1, ti_sI_nj hz]; exact oR k hk z
    have wo : ∀ k, k ∈ RK → kd k ≠ 45 → kd k ≠ 46 → kd k ≠ 47 → kd k ≠ 48 → ∀ z, ti h5' (ad k) z = ti f (ad k) z := fun k hk x1 x2 x3 x4 z => by
      rw [hh5, ti_sI_ne (nR1 k hk), hh4, ti_sI_ne (ne k 25 hk (by decide) x4), hh3, ti_sI_ne (ne k 24 hk (by decide) x3), hh2, ti_sI_ne (ne k 23 hk (by decide) x2), hh1, ti_sI_ne (ne k 22 hk (by decide) x1)]; exact oR k hk z
    have wc : ∀ c, c ∈ L → (∀ k, k ∈ RK → c ≠ ad k) → c ≠ q1 → ∀ z, ti h5' c z = ti f4 c z := fun c _ hc h1 z => by
      rw [hh5, ti_sI_ne h1, hh4, ti_sI_ne (hc 25 (by decide)), hh3, ti_sI_ne (hc 24 (by decide)), hh2, ti_sI_ne (hc 23 (by decide)), hh1, ti_sI_ne (hc 22 (by decide))]
    have wn : ∀ z, ti h5' qn z = ti f4 qn z := fun z => by
      have hc : ∀ k, k ∈ RK → qn ≠ ad k := fun k hk => (nqn _ (iR k hk)).symm
      rw [hh5, ti_sI_ne (nqn q1 m1.1).symm, hh4, ti_sI_ne (hc 25 (by decide)), hh3, ti_sI_ne (hc 24 (by decide)), hh2, ti_sI_ne (hc 23 (by decide)), hh1, ti_sI_ne (hc 22 (by decide))]
    have rr : ∀ c z, tr h5' c z = tr f4 c z := fun c z => by rw [hh5, tr_sI, hh4, tr_sI, hh3, tr_sI, hh2, tr_sI, hh1, tr_sI]
    have ib := fun b (hb : b < nB) => hB.bm hA hO m0 hb
    have it := fun t (ht : t < nT) => hB.tm hA hO m0 ht
    have kc : ∀ c k, c ∈ L → tk f c = k → k < 24 ∨ k = 24 ∨ k = 25 → k ≠ 0 → ∀ z, ti h5' c z = ti f c z := fun c k hc hk hlt h0 z => by
      rw [wc c hc (fun k' hk' => ne_tk hk (im k' hk').2 (by
        have := kd_ge k'
        unfold kd at this ⊢
        unfold RK at hk'
        simp only [List.mem_cons, List.not_mem_nil, or_false] at hk'
        repeat' split
        all_goals omega)) (ne_tk hk m1.2 (by omega)), oi _ _ hc, if_neg (fun h => ne_tk hk m0.2 h0 h.1)]
    have w22 : ti h5' (ad 22) nB = p_0 := by rw [hh5, ti_sI_ne (nR1 22 (by decide)), hh4, ti_sI_ne (ne 22 25 (by decide) (by decide) (by decide)), hh3, ti_sI_ne (ne 22 24 (by decide) (by decide) (by decide)), hh2, ti_sI_ne (ne 22 23 (by decide) (by decide) (by decide)), hh1, ti_sI_eq]
    have w23 : ti h5' (ad 23) nB = p_1 := by rw [hh5, ti_sI_ne (nR1 23 (by decide)), hh4, ti_sI_ne (ne 23 25 (by decide) (by decide) (by decide)), hh3, ti_sI_ne (ne 23 24 (by decide) (by decide) (by decide)), hh2, ti_sI_eq]
    have w24 : ti h5' (ad 24) nB = 0 := by rw [hh5, ti_sI_ne (nR1 24 (by decide)), hh4, ti_sI_ne (ne 24 25 (by decide) (by decide) (by decide)), hh3, ti_sI_eq]
    have w25 : ti h5' (ad 25) nB = -1 := by rw [hh5, ti_sI_ne (nR1 25 (by decide)), hh4, ti_sI_eq]
    have w26 : ∀ z, ti h5' (ad 26) z = ti f (ad 26) z := wo 26 (by decide) (by decide) (by decide) (by decide) (by decide)
    obtain ⟨⟨c1, c2⟩, ⟨c3, c4, c5, c6⟩, c7, c8, c9, c10, c11⟩ := id hB
    refine ⟨rfl, upM nB qn bt, tp, nB + 1, nT, ⟨⟨by omega, c2⟩, ⟨?_, ?_, ?_, ?_⟩, fun b hb => ?_, fun b b' hb hb' e => ?_, fun t ht => ?_, c10, fun b hb hb' => ?_⟩, fun b hb => ?_, fun m hm => ?_, fun t ht => ?_⟩
    · rw [wc q0 m0.1 (fun k hk => (nR0 k hk).symm) n10.symm, hf4, ti_sI_eq]
    · rw [hh5, ti_sI_eq]
    · rw [wc q0 m0.1 (fun k hk => (nR0 k hk).symm) n10.symm, oi _ _ m0.1, if_neg (fun h => absurd h.2 (by decide))]; exact c5
    · rw [hh5, ti_sI_nj (by decide), hh4, ti_sI_ne (nR1 25 (by decide)).symm, hh3, ti_sI_ne (nR1 24 (by decide)).symm, hh2, ti_sI_ne (nR1 23 (by decide)).symm, hh1, ti_sI_ne (nR1 22 (by decide)).symm, o1]; exact c6
    · rw [rr, orr _ _ i66.1]
      by_cases e : b = nB
      · subst e; rw [if_pos ⟨rfl, rfl⟩, upM_y]
      · rw [if_neg (fun h => e h.2), upM_n e]; exact c7 b (by omega)
    · by_cases e1 : b = nB
      · by_cases e2 : b' = nB
        · omega
        · subst e1
          rw [upM_y, upM_n e2] at e
          exact absurd e.symm (nqn _ (ib b' (by omega)).1)
      · by_cases e2 : b' = nB
        · subst e2
          rw [upM_y, upM_n e1] at e
          exact absurd e (nqn _ (ib b (by omega)).1)
        · rw [upM_n e1, upM_n e2] at e
          exact c8 b b' (by omega) (by omega) e
    · have i67 := hA.trips hO m0
      rw [rr, orr _ _ i67.1, if_neg (fun h => ne_tk i67.2 i66.2 (by decide) h.1)]; exact c9 t ht
    · rw [w26]; exact c11 b (by omega) hb'
    · by_cases e : b = nB
      · subst e
        rw [upM_y]
        obtain ⟨s, hsN, hs'⟩ := hStn p_1 hs
        refine ⟨?_, ?_, ?_, ?_, ⟨s, hsN, ?_⟩, Or.inl ⟨w25, Or.inr ?_⟩⟩
        · rw [wn, v0, w22]
        · rw [wn, v1, w23]
        · rw [wn, v2, w24]
        · rw [wn, v5, w26]; exact (c11 b (Nat.le_refl _) g20).symm
        · rw [w23]; exact hs'
        · rw [wn, v2]; exact le0.mpr hT0
      · rw [upM_n e]
        have hb' : b < nB := by omega
        refine (h1 b hb').up (Nat.le_refl _) (fun k hk => w k ?_ b e) (kc _ _ (ib b hb').1 (ib b hb').2 (Or.inr (Or.inl rfl)) (by decide)) (fun k hk t ht => wo k ?_ ?_ ?_ ?_ ?_ t) (fun m t hm ht _ _ hw => by rw [wo 16 (by decide) (by decide) (by decide) (by decide) (by decide)]; exact hw)
        all_goals (simp only [List.mem_cons, List.not_mem_nil, or_false] at hk)
        · rcases hk with rfl | rfl | rfl | rfl | rfl <;> decide
        · rcases hk with rfl | rfl | rfl <;> decide
        · rcases hk with rfl | rfl | rfl <;> decide
        · rcases hk with rfl | rfl | rfl <;> decide
        · rcases hk with rfl | rfl | rfl <;> decide
        · rcases hk with rfl | rfl | rfl <;> decide
    · have iM := hA.man hO m0 hm
      refine (h2 m hm).up (by omega) (Nat.le_refl _) (fun k hk => wo k ?_ ?_ ?_ ?_ ?_ m) ⟨kc _ _ iM.1 iM.2 (Or.inl (by decide)) (by decide) 5, kc _ _ iM.1 iM.2 (Or.inl (by decide)) (by decide) 6⟩ (fun k hk t ht => wo k ?_ ?_ ?_ ?_ ?_ t) (fun b t hb ht _ _ hw => by rw [w 25 (by decide) b (by omega)]; exact hw)
      all_goals (simp only [List.mem_cons, List.not_mem_nil, or_false] at hk)
      · rcases hk with rfl | rfl <;> decide
      · rcases hk with rfl | rfl <;> decide
      · rcases hk with rfl | rfl <;> decide
      · rcases hk with rfl | rfl <;> decide
      · rcases hk with rfl | rfl <;> decide
      · rcases hk with rfl | rfl | rfl <;> decide
      · rcases hk with rfl | rfl | rfl <;> decide
      · rcases hk with rfl | rfl | rfl <;> decide
      · rcases hk with rfl | rfl | rfl <;> decide
      · rcases hk with rfl | rfl | rfl <;> decide
    · refine (h3 t ht).up (by omega) (kc _ _ (it t ht).1 (it t ht).2 (Or.inr (Or.inr rfl)) (by decide)) (fun k hk => wo k ?_ ?_ ?_ ?_ ?_ t)
      all_goals (simp only [List.mem_cons, List.not_mem_nil, or_false] at hk)
      · rcases hk with rfl | rfl | rfl | rfl | rfl | rfl | rfl | rfl <;> decide
      · rcases hk with rfl | rfl | rfl | rfl | rfl | rfl | rfl | rfl <;> decide
      · rcases hk with rfl | rfl | rfl | rfl | rfl | rfl | rfl | rfl <;> decide
      · rcases hk with rfl | rfl | rfl | rfl | rfl | rfl | rfl | rfl <;> decide
      · rcases hk with rfl | rfl | rfl | rfl | rfl | rfl | rfl | rfl <;> decide
  exact ⟨fun e => hmain (oars12.mp (Or.inl e)), fun e1 => ⟨fun e => hmain (oars12.mp (Or.inr e)), fun e2 => hbad (Or.inl (fun z => (oars12.mpr z).elim e1 e2))⟩⟩
end BOB
