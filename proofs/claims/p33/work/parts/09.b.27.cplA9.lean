section JOI
variable {L : List Nat} {f : TF} {q0 q1 : Nat} {ad : Nat → Nat} {N : Nat} {ql : Nat → List Nat}
/-- how many stairs -/
theorem nst (hO : Ok L f) (m1 : q1 ∈ L ∧ tk f q1 = 27) : ti f q1 2 = nI (ti f q1 2).toNatClampNeg ∧ (ti f q1 2).toNatClampNeg ≤ 12 := by
  obtain ⟨h1, h2⟩ := hO.i m1 (show slotD 27 2 = some (.inl (0, 12)) from rfl)
  obtain ⟨n, hn, e⟩ := nI_of2 (M := 12) (n := 12) (by decide) h1 (by rw [Int32.lt_iff_toInt_lt] at h2; rw [Int32.le_iff_toInt_le]; omega)
  rw [e, nI_clamp (by omega)]
  exact ⟨rfl, hn⟩
theorem St.n (hO : Ok L f) (m1 : q1 ∈ L ∧ tk f q1 = 27) {p : Int32} (h : St f q1 p) : ∃ s, s < (ti f q1 2).toNatClampNeg ∧ p = nI s := by
  have h1 := h.nat hO m1
  have h2 := nst hO m1
  refine ⟨p.toNatClampNeg, h1, ?_⟩
  rw [← Int32.toInt_inj, nI_toInt (by omega)]
  exact (i32_nat h.1).symm
theorem pr_leave (hO : Ok L f) (m0 : q0 ∈ L ∧ tk f q0 = 0) (m1 : q1 ∈ L ∧ tk f q1 = 27) (hA : Ad f q0 q1 ad) {j : Nat} (hK : K2 f q0 ad (ti f q1 2).toNatClampNeg j) (p_0 : Int32) : wp_WM_leave_w L f q0 p_0 (PairG (fun _ g => K2 g q0 ad (ti f q1 2).toNatClampNeg j) q0 q1 (fun L f Q => wp_Md_leave_w L f q1 p_0 Q)) := by
  obtain ⟨hN, hN2⟩ := nst hO m1
  have im := hA.m hO m1
  generalize (ti f q1 2).toNatClampNeg = N at *
  obtain ⟨ql, J, a1, a2, a3, a4, a5, a6⟩ := id hK
  have hin : ∀ s m, s < 12 → m ∈ ql s → s < N := fun s m hs hm => Classical.byContradiction fun k => by
    rw [a5 s hs (by omega)] at hm
    cases hm
  refine manAt_x hA (fun h => ⟨fun _ _ _ _ => mck (fun _ _ => ⟨rfl, hK⟩) (fun k => absurd k h), fun q z => (by cases z)⟩) (fun m hm hp => ⟨fun z => (by cases z), fun q eq x2 e2 => ?_⟩)
  subst hp
  cases eq
  subst e2
  refine ⟨fun e _ _ _ => ?_, fun e f1 hf1 hO1 _ m0' m1' => ?_⟩
  · refine mck (fun k => absurd (isM_nI hm) k) (fun _ => rowOf_m hA a4 (fun s hs x hx => (a3.1 s hs x hx).1) hN hN2 hm (fun _ => ⟨fun _ _ => ⟨rfl, hK⟩, fun k => absurd rfl k⟩) (fun s hs hx => ?_))
    rw [(a3.1 s (by omega) m hx).2] at e
    exact absurd e (m1_nI (by omega))
  · obtain ⟨s0, hs0, hx0⟩ : ∃ s, s < 12 ∧ m ∈ ql s := by
      rcases a3.2.1 m hm with g | g
      · exact absurd g e
      · exact g
    have iM := hA.man hO m0 hm
    have r1 : ∀ c z, tr f1 c z = tr f c z := fun c z => by rw [hf1, tr_sI]
    have i1 : ∀ c k z, tk f c = k → k ≠ 20 → ti f1 c z = ti f c z := fun c k z hc hk => by rw [hf1, ti_sI_ne (ne_tk hc iM.2 hk)]
    have hA1 : Ad f1 q0 q1 ad := hA.same (fun z => r1 _ z) (fun z => r1 _ z) (fun z => r1 _ z)
    have hT1 : TM f1 ad ql := a4.keep (fun z => i1 _ _ z (im 19 (by decide)).2 (by decide)) (fun z => i1 _ _ z (im 20 (by decide)).2 (by decide))
    have hN1 : ti f1 q1 2 = nI N := by rw [i1 _ _ _ m1.2 (by decide)]; exact hN
    refine mck (fun k => absurd (isM_nI hm) k) (fun _ => rowOf_m hA1 hT1 (fun s hs x hx => (a3.1 s hs x hx).1) hN1 hN2 hm (fun h => absurd hx0 (h s0 (hin s0 m hs0 hx0))) (fun s hs hx => ⟨fun k => absurd k (m1_nI (by omega)), fun _ => ?_⟩))
    refine leaves_m hA1 hO1 m1' hT1 (fun s hs x hx => (a3.1 s hs x hx).1) (fun s s' hs hs' h h' => a3.one hs hs' h h') (fun s k k' hs hk hk' e => a3.inj hs hk hk' e) hN1 hN2 hm (fun h => absurd hx0 (h s0 (hin s0 m hs0 hx0))) (fun s k f' hs hk hk2 hT' hF => ?_)
    intro _ _ _
    refine ⟨rfl, upQ ql s ((ql s).eraseIdx k), J, a1, ?_, ?_, hT', fun s' hs' hn => ?_, fun s' hs' x hx => ?_⟩
    · rw [hF.1 _ _ (ne_tk m0.2 (im 19 (by decide)).2 (by decide)) (ne_tk m0.2 (im 20 (by decide)).2 (by decide)), i1 _ _ _ m0.2 (by decide)]; exact a2
    · have hM : ∀ m', m' < 40 → ∀ z, ti f' (ad (100 + m')) z = ti f1 (ad (100 + m')) z := fun m' hm' z => hF.1 _ _ (ne_tk (hA.man hO m0 hm').2 (im 19 (by decide)).2 (by decide)) (ne_tk (hA.man hO m0 hm').2 (im 20 (by decide)).2 (by decide))
      refine a3.out (by omega) hk hk2 ?_ (fun m' hm' hne => ?_) (fun m' hm' => ?_)
      · rw [hM m hm, hf1, ti_sI_eq]
      · rw [hM m' hm', hf1, ti_sI_ne (fun e => hne (hA.2.2.1 m' m hm' hm e))]
      · rw [hM m' hm', hf1, ti_sI_nj (by decide)]
    · have : s' ≠ s := by omega
      rw [upQ_n this]; exact a5 s' hs' hn
    · have hx' : x ∈ ql s' := by
        by_cases es : s' = s
        · subst es
          rw [upQ_y] at hx
          exact List.mem_of_mem_eraseIdx hx
        · rw [upQ_n es] at hx; exact hx
      have hx40 := (a3.1 s' hs' x hx').1
      rw [hF.1 _ _ (ne_tk (hA.man hO m0 hx40).2 (im 19 (by decide)).2 (by decide)) (ne_tk (hA.man hO m0 hx40).2 (im 20 (by decide)).2 (by decide)), hf1, ti_sI_nj (by decide)]
      exact a6 s' hs' x hx'
theorem getD_app {l : List Nat} {m k : Nat} : (l ++ [m]).getD k 0 = if k < l.length then l.getD k 0 else if k = l.length then m else 0 := by
  rw [List.getD_eq_getElem?_getD, List.getElem?_append]
  by_cases h : k < l.length
  · rw [if_pos h, if_pos h, List.getD_eq_getElem?_getD]
  · rw [if_neg h, if_neg h]
    by_cases e : k = l.length
    · rw [if_pos e, e, Nat.sub_self]; rfl
    · rw [if_neg e]
      have : ([m] : List Nat)[k - l.length]? = none := List.getElem?_eq_none (by simp; omega)
      rw [this]; rfl
/-- a man joins the end of a queue -/
theorem TX.in {f' : TF} {m s : Nat} (h : TX f ad ql) (hs : s < 12) (hm : m < 40) (hn : ∀ s', s' < 12 → m ∉ ql s') (e2 : ti f' (ad (100 + m)) 2 = nI s) (h2 : ∀ m', m' < 40 → m' ≠ m → ti f' (ad (100 + m')) 2 = ti f (ad (100 + m')) 2 ∧ ti f' (ad (100 + m')) 3 = ti f (ad (100 + m')) 3) (h3 : ∀ x, x ∈ ql s → ti f (ad (100 + x)) 3 < ti f' (ad (100 + m)) 3) : TX f' ad (upQ ql s (ql s ++ [m])) := by
  refine ⟨fun s' hs' x hx => ?_, fun x hx => ?_, fun s' hs' i i' hi hi' => ?_⟩
  · by_cases e : s' = s
    · subst e
      rw [upQ_y, List.mem_append, List.mem_singleton] at hx
      rcases hx with hx | rfl
      · have := h.1 s' hs' x hx
        rw [(h2 x this.1 (by rintro rfl; exact hn s' hs' hx)).1]; exact this
      · exact ⟨hm, e2⟩
    · rw [upQ_n e] at hx
      have := h.1 s' hs' x hx
      rw [(h2 x this.1 (by rintro rfl; exact hn s' hs' hx)).1]; exact this
  · by_cases e : x = m
    · subst e
      exact Or.inr ⟨s, hs, by rw [upQ_y]; exact List.mem_append_right _ (List.mem_singleton.mpr rfl)⟩
    · rw [(h2 x hx e).1]
      rcases h.2.1 x hx with g | ⟨s', hs', g⟩
      · exact Or.inl g
      · refine Or.inr ⟨s', hs', ?_⟩
        by_cases es : s' = s
        · subst es; rw [upQ_y]; exact List.mem_append_left _ g
        · rw [upQ_n es]; exact g
  · have hb : ∀ j, j < (ql s').length → ti f' (ad (100 + (ql s').getD j 0)) 3 = ti f (ad (100 + (ql s').getD j 0)) 3 := fun j hj => by
      have hx := mem_getD.mpr ⟨j, hj, rfl⟩
      exact (h2 _ (h.1 s' hs' _ hx).1 (fun e => hn s' hs' (e ▸ hx))).2
    by_cases e : s' = s
    · subst e
      rw [upQ_y] at hi' ⊢
      rw [List.length_append, List.length_singleton] at hi'
      rw [getD_app, getD_app, if_pos (show i < (ql s').length by omega)]
      by_cases g : i' < (ql s').length
      · rw [if_pos g, hb i (by omega), hb i' g]; exact h.2.2 s' hs' i i' hi g
      · rw [if_neg g, if_pos (by omega), hb i (by omega)]
        exact h3 _ (mem_getD.mpr ⟨i, by omega, rfl⟩)
    · rw [upQ_n e] at hi' ⊢
      rw [hb i (by omega), hb i' hi']
      exact h.2.2 s' hs' i i' hi hi'
theorem pr_join (hO : Ok L f) (m0 : q0 ∈ L ∧ tk f q0 = 0) (m1 : q1 ∈ L ∧ tk f q1 = 27) (hC : Cpl L f q0 q1) (hA : Ad f q0 q1 ad) {D : Int} (hK1 : K1 f ad D) {j : Nat} (hK : K2 f q0 ad (ti f q1 2).toNatClampNeg j) (hW : ∀ m, m < 40 → (ti f (ad (100 + m)) 5 ≤ ti f q0 10 ↔ ¬ 0 ≤ ti f (ad 16) m)) (hj : j ≤ 3072) (p_0 p_1 : Int32) : wp_WM_join_w L f q0 p_0 p_1 (PairG (fun _ g => K2 g q0 ad (ti f q1 2).toNatClampNeg (j + 1)) q0 q1 (fun L f Q => wp_Md_join_w L f q1 p_0 p_1 Q)) := by
  obtain ⟨ad', hR, hV⟩ := id hC
  obtain ⟨hN, hN2⟩ := nst hO m1
  have hStn : ∀ p, St f q1 p → ∃ s, s < (ti f q1 2).toNatClampNeg ∧ p = nI s := fun p h => h.n hO m1
  have im := hA.m hO m1
  have r := hA.2.2.2
  generalize (ti f q1 2).toNatClampNeg = N at *
  have hKm : K2 f q0 ad N (j + 1) := hK.mono (by omega) (Nat.le_refl _)
  obtain ⟨ql, J, a1, a2, a3, a4, a5, a6⟩ := id hK
  have hin : ∀ s m, s < 12 → m ∈ ql s → s < N := fun s m hs hm => Classical.byContradiction fun k => by
    rw [a5 s hs (by omega)] at hm
    cases hm
  have hb40 : ∀ s, s < 12 → ∀ x, x ∈ ql s → x < 40 := fun s hs x hx => (a3.1 s hs x hx).1
  have hbad : (¬ St f q1 p_0 ∨ ¬ isM p_1) → PairG (fun _ g => K2 g q0 ad N (j + 1)) q0 q1 (fun L f Q => wp_Md_join_w L f q1 p_0 p_1 Q) (-1) L f := by
    intro h _ _ _ qT _ qS _
    exact isSt_m (fun _ => ⟨fun _ _ => ⟨rfl, hKm⟩, fun k => absurd k (by decide)⟩) (fun g => ⟨fun k => absurd k (by decide), fun _ => mck (fun _ _ => ⟨rfl, hKm⟩) (fun g' => h.elim (fun z => absurd g z) (fun z => absurd g' z))⟩)
  refine manAt_x hA (fun h => ⟨fun _ => hbad (Or.inr h), fun q z => (by cases z)⟩) (fun m hm hp => ⟨fun z => (by cases z), fun q eq q2 e2 => ?_⟩)
  subst hp
  cases eq
  rw [hR.1] at e2; cases e2
  refine isSt_x hO m1 hV (fun g => ⟨fun _ => hbad (Or.inl g), fun z => absurd z (by decide)⟩) (fun hs => ⟨fun z => absurd z (by decide), fun _ x6 e6 => ?_⟩)
  rw [hK1.st hm] at e6
  subst e6
  have hnot : (¬ ti f (ad 9) m = 2 ∨ 0 ≤ ti f (ad 16) m ∨ ∃ s, s < 12 ∧ m ∈ ql s) → PairG (fun _ g => K2 g q0 ad N (j + 1)) q0 q1 (fun L f Q => wp_Md_join_w L f q1 p_0 (nI m) Q) (-2) L f := by
    intro h _ _ _ qT eT qS eS
    refine isSt_m (fun g => absurd hs g) (fun _ => ⟨fun k => absurd k (by decide), fun _ => mck (fun k => absurd (isM_nI hm) k) (fun _ q9 e9 x10 e10 => ?_)⟩)
    rw [r 9 (by decide)] at e9; cases e9
    rw [nI_clamp (by omega)] at e10
    subst e10
    refine ⟨fun g1 q12 e12 x13 e13 => ?_, fun _ _ => ⟨rfl, hKm⟩⟩
    rw [r 16 (by decide)] at e12; cases e12
    rw [nI_clamp (by omega)] at e13
    subst e13
    refine ⟨fun _ _ => ⟨rfl, hKm⟩, fun g2 => rowOf_m hA a4 hb40 hN hN2 hm (fun hno => ?_) (fun s _ _ => ⟨fun k => absurd k (m1_nI (by omega)), fun _ _ => ⟨rfl, hKm⟩⟩)⟩
    rcases h with h | h | ⟨s, hs', hx⟩
    · exact absurd g1 h
    · exact absurd h g2
    · exact absurd hx (hno s (hin s m hs' hx))
  refine ⟨fun g1 x8 e8 => ?_, fun g1 => hnot (Or.inl g1)⟩
  subst e8
  intro x1 e1
  subst e1
  refine ⟨fun g2 => ⟨fun _ x10 e10 => ?_, fun k => absurd k (by decide)⟩, fun g2 => ⟨fun k => absurd k (by decide), fun _ => hnot (Or.inr (Or.inl (Classical.byContradiction fun k => g2 ((hW m hm).mpr k))))⟩⟩
  subst e10
  refine ⟨fun g3 f1 hf1 _ x13 e13 f2 hf2 _ f3 hf3 hO3 => ?_, fun g3 => hnot (Or.inr (Or.inr ((a3.2.1 m hm).elim (fun z => absurd z g3) id)))⟩
  obtain ⟨s, hsN, rfl⟩ := hStn p_0 hs
  have iM := hA.man hO m0 hm
  have nq : q0 ≠ ad (100 + m) := ne_tk m0.2 iM.2 (by decide)
  rw [hf1, ti_sI_ne nq, a2] at e13
  subst e13
  rw [nI_1] at hf3
  have hn : ∀ s', s' < 12 → m ∉ ql s' := fun s' hs' hx => by
    rw [(a3.1 s' hs' m hx).2] at g3
    exact absurd g3 (m1_nI (by omega))
  have r3 : ∀ c z, tr f3 c z = tr f c z := fun c z => by rw [hf3, tr_sI, hf2, tr_sI, hf1, tr_sI]
  have i3 : ∀ c k z, tk f c = k → k ≠ 20 → k ≠ 0 → ti f3 c z = ti f c z := fun c k z hc h20 h0 => by rw [hf3, ti_sI_ne (ne_tk hc m0.2 h0), hf2, ti_sI_ne (ne_tk hc iM.2 h20), hf1, ti_sI_ne (ne_tk hc iM.2 h20)]
  have hA3 : Ad f3 q0 q1 ad := hA.same (fun z => r3 _ z) (fun z => r3 _ z) (fun z => r3 _ z)
  have hT3 : TM f3 ad ql := a4.keep (fun z => i3 _ _ z (im 19 (by decide)).2 (by decide) (by decide)) (fun z => i3 _ _ z (im 20 (by decide)).2 (by decide) (by decide))
  have e2 : ti f3 (ad (100 + m)) 2 = nI s := by rw [hf3, ti_sI_ne nq.symm, hf2, ti_sI_nj (by decide), hf1, ti_sI_eq]
  have e3 : ti f3 (ad (100 + m)) 3 = nI J := by rw [hf3, ti_sI_ne nq.symm, hf2, ti_sI_eq]
  have eo : ∀ m', m' < 40 → m' ≠ m → ∀ z, ti f3 (ad (100 + m')) z = ti f (ad (100 + m')) z := fun m' hm' hne z => by
    have hMM : ad (100 + m') ≠ ad (100 + m) := fun e => hne (hA.2.2.1 m' m hm' hm e)
    rw [hf3, ti_sI_ne (ne_tk (hA.man hO m0 hm').2 m0.2 (by decide)), hf2, ti_sI_ne hMM, hf1, ti_sI_ne hMM]
  have hX3 : TX f3 ad (upQ ql s (ql s ++ [m])) := a3.in (by omega) hm hn e2 (fun m' hm' hne => ⟨eo m' hm' hne 2, eo m' hm' hne 3⟩) (fun x hx => by rw [e3]; exact a6 s (by omega) x hx)
  refine pit_x hA3 hX3 (s := s) (k := (ql s).length) (by omega) (by rw [upQ_y, List.length_append, List.length_singleton]; omega) (by rw [upQ_y, getD_app, if_neg (Nat.lt_irrefl _), if_pos rfl]) ?_
  intro _ m0' m1' qT eT qS eS
  rw [r3, r 20 (by decide)] at eT; cases eT
  rw [r3, r 19 (by decide)] at eS; cases eS
  obtain ⟨t1, t2, t3⟩ := a4 s (by omega)
  have hN3 : ti f3 q1 2 = nI N := by rw [i3 _ _ _ m1.2 (by decide) (by decide)]; exact hN
  have hs3 : St f3 q1 (nI s) := by unfold St; rw [hN3, ← hN]; exact hs
  refine isSt_m (fun g => absurd hs3 g) (fun _ => ⟨fun k => absurd k (by decide), fun _ => mck (fun k => absurd (isM_nI hm) k) (fun _ q9 e9 x10 e10 => ?_)⟩)
  rw [r3, r 9 (by decide)] at e9; cases e9
  rw [nI_clamp (by omega), i3 _ _ _ (im 9 (by decide)).2 (by decide) (by decide)] at e10
  subst e10
  refine ⟨fun _ q12 e12 x13 e13 => ?_, fun k => absurd g1 k⟩
  rw [r3, r 16 (by decide)] at e12; cases e12
  rw [nI_clamp (by omega), i3 _ _ _ (im 16 (by decide)).2 (by decide) (by decide)] at e13
  subst e13
  refine ⟨fun k => absurd k ((hW m hm).mp g2), fun _ => rowOf_m hA3 hT3 hb40 hN3 hN2 hm (fun _ => ⟨fun _ x21 e21 h1 hh1 _ h2 hh2 hO2 _ => ?_, fun k => absurd rfl k⟩) (fun s' hs' hx => absurd hx (hn s' (by omega)))⟩
  rw [nI_clamp (by omega), i3 _ _ _ (im 19 (by decide)).2 (by decide) (by decide), t2] at e21
  subst e21
  rw [ix40n, nI_clamp (by omega)] at hh1
  rw [nI_clamp (by omega), nI_1] at hh2
  rw [nI_1]
  have k19 : tk f3 (ad 19) = 43 := by rw [hf3, tk_sI, hf2, tk_sI, hf1, tk_sI]; exact (im 19 (by decide)).2
  have k20 : tk f3 (ad 20) = 44 := by rw [hf3, tk_sI, hf2, tk_sI, hf1, tk_sI]; exact (im 20 (by decide)).2
  have n12 : ad 19 ≠ ad 20 := ne_tk k19 k20 (by decide)
  have hlen : (ql s).length + 1 ≤ 40 := by
    have hm2 : ad 19 ∈ L ∧ tk h2 (ad 19) = 43 := ⟨(im 19 (by decide)).1, by rw [hh2, tk_sI, hh1, tk_sI]; exact k19⟩
    have := (hO2.i hm2 (slot_arr (n := 12) rfl (show s < 12 by omega))).2
    rw [hh2, ti_sI_eq, show (40 : Int32) = nI 40 from rfl, nI_ltI (by decide) (by omega)] at this
    omega
  have w19 : ∀ z, ti h2 (ad 19) z = if z = s then nI ((ql s).length + 1) else ti f (ad 19) z := fun z => by
    rw [hh2, ti_sI]
    by_cases e : z = s
    · rw [if_pos ⟨rfl, e⟩, if_pos e]
    · rw [if_neg (fun h => e h.2), if_neg e, hh1, ti_sI_ne n12, i3 _ _ _ (im 19 (by decide)).2 (by decide) (by decide)]
  have w20 : ∀ z, ti h2 (ad 20) z = if z = 40 * s + (ql s).length then nI m else ti f (ad 20) z := fun z => by
    rw [hh2, ti_sI_ne n12.symm, hh1, ti_sI]
    by_cases e : z = 40 * s + (ql s).length
    · rw [if_pos ⟨rfl, e⟩, if_pos e]
    · rw [if_neg (fun h => e h.2), if_neg e, i3 _ _ _ (im 20 (by decide)).2 (by decide) (by decide)]
  have oM : ∀ m', m' < 40 → ∀ z, ti h2 (ad (100 + m')) z = ti f3 (ad (100 + m')) z := fun m' hm' z => by
    rw [hh2, ti_sI_ne (ne_tk (hA.man hO m0 hm').2 (im 19 (by decide)).2 (by decide)), hh1, ti_sI_ne (ne_tk (hA.man hO m0 hm').2 (im 20 (by decide)).2 (by decide))]
  refine ⟨rfl, upQ ql s (ql s ++ [m]), J + 1, by omega, ?_, hX3.keep (fun m' hm' => oM m' hm' 2) (fun m' hm' => oM m' hm' 3), fun s' hs' => ?_, fun s' hs' hn' => ?_, fun s' hs' x hx => ?_⟩
  · rw [hh2, ti_sI_ne (ne_tk m0.2 (im 19 (by decide)).2 (by decide)), hh1, ti_sI_ne (ne_tk m0.2 (im 20 (by decide)).2 (by decide)), hf3, ti_sI_eq]
  · by_cases e : s' = s
    · subst e
      rw [upQ_y, List.length_append, List.length_singleton]
      refine ⟨hlen, by rw [w19, if_pos rfl], fun k hk => ?_⟩
      rw [w20, getD_app]
      by_cases g : k < (ql s').length
      · rw [if_neg (by omega), if_pos g]; exact t3 k g
      · rw [if_pos (by omega), if_neg g, if_pos (by omega)]
    · rw [upQ_n e]
      obtain ⟨u1, u2, u3⟩ := a4 s' hs'
      refine ⟨u1, by rw [w19, if_neg e]; exact u2, fun k hk => ?_⟩
      rw [w20, if_neg ?_]
      · exact u3 k hk
      · rcases Nat.lt_or_gt_of_ne e with h | h <;> omega
  · rw [upQ_n (by omega)]; exact a5 s' hs' hn'
  · have hlt : ∀ y : Int32, y < nI J → y < nI (J + 1) := fun y hy => by
      have := nI_toInt (n := J) (by omega)
      have := nI_toInt (n := J + 1) (by omega)
      rw [Int32.lt_iff_toInt_lt] at hy ⊢
      omega
    by_cases e : x = m
    · subst e
      rw [oM x hm, e3, nI_ltI (by omega) (by omega)]; omega
    · have hx' : x ∈ ql s' := by
        by_cases es : s' = s
        · subst es
          rw [upQ_y, List.mem_append, List.mem_singleton] at hx
          exact hx.elim id (fun z => absurd z e)
        · rw [upQ_n es] at hx; exact hx
      have hx40 := hb40 s' hs' x hx'
      rw [oM x hx40, eo x hx40 e]
      exact hlt _ (a6 s' hs' x hx')
end JOI
