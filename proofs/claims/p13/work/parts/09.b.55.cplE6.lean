section ONW
variable {L : List Nat} {f : TF} {q0 q1 : Nat} {ad : Nat → Nat} {D : Int} {Tt : Int32}
/-- who is not bound has no master; who is on a way is free -/
def K6w (f : TF) (ad : Nat → Nat) (Tt : Int32) : Prop := ∀ m, m < 40 → (¬ ti f (ad 9) m = 1 → ti f (ad 10) m = -1) ∧ (Tt < ti f (ad (100 + m)) 5 → ti f (ad 9) m = 2)
def avK6 (W : List (Nat × Nat)) : Bool := [33, 34].all (fun k => W.all (fun p => p.1 != k)) && !(wr W 20 5)
theorem K6w.ext {W : List (Nat × Nat)} {L1 : List Nat} {f1 : TF} (h : K6w f ad Tt) (hA : Ad f q0 q1 ad) (hO : Ok L f) (m0 : q0 ∈ L ∧ tk f q0 = 0) (m1 : q1 ∈ L ∧ tk f q1 = 27) (hE : Ext W L f L1 f1) (ha : avK6 W = true) : K6w f1 ad Tt := by
  unfold avK6 at ha
  rw [Bool.and_eq_true] at ha
  have kk : ∀ k, k ∈ [33, 34] → ∀ j, wr W k j = false := fun k hk j => wr_k (List.all_eq_true.mp ha.1 k hk) j
  have im := hA.m hO m1
  intro m hm
  rw [hE.ei (im 9 (by decide)) (kk 33 (by decide) m), hE.ei (im 10 (by decide)) (kk 34 (by decide) m), hE.ei (hA.man hO m0 hm) (by simpa using ha.2)]
  exact h m hm
theorem K6w.later {T2 : Int32} (h : K6w f ad Tt) (hle : Tt ≤ T2) : K6w f ad T2 := by
  intro m hm
  refine ⟨(h m hm).1, fun z => (h m hm).2 ?_⟩
  rw [Int32.le_iff_toInt_le] at hle
  rw [Int32.lt_iff_toInt_lt] at z ⊢
  omega
theorem K6w.upd {f' : TF} {m : Nat} (h : K6w f ad Tt) (e9 : ∀ z, z < 40 → z ≠ m → ti f' (ad 9) z = ti f (ad 9) z) (e10 : ∀ z, z < 40 → z ≠ m → ti f' (ad 10) z = ti f (ad 10) z) (e5 : ∀ z, z < 40 → z ≠ m → ti f' (ad (100 + z)) 5 = ti f (ad (100 + z)) 5) (h9 : ¬ ti f' (ad 9) m = 1 → ti f' (ad 10) m = -1) (h5 : Tt < ti f' (ad (100 + m)) 5 → ti f' (ad 9) m = 2) : K6w f' ad Tt := by
  intro z hz
  by_cases e : z = m
  · subst e; exact ⟨h9, h5⟩
  · rw [e9 z hz e, e10 z hz e, e5 z hz e]; exact h z hz
theorem pr_freeM (hO : Ok L f) (m0 : q0 ∈ L ∧ tk f q0 = 0) (m1 : q1 ∈ L ∧ tk f q1 = 27) (hA : Ad f q0 q1 ad) (hK : K1 f ad D) (h6 : K6w f ad Tt) (p_0 : Int32) : wp_WM_free_w L f q0 p_0 (PairG (fun _ f => K1 f ad D ∧ K6w f ad Tt) q0 q1 (fun L f Q => wp_Md_free_w L f q1 p_0 Q)) := by
  have im := hA.m hO m1
  refine manAt_x hA (fun hn => ⟨fun _ _ _ _ => mck (fun _ _ => ⟨rfl, hK, h6⟩) (fun h => absurd h hn), fun q z => (by cases z)⟩) (fun m hm hp => ⟨fun z => (by cases z), fun q eq x2 e2 => ?_⟩)
  cases eq
  subst hp
  rw [hK.st hm] at e2
  subst e2
  have e9 : tr f q1 9 = some (ad 9) := hA.2.2.2 9 (by decide)
  have n9 : (ad (100 + m)) ≠ ad 9 := ne_tk (hA.man hO m0 hm).2 (im 9 (by decide)).2 (by decide)
  have hgo : ∀ g : TF, (∀ z, tr g q1 z = tr f q1 z) → (∀ z, ti g (ad 9) z = ti f (ad 9) z) → (ti f (ad 9) m = 0 → ∀ f2 : TF, f2 = sI g (ad 9) m 2 → (K1 f2 ad D ∧ K6w f2 ad Tt)) → ∀ r : Int32, (ti f (ad 9) m = 0 → r = 1) → (¬ ti f (ad 9) m = 0 → r = -2 ∧ (K1 g ad D ∧ K6w g ad Tt)) → wp_Md_free_w L g q1 (nI m) (fun r' L2 f2 => Ok L2 f2 → r = r' ∧ (K1 f2 ad D ∧ K6w f2 ad Tt)) := by
    intro g h1 h2 h3 r h4 h5
    refine mck (fun h => absurd (isM_nI hm) h) (fun _ q4 e4 x5 e5 => ?_)
    rw [h1, e9] at e4; cases e4
    rw [nI_clamp (by omega), h2] at e5
    subst e5
    rw [nI_clamp (by omega)]
    exact ⟨fun k f2 hf2 _ _ => ⟨h4 k, h3 k f2 hf2⟩, fun k _ => ⟨(h5 k).1, (h5 k).2⟩⟩
  refine ⟨fun k f1 hf1 hO1 _ _ _ => ?_, fun k _ _ _ => ?_⟩
  · subst hf1
    refine hgo _ (fun z => tr_sI) (fun z => ti_sI_ne n9.symm) (fun _ f2 hf2 => ?_) 1 (fun _ => rfl) (fun k' => absurd k k')
    subst hf2
    have n109 : ad 10 ≠ ad 9 := ne_tk (im 10 (by decide)).2 (im 9 (by decide)).2 (by decide)
    have n10M : ad 10 ≠ ad (100 + m) := ne_tk (im 10 (by decide)).2 (hA.man hO m0 hm).2 (by decide)
    refine And.intro ?_ (h6.upd (m := m) (fun z _ hn => by rw [ti_sI_nj hn, ti_sI_ne n9.symm]) (fun z _ _ => by rw [ti_sI_ne n109, ti_sI_ne n10M]) (fun z hz _ => by rw [ti_sI_ne (ne_tk (hA.man hO m0 hz).2 (im 9 (by decide)).2 (by decide)), ti_sI_nj (by decide)]) (fun _ => by rw [ti_sI_ne n109, ti_sI_ne n10M]; exact (h6 m hm).1 (by rw [k]; decide)) (fun _ => ti_sI_eq))
    refine hK.upd hA hO m0 hm (v := 2) (by decide) (by rw [ti_sI_ne n9, ti_sI_eq]) ti_sI_eq (fun m' hm' hn => ?_) (fun c z _ _ => by rw [tr_sI, tr_sI]) (fun c k' _ hc hk' z => ?_)
    · have hne : ad (100 + m') ≠ ad (100 + m) := fun e => hn (hA.2.2.1 m' m hm' hm e)
      have nn : ∀ k, k ∈ RK → kd k ≠ 33 → kd k ≠ 20 → ∀ z, ti (sI (sI f (ad (100 + m)) 0 2) (ad 9) m 2) (ad k) z = ti f (ad k) z := fun k hk g1 g2 z => by
        rw [ti_k (tk_sI.trans (im 9 (by decide)).2) (tk_sI.trans (im k hk).2) g1, ti_k (hA.man hO m0 hm).2 (im k hk).2 g2]
      refine ⟨?_, ?_, nn 10 (by decide) (by decide) (by decide) _, nn 11 (by decide) (by decide) (by decide) _, nn 12 (by decide) (by decide) (by decide) _, nn 13 (by decide) (by decide) (by decide), nn 14 (by decide) (by decide) (by decide)⟩
      · rw [ti_sI_ne (ne_tk (hA.man hO m0 hm').2 (im 9 (by decide)).2 (by decide)), ti_sI_ne hne]
      · rw [ti_sI_nj hn, ti_sI_ne n9.symm]
    · have h33 : k' ≠ 33 := by rintro rfl; exact absurd hk' (by decide)
      have h20 : k' ≠ 20 := by rintro rfl; exact absurd hk' (by decide)
      rw [ti_k (tk_sI.trans (im 9 (by decide)).2) (tk_sI.trans hc) h33, ti_k (hA.man hO m0 hm).2 hc h20]
  · exact hgo f (fun _ => rfl) (fun _ => rfl) (fun k' => absurd k' k) (-2) (fun k' => absurd k' k) (fun _ => ⟨rfl, hK, h6⟩)
theorem pr_passM (hO : Ok L f) (m0 : q0 ∈ L ∧ tk f q0 = 0) (m1 : q1 ∈ L ∧ tk f q1 = 27) (hA : Ad f q0 q1 ad) (hK : K1 f ad (ti f q1 1 / 720).toInt) (h6 : K6w f ad Tt) (ht : ti f q0 10 = ti f q1 1) (p_0 : Int32) : wp_WM_pass_w L f q0 p_0 (PairG (fun _ g => K1 g ad (ti f q1 1 / 720).toInt ∧ K6w g ad Tt) q0 q1 (fun L f Q => wp_Md_pass_w L f q1 p_0 Q)) := by
  have r := hA.2.2.2
  have im := hA.m hO m1
  refine served_g hA hK (by rw [ht]) (fun h => ?_) (fun m hm hp hs => ?_) (fun m hm hp hs => ?_)
  · refine manAt_x hA (fun _ => ⟨fun _ => ⟨fun _ _ _ _ => mck (fun _ _ => ⟨rfl, hK, h6⟩) (fun k => absurd k h), fun k => absurd (by decide) k⟩, fun q z => (by cases z)⟩) (fun m hm hp => absurd (hp ▸ isM_nI hm) h)
  · subst hp
    have hbad : PairG (fun _ g => K1 g ad (ti f q1 1 / 720).toInt ∧ K6w g ad Tt) q0 q1 (fun L f Q => wp_Md_pass_w L f q1 (nI m) Q) (-2) L f := by
      intro _ _ _
      refine mck (fun k => absurd (isM_nI hm) k) (fun _ q4 e4 x5 e5 => ?_)
      rw [r 9 (by decide)] at e4; cases e4
      rw [nI_clamp (by omega)] at e5
      subst e5
      exact ⟨fun k => absurd k hs, fun _ _ => ⟨rfl, hK, h6⟩⟩
    exact manAt_x hA (fun _ => ⟨fun _ => ⟨fun _ => hbad, fun _ => hbad⟩, fun q z => (by cases z)⟩) (fun m' hm' hp' => ⟨fun z => (by cases z), fun q eq => ⟨fun _ => hbad, fun k => absurd (by decide) k⟩⟩)
  · subst hp
    obtain ⟨bd, bF, bT, a1, a2, a3⟩ := id hK
    have hb := a2 m hm hs
    have hnn := svd_nn hb
    refine manAt_x hA (fun k => absurd (isM_nI hm) k) (fun m' hm' hp' => ⟨fun z => (by cases z), fun q eq => ⟨fun k => absurd k hnn, fun _ => ⟨fun k f1 hf1 hO1 _ m0' m1' => ?_, fun k _ _ _ => ?_⟩⟩⟩)
    · rw [nI_eq (by omega) (by omega)] at hp'
      subst hp'
      cases eq
      have n9 : ad (100 + m) ≠ ad 9 := ne_tk (hA.man hO m0 hm).2 (im 9 (by decide)).2 (by decide)
      have nq : q1 ≠ ad (100 + m) := ne_tk m1.2 (hA.man hO m0 hm).2 (by decide)
      have nk : ∀ k, k ∈ RK → ad k ≠ ad (100 + m) := fun k hk => ne_tk (im k hk).2 (hA.man hO m0 hm).2 (by
        unfold kd
        repeat' split
        all_goals omega)
      have hT1 : ti f1 q1 1 = ti f q1 1 := by rw [hf1, ti_sI_ne nq]
      have hA1 : Ad f1 q0 q1 ad := hA.same (fun z => by rw [hf1, tr_sI]) (fun z => by rw [hf1, tr_sI]) (fun z => by rw [hf1, tr_sI])
      have eS : svd f1 ad m (ti f1 q1 1 / 720) = svd f ad m (ti f q1 1 / 720) := by
        have e13 : gF f1 ad m = gF f ad m := by funext z; unfold gF; rw [hf1, ti_sI_ne (nk 13 (by decide))]
        have e14 : gT f1 ad m = gT f ad m := by funext z; unfold gT; rw [hf1, ti_sI_ne (nk 14 (by decide))]
        unfold svd
        rw [e13, e14, hT1, hf1, ti_sI_ne (nk 12 (by decide)), ti_sI_ne (nk 11 (by decide))]
      have ib := bnd_m hA hO m0 hm hb
      have hb1 : Bnd f1 ad (ti f1 q1 1 / 720).toInt m (bd m) (bF m) (bT m) := by
        rw [hT1]
        have nb : ∀ c k z, tk f c = k → k ≠ 20 → ti f1 c z = ti f c z := fun c k z hc hk => by rw [hf1, ti_sI_ne (ne_tk hc (hA.man hO m0 hm).2 hk)]
        exact hb.keep (by rw [hf1, tr_sI]) (fun z => by rw [hf1, tr_sI]) (fun z => nb _ _ z ib.1.2 (by decide)) (fun z => nb _ _ z ib.2.1.2 (by decide)) (fun z => nb _ _ z ib.2.2.2 (by decide)) (nb _ _ _ (im 10 (by decide)).2 (by decide)) (nb _ _ _ (im 11 (by decide)).2 (by decide)) (nb _ _ _ (im 12 (by decide)).2 (by decide)) (fun k _ => nb _ _ _ (im 13 (by decide)).2 (by decide)) (fun k _ => nb _ _ _ (im 14 (by decide)).2 (by decide))
      refine mck (fun k => absurd (isM_nI hm) k) (fun _ q4 e4 x5 e5 => ?_)
      rw [hA1.2.2.2 9 (by decide)] at e4; cases e4
      rw [nI_clamp (by omega), hf1, ti_sI_ne n9.symm] at e5
      subst e5
      refine ⟨fun _ => srv_m hA1 hm hb1 ?_, fun k => absurd hs k⟩
      rw [eS]
      refine ⟨fun _ f2 hf2 hO2 q10 e10 f3 hf3 hO3 _ => ⟨rfl, ?_⟩, fun k' => absurd k k'⟩
      rw [hf2, tr_sI, hA1.2.2.2 10 (by decide)] at e10; cases e10
      rw [nI_clamp (by omega)] at hf2 hf3
      have e3 : ∀ c k z, tk f c = k → k ≠ 20 → k ≠ 33 → k ≠ 34 → ti f3 c z = ti f c z := fun c k z hc g1 g2 g3 => by
        rw [hf3, ti_sI_ne (ne_tk hc (im 10 (by decide)).2 g3), hf2, ti_sI_ne (ne_tk hc (im 9 (by decide)).2 g2), hf1, ti_sI_ne (ne_tk hc (hA.man hO m0 hm).2 g1)]
      have k9 : tk f (ad 9) = 33 := (im 9 (by decide)).2
      have k10 : tk f (ad 10) = 34 := (im 10 (by decide)).2
      have n910 : ad 9 ≠ ad 10 := ne_tk k9 k10 (by decide)
      refine And.intro ?_ (h6.upd (m := m) (fun z _ hn => by rw [hf3, ti_sI_ne n910, hf2, ti_sI_nj hn, hf1, ti_sI_ne n9.symm]) (fun z _ hn => by rw [hf3, ti_sI_nj hn, hf2, ti_sI_ne n910.symm, hf1, ti_sI_ne (nk 10 (by decide))]) (fun z hz _ => by rw [hf3, ti_sI_ne (ne_tk (hA.man hO m0 hz).2 k10 (by decide)), hf2, ti_sI_ne (ne_tk (hA.man hO m0 hz).2 k9 (by decide)), hf1, ti_sI_nj (by decide)]) (fun _ => by rw [hf3, ti_sI_eq]) (fun _ => by rw [hf3, ti_sI_ne n910, hf2, ti_sI_eq]))
      refine hK.upd hA hO m0 hm (v := 2) (by decide) ?_ ?_ (fun m' hm' hn => ?_) (fun c z _ _ => by rw [hf3, tr_sI, hf2, tr_sI, hf1, tr_sI]) (fun c k' _ hc hk' z => ?_)
      · rw [hf3, ti_sI_ne (ne_tk (hA.man hO m0 hm).2 k10 (by decide)), hf2, ti_sI_ne n9, hf1, ti_sI_eq]
      · rw [hf3, ti_sI_ne n910, hf2, ti_sI_eq]
      · have hne : ad (100 + m') ≠ ad (100 + m) := fun e => hn (hA.2.2.1 m' m hm' hm e)
        refine ⟨?_, ?_, ?_, e3 _ _ _ (im 11 (by decide)).2 (by decide) (by decide) (by decide), e3 _ _ _ (im 12 (by decide)).2 (by decide) (by decide) (by decide), fun z => e3 _ _ _ (im 13 (by decide)).2 (by decide) (by decide) (by decide), fun z => e3 _ _ _ (im 14 (by decide)).2 (by decide) (by decide) (by decide)⟩
        · rw [hf3, ti_sI_ne (ne_tk (hA.man hO m0 hm').2 k10 (by decide)), hf2, ti_sI_ne (ne_tk (hA.man hO m0 hm').2 k9 (by decide)), hf1, ti_sI_ne hne]
        · rw [hf3, ti_sI_ne n910, hf2, ti_sI_nj hn, hf1, ti_sI_ne n9.symm]
        · rw [hf3, ti_sI_nj hn, hf2, ti_sI_ne n910.symm, hf1, ti_sI_ne (nk 10 (by decide))]
      · exact e3 c k' z hc (by rintro rfl; exact absurd hk' (by decide)) (by rintro rfl; exact absurd hk' (by decide)) (by rintro rfl; exact absurd hk' (by decide))
    · refine mck (fun k => absurd (isM_nI hm) k) (fun _ q4 e4 x5 e5 => ?_)
      rw [r 9 (by decide)] at e4; cases e4
      rw [nI_clamp (by omega)] at e5
      subst e5
      exact ⟨fun _ => srv_m hA hm hb ⟨fun k' => absurd k' k, fun _ _ => ⟨rfl, hK, h6⟩⟩, fun k' => absurd hs k'⟩
theorem pr_bindM (hO : Ok L f) (m0 : q0 ∈ L ∧ tk f q0 = 0) (m1 : q1 ∈ L ∧ tk f q1 = 27) (hA : Ad f q0 q1 ad) (hK : K1 f ad (ti f q1 1 / 720).toInt) (h6 : K6w f ad Tt) (ht : ti f q0 10 = ti f q1 1) (p_0 p_1 : Int32) : wp_WM_bind_w L f q0 p_0 p_1 (PairG (fun _ g => K1 g ad (ti f q1 1 / 720).toInt ∧ K6w g ad Tt) q0 q1 (fun L f Q => wp_Md_bind_w L f q1 p_0 p_1 Q)) := by
  have r := hA.2.2.2
  have im := hA.m hO m1
  have hbad : (¬ isM p_0 ∨ ¬ isM p_1) → PairG (fun _ g => K1 g ad (ti f q1 1 / 720).toInt ∧ K6w g ad Tt) q0 q1 (fun L f Q => wp_Md_bind_w L f q1 p_0 p_1 Q) (-1) L f := fun h _ _ _ => mck (fun _ _ => ⟨rfl, hK, h6⟩) (fun k => mck (fun _ _ => ⟨rfl, hK, h6⟩) (fun k' => (h.elim (fun z => absurd k z) (fun z => absurd k' z))))
  refine manAt_x hA (fun h => ⟨fun _ => manAt_x hA (fun _ => ⟨fun _ => hbad (Or.inl h), fun _ _ => hbad (Or.inl h)⟩) (fun _ _ _ => ⟨fun _ => hbad (Or.inl h), fun _ _ => hbad (Or.inl h)⟩), fun q z => (by cases z)⟩) (fun m hm hp => ⟨fun z => (by cases z), fun q eq => manAt_x hA (fun h => ⟨fun _ => hbad (Or.inr h), fun q z => (by cases z)⟩) (fun n hn hp' => ⟨fun z => (by cases z), fun q' eq' x4 e4 => ?_⟩)⟩)
  subst hp hp'
  cases eq
  cases eq'
  rw [hK.st hm] at e4
  subst e4
  -- refusals
  have hnot : (¬ ti f (ad 9) m = 0 ∨ ¬ ti f (ad 9) n = 2) → PairG (fun _ g => K1 g ad (ti f q1 1 / 720).toInt ∧ K6w g ad Tt) q0 q1 (fun L f Q => wp_Md_bind_w L f q1 (nI m) (nI n) Q) (-2) L f := by
    intro h _ _ _
    refine mck (fun k => absurd (isM_nI hm) k) (fun _ => mck (fun k => absurd (isM_nI hn) k) (fun _ q7 e7 x8 e8 => ?_))
    rw [r 9 (by decide)] at e7; cases e7
    rw [nI_clamp (by omega)] at e8
    subst e8
    refine ⟨fun k x10 e10 => ?_, fun k _ => ⟨rfl, hK, h6⟩⟩
    rw [nI_clamp (by omega)] at e10
    subst e10
    exact ⟨fun k' => (h.elim (fun z => absurd k z) (fun z => absurd k' z)), fun k' _ => ⟨rfl, hK, h6⟩⟩
  refine ⟨fun hs x6 e6 => ?_, fun k => hnot (Or.inl k)⟩
  rw [hK.st hn] at e6
  subst e6
  refine ⟨fun hs' f1 hf1 hO1 qn L2 f2 hqn hL2 hf2 hO2 => ?_, fun k => hnot (Or.inr k)⟩
  have i0 := m0.1
  have i1 := m1.1
  have iM := hA.man hO m0 hm
  have nqn : ∀ c, c ∈ L → c ≠ qn := fun c hc e => hqn (e ▸ hc)
  have q0M : q0 ≠ ad (100 + m) := ne_tk m0.2 iM.2 (by decide)
  have t2 : ti f2 q0 10 = ti f q1 1 := by rw [hf2, ti_nC (nqn q0 i0), hf1, ti_sI_ne q0M]; exact ht
  refine today_x t2 ?_
  intro qa L3 g1 hqa hL3 hg1 hOg1 g2 hg2 hOg2 qb L4 g3 hqb hL4 hg3 hOg3 g4 hg4 hOg4 g5 hg5 hOg5 g6 hg6 hOg6 _ _ f4 hf4 hO4 f5 hf5 hO5 _ m0' m1'
  generalize hT : ti f q1 1 / 720 = T at *
  have nqa : ∀ c, c ∈ L → c ≠ qa := fun c hc e => hqa (by rw [hL2]; exact List.mem_append_left _ (e ▸ hc))
  have nqb : ∀ c, c ∈ L → c ≠ qb := fun c hc e => hqb (by rw [hL3, hL2]; exact List.mem_append_left _ (List.mem_append_left _ (e ▸ hc)))
  have nna : qn ≠ qa := fun e => hqa (by rw [hL2, ← e]; exact List.mem_append_right _ (List.mem_singleton.mpr rfl))
  have nnb : qn ≠ qb := fun e => hqb (by rw [hL3, hL2, ← e]; exact List.mem_append_left _ (List.mem_append_right _ (List.mem_singleton.mpr rfl)))
  have nab : qa ≠ qb := fun e => hqb (by rw [hL3, ← e]; exact List.mem_append_right _ (List.mem_singleton.mpr rfl))
  have oi : ∀ c z, c ∈ L → ti f5 c z = if c = ad (100 + m) ∧ z = 0 then 1 else ti f c z := by
    intro c z hc
    rw [hf5, ti_sR, hf4, ti_kC, hg6, ti_sI_ne (nqn c hc), hg5, ti_sI_ne (nqn c hc), hg4, ti_sR, hg3, ti_nC (nqb c hc), hg2, ti_sR, hg1, ti_nC (nqa c hc), hf2, ti_nC (nqn c hc), hf1, ti_sI]
  have orr : ∀ c z, c ∈ L → tr f5 c z = if c = ad (100 + m) ∧ z = 1 then some qn else tr f c z := by
    intro c z hc
    rw [hf5, tr_sR, hf4, tr_kC, hg6, tr_sI, hg5, tr_sI, hg4, tr_sR_ne (nqn c hc), hg3, tr_nC (nqb c hc), hg2, tr_sR_ne (nqn c hc), hg1, tr_nC (nqa c hc), hf2, tr_nC (nqn c hc), hf1, tr_sI]
  have nM : qn ≠ ad (100 + m) := (nqn _ iM.1).symm
  have n2 : tr f5 qn 2 = some qa := by rw [hf5, tr_sR_ne nM, hf4, tr_kC, hg6, tr_sI, hg5, tr_sI, hg4, tr_sR_nj (by decide), hg3, tr_nC nnb, hg2, tr_sR_eq]
  have n3 : tr f5 qn 3 = some qb := by rw [hf5, tr_sR_ne nM, hf4, tr_kC, hg6, tr_sI, hg5, tr_sI, hg4, tr_sR_eq]
  have v0 : ti f5 qn 0 = nI n := by rw [hf5, ti_sR, hf4, ti_kC, hg6, ti_sI_nj (by decide), hg5, ti_sI_eq]
  have v1 : ti f5 qn 1 = T := by rw [hf5, ti_sR, hf4, ti_kC, hg6, ti_sI_eq]
  have v4 : ti f5 qn 4 = 0 := by rw [hf5, ti_sR, hf4, ti_kC, hg6, ti_sI_nj (by decide), hg5, ti_sI_nj (by decide), hg4, ti_sR, hg3, ti_nC nnb, hg2, ti_sR, hg1, ti_nC nna, hf2, ti_nC_eq]
  have iR : ∀ k, k ∈ RK → ad k ∈ L := fun k hk => (im k hk).1
  have nRM : ∀ k, k ∈ RK → ad k ≠ ad (100 + m) := fun k hk => ne_tk (im k hk).2 iM.2 (by
    unfold kd
    repeat' split
    all_goals omega)
  have oR : ∀ k z, k ∈ RK → ti f5 (ad k) z = ti f (ad k) z := fun k z hk => by rw [oi _ _ (iR k hk), if_neg (fun h => nRM k hk h.1)]
  have q1M : q1 ≠ ad (100 + m) := ne_tk m1.2 iM.2 (by decide)
  have r5 : ∀ z, tr f5 q1 z = tr f q1 z := fun z => by rw [orr _ _ i1, if_neg (fun h => q1M h.1)]
  have T5 : ti f5 q1 1 / 720 = T := by rw [oi _ _ i1, if_neg (fun h => q1M h.1)]; exact hT
  -- the reference
  refine mck (fun k => absurd (isM_nI hm) k) (fun _ => mck (fun k => absurd (isM_nI hn) k) (fun _ q7 e7 x8 e8 => ?_))
  rw [r5, r 9 (by decide)] at e7; cases e7
  rw [nI_clamp (by omega), oR 9 _ (by decide)] at e8
  subst e8
  refine ⟨fun _ x10 e10 => ?_, fun k => absurd hs k⟩
  rw [nI_clamp (by omega), oR 9 _ (by decide)] at e10
  subst e10
  refine ⟨fun _ h1 hh1 hOh1 q13 e13 h2 hh2 hOh2 q15 e15 => today_m ?_, fun k => absurd hs' k⟩
  rw [nI_clamp (by omega)] at hh1 hh2
  rw [hh1, tr_sI, r5, r 10 (by decide)] at e13; cases e13
  rw [hh2, tr_sI, hh1, tr_sI, r5, r 11 (by decide)] at e15; cases e15
  have k9 : tk f (ad 9) = 33 := (im 9 (by decide)).2
  have k10 : tk f (ad 10) = 34 := (im 10 (by decide)).2
  have k11 : tk f (ad 11) = 35 := (im 11 (by decide)).2
  have k12 : tk f (ad 12) = 36 := (im 12 (by decide)).2
  have T2 : ti h2 q1 1 / 720 = T := by rw [hh2, ti_sI_ne (ne_tk m1.2 k10 (by decide)), hh1, ti_sI_ne (ne_tk m1.2 k9 (by decide))]; exact T5
  rw [T2]
  intro h3 hh3 hOh3 q22 e22 h4 hh4 hOh4 _
  rw [nI_clamp (by omega)] at hh3 hh4
  rw [hh3, tr_sI, hh2, tr_sI, hh1, tr_sI, r5, r 12 (by decide)] at e22; cases e22
  refine ⟨rfl, ?_⟩
  have n9_10 : ad 9 ≠ ad 10 := ne_tk k9 k10 (by decide)
  have n9_11 : ad 9 ≠ ad 11 := ne_tk k9 k11 (by decide)
  have n9_12 : ad 9 ≠ ad 12 := ne_tk k9 k12 (by decide)
  have n10_11 : ad 10 ≠ ad 11 := ne_tk k10 k11 (by decide)
  have n10_12 : ad 10 ≠ ad 12 := ne_tk k10 k12 (by decide)
  have n11_12 : ad 11 ≠ ad 12 := ne_tk k11 k12 (by decide)
  have fr : ∀ c, c ∈ L → c ≠ ad 9 → c ≠ ad 10 → c ≠ ad 11 → c ≠ ad 12 → ∀ z, ti h4 c z = ti f5 c z := fun c _ g1 g2 g3 g4 z => by rw [hh4, ti_sI_ne g4, hh3, ti_sI_ne g3, hh2, ti_sI_ne g2, hh1, ti_sI_ne g1]
  have hr4 : ∀ c z, tr h4 c z = tr f5 c z := fun c z => by rw [hh4, tr_sI, hh3, tr_sI, hh2, tr_sI, hh1, tr_sI]
  have frn : ∀ c, c ∉ L → ∀ z, ti h4 c z = ti f5 c z := fun c hc z => by
    have nn : ∀ k, k ∈ RK → c ≠ ad k := fun k hk e => hc (by rw [e]; exact iR k hk)
    rw [hh4, ti_sI_ne (nn 12 (by decide)), hh3, ti_sI_ne (nn 11 (by decide)), hh2, ti_sI_ne (nn 10 (by decide)), hh1, ti_sI_ne (nn 9 (by decide))]
  have w9 : ∀ z, ti h4 (ad 9) z = if z = m then 1 else ti f (ad 9) z := fun z => by
    rw [hh4, ti_sI_ne n9_12, hh3, ti_sI_ne n9_11, hh2, ti_sI_ne n9_10, hh1, ti_sI]
    by_cases e : z = m
    · rw [if_pos ⟨rfl, e⟩, if_pos e]
    · rw [if_neg (fun h => e h.2), if_neg e, oR 9 _ (by decide)]
  have w10 : ∀ z, ti h4 (ad 10) z = if z = m then nI n else ti f (ad 10) z := fun z => by
    rw [hh4, ti_sI_ne n10_12, hh3, ti_sI_ne n10_11, hh2, ti_sI]
    by_cases e : z = m
    · rw [if_pos ⟨rfl, e⟩, if_pos e]
    · rw [if_neg (fun h => e h.2), if_neg e, hh1, ti_sI_ne n9_10.symm, oR 10 _ (by decide)]
  have w11 : ∀ z, ti h4 (ad 11) z = if z = m then T else ti f (ad 11) z := fun z => by
    rw [hh4, ti_sI_ne n11_12, hh3, ti_sI]
    by_cases e : z = m
    · rw [if_pos ⟨rfl, e⟩, if_pos e]
    · rw [if_neg (fun h => e h.2), if_neg e, hh2, ti_sI_ne n10_11.symm, hh1, ti_sI_ne n9_11.symm, oR 11 _ (by decide)]
  have w12 : ∀ z, ti h4 (ad 12) z = if z = m then 0 else ti f (ad 12) z := fun z => by
    rw [hh4, ti_sI]
    by_cases e : z = m
    · rw [if_pos ⟨rfl, e⟩, if_pos e]
    · rw [if_neg (fun h => e h.2), if_neg e, hh3, ti_sI_ne n11_12.symm, hh2, ti_sI_ne n10_12.symm, hh1, ti_sI_ne n9_12.symm, oR 12 _ (by decide)]
  have wk : ∀ c k, c ∈ L → tk f c = k → k ≠ 20 → k ≠ 33 → k ≠ 34 → k ≠ 35 → k ≠ 36 → ∀ z, ti h4 c z = ti f c z := fun c k hc hk g0 g1 g2 g3 g4 z => by
    rw [fr c hc (ne_tk hk k9 g1) (ne_tk hk k10 g2) (ne_tk hk k11 g3) (ne_tk hk k12 g4), oi _ _ hc, if_neg (fun h => ne_tk hk iM.2 g0 h.1)]
  have wM : ∀ m', m' < 40 → ∀ z, ti h4 (ad (100 + m')) z = ti f5 (ad (100 + m')) z := fun m' hm' z => by
    have iM' := hA.man hO m0 hm'
    exact fr _ iM'.1 (ne_tk iM'.2 k9 (by decide)) (ne_tk iM'.2 k10 (by decide)) (ne_tk iM'.2 k11 (by decide)) (ne_tk iM'.2 k12 (by decide)) z
  have hTb : ¬ T < 0 ∧ ¬ 499 < T := by
    obtain ⟨b1, b2⟩ := hO.i m1 (show slotD 27 1 = some (.inl (0, 359999)) from rfl)
    obtain ⟨n', hn', e'⟩ := nI_of2 (M := 359999) (n := 359999) (by decide) b1 (by rw [Int32.lt_iff_toInt_lt] at b2; rw [Int32.le_iff_toInt_le]; omega)
    rw [← hT, e', show (720 : Int32) = nI 720 from rfl, pk_div (by omega) (by decide) (by decide), show (499 : Int32) = nI 499 from rfl, nI_ltI (by decide) (by omega)]
    exact ⟨nI_pos (by omega), by omega⟩
  have z499 : (499 : Int32).toInt = 499 := by decide
  have z0 : (0 : Int32).toInt = 0 := by decide
  rw [Int32.lt_iff_toInt_lt, Int32.lt_iff_toInt_lt] at hTb
  refine And.intro ?_ (h6.upd (m := m) (fun z _ hn => by rw [w9, if_neg hn]) (fun z _ hn => by rw [w10, if_neg hn]) (fun z hz _ => by rw [wM z hz, oi _ _ (hA.man hO m0 hz).1, if_neg (fun h => absurd h.2 (by decide))]) (fun z => absurd (by rw [w9, if_pos rfl]) z) (fun z => by
    rw [wM m hm, oi _ _ iM.1, if_neg (fun h => absurd h.2 (by decide))] at z
    have := (h6 m hm).2 z
    rw [hs] at this
    exact absurd this (by decide)))
  refine hK.bind hA hO m0 hm (b := qn) (c := qa) (d := qb) hqn (fun h => nqa qa h rfl) (fun h => nqb qb h rfl) ?_ ?_ ⟨?_, ?_, ?_, ?_, ?_, 0, by decide, ?_, ?_, fun k hk => absurd hk (by omega), ?_⟩ (fun m' hm' hne => ?_) (fun c z hc hk => ?_) (fun c k hc hk hkk z => ?_)
  · rw [wM m hm, oi _ _ iM.1, if_pos ⟨rfl, rfl⟩]
  · rw [w9, if_pos rfl]
  · rw [hr4, orr _ _ iM.1, if_pos ⟨rfl, rfl⟩]
  · rw [hr4]; exact n2
  · rw [hr4]; exact n3
  · rw [frn _ hqn, v0, w10, if_pos rfl]
  · rw [frn _ hqn, v1, w11, if_pos rfl]
  · rw [frn _ hqn]; exact v4
  · rw [w12, if_pos rfl]; rfl
  · rw [w11, if_pos rfl]
    exact ⟨by omega, Int.le_refl _, by omega, fun k hk => absurd hk (by omega), fun k k' hk => absurd hk (by omega)⟩
  · have hMM : ad (100 + m') ≠ ad (100 + m) := fun e => hne (hA.2.2.1 m' m hm' hm e)
    have iM' := hA.man hO m0 hm'
    refine ⟨?_, ?_, ?_, ?_, ?_, ?_, fun z => wk _ 37 (iR 13 (by decide)) (im 13 (by decide)).2 (by decide) (by decide) (by decide) (by decide) (by decide) z, fun z => wk _ 38 (iR 14 (by decide)) (im 14 (by decide)).2 (by decide) (by decide) (by decide) (by decide) (by decide) z⟩
    · rw [wM m' hm', oi _ _ iM'.1, if_neg (fun h => hMM h.1)]
    · rw [hr4, orr _ _ iM'.1, if_neg (fun h => hMM h.1)]
    · rw [w9, if_neg hne]
    · rw [w10, if_neg hne]
    · rw [w11, if_neg hne]
    · rw [w12, if_neg hne]
  · rw [hr4, orr _ _ hc, if_neg (fun h => ne_tk hk iM.2 (by decide) h.1)]
  · exact wk c k hc hk (by rintro rfl; exact absurd hkk (by decide)) (by rintro rfl; exact absurd hkk (by decide)) (by rintro rfl; exact absurd hkk (by decide)) (by rintro rfl; exact absurd hkk (by decide)) (by rintro rfl; exact absurd hkk (by decide)) z
end ONW
