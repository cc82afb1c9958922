section BND
variable {L : List Nat} {f : TF} {q0 q1 : Nat} {ad : Nat → Nat} {D : Int}
def upM (m b : Nat) (c : Nat → Nat) (i : Nat) : Nat := if i = m then b else c i
theorem upM_y {m b : Nat} {c : Nat → Nat} : upM m b c m = b := if_pos rfl
theorem upM_n {m b i : Nat} {c : Nat → Nat} (h : i ≠ m) : upM m b c i = c i := if_neg h
/-- a man is bound: his service's cells are new -/
theorem K1.bind {f' : TF} {m b c d : Nat} (h : K1 f ad D) (hA : Ad f q0 q1 ad) (hO : Ok L f) (m0 : q0 ∈ L ∧ tk f q0 = 0) (hm : m < 40) (fb : b ∉ L) (fc : c ∉ L) (fd : d ∉ L) (a1 : ti f' (ad (100 + m)) 0 = 1) (a2 : ti f' (ad 9) m = 1) (hb : Bnd f' ad D m b c d)
    (a3 : ∀ m', m' < 40 → m' ≠ m → ti f' (ad (100 + m')) 0 = ti f (ad (100 + m')) 0 ∧ tr f' (ad (100 + m')) 1 = tr f (ad (100 + m')) 1 ∧ ti f' (ad 9) m' = ti f (ad 9) m' ∧ ti f' (ad 10) m' = ti f (ad 10) m' ∧ ti f' (ad 11) m' = ti f (ad 11) m' ∧ ti f' (ad 12) m' = ti f (ad 12) m' ∧ (∀ z, ti f' (ad 13) z = ti f (ad 13) z) ∧ ∀ z, ti f' (ad 14) z = ti f (ad 14) z)
    (a4 : ∀ c z, c ∈ L → tk f c = 21 → tr f' c z = tr f c z) (a5 : ∀ c k, c ∈ L → tk f c = k → k ∈ [21, 22, 23] → ∀ z, ti f' c z = ti f c z) : K1 f' ad D := by
  obtain ⟨bd, bF, bT, b1, b2, b3⟩ := h
  refine ⟨upM m b bd, upM m c bF, upM m d bT, fun m' hm' => ?_, fun m' hm' hs => ?_, fun m' m'' hm' hm'' hn hs hs' => ?_⟩
  · by_cases e : m' = m
    · subst e; rw [a1, a2]
    · rw [(a3 m' hm' e).1, (a3 m' hm' e).2.2.1]; exact b1 m' hm'
  · by_cases e : m' = m
    · subst e; rw [upM_y, upM_y, upM_y]; exact hb
    · rw [upM_n e, upM_n e, upM_n e]
      obtain ⟨c1, c2, c3, c4, c5, c6, c7, c8⟩ := a3 m' hm' e
      rw [c3] at hs
      have hb' := b2 m' hm' hs
      obtain ⟨ib, ic, id'⟩ := bnd_m hA hO m0 hm' hb'
      exact hb'.keep c2 (fun z => a4 _ _ ib.1 ib.2) (a5 _ 21 ib.1 ib.2 (by decide)) (a5 _ 22 ic.1 ic.2 (by decide)) (a5 _ 23 id'.1 id'.2 (by decide)) c4 c5 c6 (fun k _ => c7 _) (fun k _ => c8 _)
  · by_cases e : m' = m
    · have e' : m'' ≠ m := fun k => hn (e.trans k.symm)
      rw [(a3 m'' hm'' e').2.2.1] at hs'
      obtain ⟨ib, ic, id'⟩ := bnd_m hA hO m0 hm'' (b2 m'' hm'' hs')
      subst e
      rw [upM_y, upM_y, upM_y, upM_n e', upM_n e', upM_n e']
      exact ⟨fun k => fb (k ▸ ib.1), fun k => fc (k ▸ ic.1), fun k => fd (k ▸ id'.1)⟩
    · by_cases e' : m'' = m
      · rw [(a3 m' hm' e).2.2.1] at hs
        obtain ⟨ib, ic, id'⟩ := bnd_m hA hO m0 hm' (b2 m' hm' hs)
        subst e'
        rw [upM_y, upM_y, upM_y, upM_n e, upM_n e, upM_n e]
        exact ⟨fun k => fb (k ▸ ib.1), fun k => fc (k ▸ ic.1), fun k => fd (k ▸ id'.1)⟩
      · rw [(a3 m' hm' e).2.2.1] at hs
        rw [(a3 m'' hm'' e').2.2.1] at hs'
        rw [upM_n e, upM_n e, upM_n e, upM_n e', upM_n e', upM_n e']
        exact b3 m' m'' hm' hm'' hn hs hs'
theorem pr_bind (hO : Ok L f) (m0 : q0 ∈ L ∧ tk f q0 = 0) (m1 : q1 ∈ L ∧ tk f q1 = 27) (hA : Ad f q0 q1 ad) (hK : K1 f ad (ti f q1 1 / 720).toInt) (ht : ti f q0 10 = ti f q1 1) (p_0 p_1 : Int32) : wp_WM_bind_w L f q0 p_0 p_1 (PairG (fun _ g => K1 g ad (ti f q1 1 / 720).toInt) q0 q1 (fun L f Q => wp_Md_bind_w L f q1 p_0 p_1 Q)) := by
  have r := hA.2.2.2
  have im := hA.m hO m1
  have hbad : (¬ isM p_0 ∨ ¬ isM p_1) → PairG (fun _ g => K1 g ad (ti f q1 1 / 720).toInt) q0 q1 (fun L f Q => wp_Md_bind_w L f q1 p_0 p_1 Q) (-1) L f := fun h _ _ _ => mck (fun _ _ => ⟨rfl, hK⟩) (fun k => mck (fun _ _ => ⟨rfl, hK⟩) (fun k' => (h.elim (fun z => absurd k z) (fun z => absurd k' z))))
  refine manAt_x hA (fun h => ⟨fun _ => manAt_x hA (fun _ => ⟨fun _ => hbad (Or.inl h), fun _ _ => hbad (Or.inl h)⟩) (fun _ _ _ => ⟨fun _ => hbad (Or.inl h), fun _ _ => hbad (Or.inl h)⟩), fun q z => (by cases z)⟩) (fun m hm hp => ⟨fun z => (by cases z), fun q eq => manAt_x hA (fun h => ⟨fun _ => hbad (Or.inr h), fun q z => (by cases z)⟩) (fun n hn hp' => ⟨fun z => (by cases z), fun q' eq' x4 e4 => ?_⟩)⟩)
  subst hp hp'
  cases eq
  cases eq'
  rw [hK.st hm] at e4
  subst e4
  -- refusals
  have hnot : (¬ ti f (ad 9) m = 0 ∨ ¬ ti f (ad 9) n = 2) → PairG (fun _ g => K1 g ad (ti f q1 1 / 720).toInt) q0 q1 (fun L f Q => wp_Md_bind_w L f q1 (nI m) (nI n) Q) (-2) L f := by
    intro h _ _ _
    refine mck (fun k => absurd (isM_nI hm) k) (fun _ => mck (fun k => absurd (isM_nI hn) k) (fun _ q7 e7 x8 e8 => ?_))
    rw [r 9 (by decide)] at e7; cases e7
    rw [nI_clamp (by omega)] at e8
    subst e8
    refine ⟨fun k x10 e10 => ?_, fun k _ => ⟨rfl, hK⟩⟩
    rw [nI_clamp (by omega)] at e10
    subst e10
    exact ⟨fun k' => (h.elim (fun z => absurd k z) (fun z => absurd k' z)), fun k' _ => ⟨rfl, hK⟩⟩
  refine ⟨fun hs x6 e6 => ?_, fun k => hnot (Or.inl k)⟩
  rw [hK.st hn] at e6
  subst e6
  refine ⟨fun hs' f1 hf1 hO1 qn L2 f2 hqn hL2 hf2 hO2 => ?_, fun k => hnot (Or.inr k)⟩
  have i0 := m0.1
  have i1 := m1.1
  have iM := hA.man hO m0 hm
  have nqn : ∀ c, c ∈ L → c ≠ qn := fun c hc e => hqn (e ▸ hc)
  have q0M : q0 ≠ ad (100 + m) := ne_tk m0.2 iM.2 (by decide)
  have t2 : ti f2 q0 10 = ti f q1 1 := by rw [hf2, ti_nC (nqn q0 i0), hf1, ti_sI_ne q0M]; exact ht
  refine today_x t2 ?_
  intro qa L3 g1 hqa hL3 hg1 hOg1 g2 hg2 hOg2 qb L4 g3 hqb hL4 hg3 hOg3 g4 hg4 hOg4 g5 hg5 hOg5 g6 hg6 hOg6 _ _ f4 hf4 hO4 f5 hf5 hO5 _ m0' m1'
  generalize hT : ti f q1 1 / 720 = T at *
  have nqa : ∀ c, c ∈ L → c ≠ qa := fun c hc e => hqa (by rw [hL2]; exact List.mem_append_left _ (e ▸ hc))
  have nqb : ∀ c, c ∈ L → c ≠ qb := fun c hc e => hqb (by rw [hL3, hL2]; exact List.mem_append_left _ (List.mem_append_left _ (e ▸ hc)))
  have nna : qn ≠ qa := fun e => hqa (by rw [hL2, ← e]; exact List.mem_append_right _ (List.mem_singleton.mpr rfl))
  have nnb : qn ≠ qb := fun e => hqb (by rw [hL3, hL2, ← e]; exact List.mem_append_left _ (List.mem_append_right _ (List.mem_singleton.mpr rfl)))
  have nab : qa ≠ qb := fun e => hqb (by rw [hL3, ← e]; exact List.mem_append_right _ (List.mem_singleton.mpr rfl))
  have oi : ∀ c z, c ∈ L → ti f5 c z = if c = ad (100 + m) ∧ z = 0 then 1 else ti f c z := by
    intro c z hc
    rw [hf5, ti_sR, hf4, ti_kC, hg6, ti_sI_ne (nqn c hc), hg5, ti_sI_ne (nqn c hc), hg4, ti_sR, hg3, ti_nC (nqb c hc), hg2, ti_sR, hg1, ti_nC (nqa c hc), hf2, ti_nC (nqn c hc), hf1, ti_sI]
  have orr : ∀ c z, c ∈ L → tr f5 c z = if c = ad (100 + m) ∧ z = 1 then some qn else tr f c z := by
    intro c z hc
    rw [hf5, tr_sR, hf4, tr_kC, hg6, tr_sI, hg5, tr_sI, hg4, tr_sR_ne (nqn c hc), hg3, tr_nC (nqb c hc), hg2, tr_sR_ne (nqn c hc), hg1, tr_nC (nqa c hc), hf2, tr_nC (nqn c hc), hf1, tr_sI]
  have nM : qn ≠ ad (100 + m) := (nqn _ iM.1).symm
  have n2 : tr f5 qn 2 = some qa := by rw [hf5, tr_sR_ne nM, hf4, tr_kC, hg6, tr_sI, hg5, tr_sI, hg4, tr_sR_nj (by decide), hg3, tr_nC nnb, hg2, tr_sR_eq]
  have n3 : tr f5 qn 3 = some qb := by rw [hf5, tr_sR_ne nM, hf4, tr_kC, hg6, tr_sI, hg5, tr_sI, hg4, tr_sR_eq]
  have v0 : ti f5 qn 0 = nI n := by rw [hf5, ti_sR, hf4, ti_kC, hg6, ti_sI_nj (by decide), hg5, ti_sI_eq]
  have v1 : ti f5 qn 1 = T := by rw [hf5, ti_sR, hf4, ti_kC, hg6, ti_sI_eq]
  have v4 : ti f5 qn 4 = 0 := by rw [hf5, ti_sR, hf4, ti_kC, hg6, ti_sI_nj (by decide), hg5, ti_sI_nj (by decide), hg4, ti_sR, hg3, ti_nC nnb, hg2, ti_sR, hg1, ti_nC nna, hf2, ti_nC_eq]
  have iR : ∀ k, k ∈ RK → ad k ∈ L := fun k hk => (im k hk).1
  have nRM : ∀ k, k ∈ RK → ad k ≠ ad (100 + m) := fun k hk => ne_tk (im k hk).2 iM.2 (by
    unfold kd
    repeat' split
    all_goals omega)
  have oR : ∀ k z, k ∈ RK → ti f5 (ad k) z = ti f (ad k) z := fun k z hk => by rw [oi _ _ (iR k hk), if_neg (fun h => nRM k hk h.1)]
  have q1M : q1 ≠ ad (100 + m) := ne_tk m1.2 iM.2 (by decide)
  have r5 : ∀ z, tr f5 q1 z = tr f q1 z := fun z => by rw [orr _ _ i1, if_neg (fun h => q1M h.1)]
  have T5 : ti f5 q1 1 / 720 = T := by rw [oi _ _ i1, if_neg (fun h => q1M h.1)]; exact hT
  -- the reference
  refine mck (fun k => absurd (isM_nI hm) k) (fun _ => mck (fun k => absurd (isM_nI hn) k) (fun _ q7 e7 x8 e8 => ?_))
  rw [r5, r 9 (by decide)] at e7; cases e7
  rw [nI_clamp (by omega), oR 9 _ (by decide)] at e8
  subst e8
  refine ⟨fun _ x10 e10 => ?_, fun k => absurd hs k⟩
  rw [nI_clamp (by omega), oR 9 _ (by decide)] at e10
  subst e10
  refine ⟨fun _ h1 hh1 hOh1 q13 e13 h2 hh2 hOh2 q15 e15 => today_m ?_, fun k => absurd hs' k⟩
  rw [nI_clamp (by omega)] at hh1 hh2
  rw [hh1, tr_sI, r5, r 10 (by decide)] at e13; cases e13
  rw [hh2, tr_sI, hh1, tr_sI, r5, r 11 (by decide)] at e15; cases e15
  have k9 : tk f (ad 9) = 33 := (im 9 (by decide)).2
  have k10 : tk f (ad 10) = 34 := (im 10 (by decide)).2
  have k11 : tk f (ad 11) = 35 := (im 11 (by decide)).2
  have k12 : tk f (ad 12) = 36 := (im 12 (by decide)).2
  have T2 : ti h2 q1 1 / 720 = T := by rw [hh2, ti_sI_ne (ne_tk m1.2 k10 (by decide)), hh1, ti_sI_ne (ne_tk m1.2 k9 (by decide))]; exact T5
  rw [T2]
  intro h3 hh3 hOh3 q22 e22 h4 hh4 hOh4 _
  rw [nI_clamp (by omega)] at hh3 hh4
  rw [hh3, tr_sI, hh2, tr_sI, hh1, tr_sI, r5, r 12 (by decide)] at e22; cases e22
  refine ⟨rfl, ?_⟩
  have n9_10 : ad 9 ≠ ad 10 := ne_tk k9 k10 (by decide)
  have n9_11 : ad 9 ≠ ad 11 := ne_tk k9 k11 (by decide)
  have n9_12 : ad 9 ≠ ad 12 := ne_tk k9 k12 (by decide)
  have n10_11 : ad 10 ≠ ad 11 := ne_tk k10 k11 (by decide)
  have n10_12 : ad 10 ≠ ad 12 := ne_tk k10 k12 (by decide)
  have n11_12 : ad 11 ≠ ad 12 := ne_tk k11 k12 (by decide)
  have fr : ∀ c, c ∈ L → c ≠ ad 9 → c ≠ ad 10 → c ≠ ad 11 → c ≠ ad 12 → ∀ z, ti h4 c z = ti f5 c z := fun c _ g1 g2 g3 g4 z => by rw [hh4, ti_sI_ne g4, hh3, ti_sI_ne g3, hh2, ti_sI_ne g2, hh1, ti_sI_ne g1]
  have hr4 : ∀ c z, tr h4 c z = tr f5 c z := fun c z => by rw [hh4, tr_sI, hh3, tr_sI, hh2, tr_sI, hh1, tr_sI]
  have frn : ∀ c, c ∉ L → ∀ z, ti h4 c z = ti f5 c z := fun c hc z => by
    have nn : ∀ k, k ∈ RK → c ≠ ad k := fun k hk e => hc (by rw [e]; exact iR k hk)
    rw [hh4, ti_sI_ne (nn 12 (by decide)), hh3, ti_sI_ne (nn 11 (by decide)), hh2, ti_sI_ne (nn 10 (by decide)), hh1, ti_sI_ne (nn 9 (by decide))]
  have w9 : ∀ z, ti h4 (ad 9) z = if z = m then 1 else ti f (ad 9) z := fun z => by
    rw [hh4, ti_sI_ne n9_12, hh3, ti_sI_ne n9_11, hh2, ti_sI_ne n9_10, hh1, ti_sI]
    by_cases e : z = m
    · rw [if_pos ⟨rfl, e⟩, if_pos e]
    · rw [if_neg (fun h => e h.2), if_neg e, oR 9 _ (by decide)]
  have w10 : ∀ z, ti h4 (ad 10) z = if z = m then nI n else ti f (ad 10) z := fun z => by
    rw [hh4, ti_sI_ne n10_12, hh3, ti_sI_ne n10_11, hh2, ti_sI]
    by_cases e : z = m
    · rw [if_pos ⟨rfl, e⟩, if_pos e]
    · rw [if_neg (fun h => e h.2), if_neg e, hh1, ti_sI_ne n9_10.symm, oR 10 _ (by decide)]
  have w11 : ∀ z, ti h4 (ad 11) z = if z = m then T else ti f (ad 11) z := fun z => by
    rw [hh4, ti_sI_ne n11_12, hh3, ti_sI]
    by_cases e : z = m
    · rw [if_pos ⟨rfl, e⟩, if_pos e]
    · rw [if_neg (fun h => e h.2), if_neg e, hh2, ti_sI_ne n10_11.symm, hh1, ti_sI_ne n9_11.symm, oR 11 _ (by decide)]
  have w12 : ∀ z, ti h4 (ad 12) z = if z = m then 0 else ti f (ad 12) z := fun z => by
    rw [hh4, ti_sI]
    by_cases e : z = m
    · rw [if_pos ⟨rfl, e⟩, if_pos e]
    · rw [if_neg (fun h => e h.2), if_neg e, hh3, ti_sI_ne n11_12.symm, hh2, ti_sI_ne n10_12.symm, hh1, ti_sI_ne n9_12.symm, oR 12 _ (by decide)]
  have wk : ∀ c k, c ∈ L → tk f c = k → k ≠ 20 → k ≠ 33 → k ≠ 34 → k ≠ 35 → k ≠ 36 → ∀ z, ti h4 c z = ti f c z := fun c k hc hk g0 g1 g2 g3 g4 z => by
    rw [fr c hc (ne_tk hk k9 g1) (ne_tk hk k10 g2) (ne_tk hk k11 g3) (ne_tk hk k12 g4), oi _ _ hc, if_neg (fun h => ne_tk hk iM.2 g0 h.1)]
  have wM : ∀ m', m' < 40 → ∀ z, ti h4 (ad (100 + m')) z = ti f5 (ad (100 + m')) z := fun m' hm' z => by
    have iM' := hA.man hO m0 hm'
    exact fr _ iM'.1 (ne_tk iM'.2 k9 (by decide)) (ne_tk iM'.2 k10 (by decide)) (ne_tk iM'.2 k11 (by decide)) (ne_tk iM'.2 k12 (by decide)) z
  have hTb : ¬ T < 0 ∧ ¬ 499 < T := by
    obtain ⟨b1, b2⟩ := hO.i m1 (show slotD 27 1 = some (.inl (0, 359999)) from rfl)
    obtain ⟨n', hn', e'⟩ := nI_of2 (M := 359999) (n := 359999) (by decide) b1 (by rw [Int32.lt_iff_toInt_lt] at b2; rw [Int32.le_iff_toInt_le]; omega)
    rw [← hT, e', show (720 : Int32) = nI 720 from rfl, pk_div (by omega) (by decide) (by decide), show (499 : Int32) = nI 499 from rfl, nI_ltI (by decide) (by omega)]
    exact ⟨nI_pos (by omega), by omega⟩
  have z499 : (499 : Int32).toInt = 499 := by decide
  have z0 : (0 : Int32).toInt = 0 := by decide
  rw [Int32.lt_iff_toInt_lt, Int32.lt_iff_toInt_lt] at hTb
  refine hK.bind hA hO m0 hm (b := qn) (c := qa) (d := qb) hqn (fun h => nqa qa h rfl) (fun h => nqb qb h rfl) ?_ ?_ ⟨?_, ?_, ?_, ?_, ?_, 0, by decide, ?_, ?_, fun k hk => absurd hk (by omega), ?_⟩ (fun m' hm' hne => ?_) (fun c z hc hk => ?_) (fun c k hc hk hkk z => ?_)
  · rw [wM m hm, oi _ _ iM.1, if_pos ⟨rfl, rfl⟩]
  · rw [w9, if_pos rfl]
  · rw [hr4, orr _ _ iM.1, if_pos ⟨rfl, rfl⟩]
  · rw [hr4]; exact n2
  · rw [hr4]; exact n3
  · rw [frn _ hqn, v0, w10, if_pos rfl]
  · rw [frn _ hqn, v1, w11, if_pos rfl]
  · rw [frn _ hqn]; exact v4
  · rw [w12, if_pos rfl]; rfl
  · rw [w11, if_pos rfl]
    exact ⟨by omega, Int.le_refl _, by omega, fun k hk => absurd hk (by omega), fun k k' hk => absurd hk (by omega)⟩
  · have hMM : ad (100 + m') ≠ ad (100 + m) := fun e => hne (hA.2.2.1 m' m hm' hm e)
    have iM' := hA.man hO m0 hm'
    refine ⟨?_, ?_, ?_, ?_, ?_, ?_, fun z => wk _ 37 (iR 13 (by decide)) (im 13 (by decide)).2 (by decide) (by decide) (by decide) (by decide) (by decide) z, fun z => wk _ 38 (iR 14 (by decide)) (im 14 (by decide)).2 (by decide) (by decide) (by decide) (by decide) (by decide) z⟩
    · rw [wM m' hm', oi _ _ iM'.1, if_neg (fun h => hMM h.1)]
    · rw [hr4, orr _ _ iM'.1, if_neg (fun h => hMM h.1)]
    · rw [w9, if_neg hne]
    · rw [w10, if_neg hne]
    · rw [w11, if_neg hne]
    · rw [w12, if_neg hne]
  · rw [hr4, orr _ _ hc, if_neg (fun h => ne_tk hk iM.2 (by decide) h.1)]
  · exact wk c k hc hk (by rintro rfl; exact absurd hkk (by decide)) (by rintro rfl; exact absurd hkk (by decide)) (by rintro rfl; exact absurd hkk (by decide)) (by rintro rfl; exact absurd hkk (by decide)) (by rintro rfl; exact absurd hkk (by decide)) z
end BND
