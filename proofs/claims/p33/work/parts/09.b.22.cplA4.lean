section SRV
variable {L : List Nat} {f : TF} {q0 q1 : Nat} {ad : Nat → Nat} {D : Int}
/-- the days that man m has served on day T -/
def svd (f : TF) (ad : Nat → Nat) (m : Nat) (T : Int32) : Int32 := dsv T (gF f ad m) (gT f ad m) (ti f (ad 12) m).toNatClampNeg 0 (T - ti f (ad 11) m)
theorem svd_nn {m b c d : Nat} {T : Int32} (h : Bnd f ad T.toInt m b c d) : ¬ svd f ad m T < 0 := by
  obtain ⟨b1, b2, b3, b4, b5, G, b6, b7, b8, b9, b10⟩ := h
  unfold svd
  rw [b8, nI_clamp (by omega), Int32.lt_iff_toInt_lt]
  have z0 : (0 : Int32).toInt = 0 := by decide
  have := dsv_val b10 G 0 (T - ti f (ad 11) m) (by omega) (by
    obtain ⟨c1, c2, c3, -, -⟩ := b10
    show _ = _ - _ - 0
    rw [fb_subI (by omega) (by omega)]
    omega)
  omega
theorem srv_x {m b c d : Nat} {T : Int32} {Q : Int32 → Prop} (h : Bnd f ad D m b c d) (hq : Q (svd f ad m T)) : wp_Bd_daysServed_w L f b T Q := by
  obtain ⟨b1, b2, b3, b4, b5, G, b6, b7, b8, b9, b10⟩ := h
  unfold svd at hq
  rw [b8, nI_clamp (by omega)] at hq
  intro x1 e1
  rw [b5] at e1
  subst e1
  have hstep : ∀ (rc : Int32 → Int32 → Prop) (k : Nat) (v : Int32), k ≤ G → Q (dsv T (gF f ad m) (gT f ad m) (G - k) k v) → (∀ v', k < G → Q (dsv T (gF f ad m) (gT f ad m) (G - (k + 1)) (k + 1) v') → rc v' (nI (k + 1))) → wpB_Bd_daysServed_w_9_2 L f b T (ti f (ad 11) m) Q rc v (nI k) := by
    intro rc k v hk hqk hrec x3 e3
    rw [b7] at e3
    subst e3
    refine ⟨fun g => ?_, fun g q5 e5 x6 e6 y7 e7 q8 e8 x9 e9 => ?_⟩
    · rw [nI_leI (by omega) (by omega)] at g
      rw [dsv_z g] at hqk
      exact hqk
    · rw [nI_leI (by omega) (by omega)] at g
      have hlt : k < G := by omega
      rw [b3] at e5; cases e5
      rw [b2] at e8; cases e8
      rw [nI_clamp (by omega), (b9 k hlt).2] at e6
      rw [nI_clamp (by omega), (b9 k hlt).1] at e9
      subst e6 e7 e9
      rw [dsv_s hlt] at hqk
      rw [nI_1]
      exact hrec _ hlt hqk
  have hloop : ∀ (n k : Nat) (v : Int32), k ≤ G → Q (dsv T (gF f ad m) (gT f ad m) (G - k) k v) → wpL_Bd_daysServed_w_9_2 L f b T (ti f (ad 11) m) Q n v (nI k) := by
    intro n
    induction n with
    | zero => intro k v c1 c2; exact hstep (fun _ _ => True) k v c1 c2 (fun _ _ _ => trivial)
    | succ n ih => intro k v c1 c2; exact hstep _ k v c1 c2 (fun v' d1 d2 => ih _ _ (by omega) d2)
  exact hloop _ 0 _ (Nat.zero_le _) hq
theorem ix6 (m k : Nat) : (6 : Int32) * nI m + nI k = nI (6 * m + k) := by rw [show (6 : Int32) = nI 6 from rfl, pk_mul, nI_add]
theorem srv_m {m b c d : Nat} {Q : Int32 → Prop} (hA : Ad f q0 q1 ad) (hm : m < 40) (h : Bnd f ad (ti f q1 1 / 720).toInt m b c d) (hq : Q (svd f ad m (ti f q1 1 / 720))) : wp_Md_servedOf_w L f q1 (nI m) Q := by
  obtain ⟨b1, b2, b3, b4, b5, G, b6, b7, b8, b9, b10⟩ := h
  unfold svd at hq
  rw [b8, nI_clamp (by omega)] at hq
  have r := hA.2.2.2
  refine today_m ?_
  have hT : ti f q1 1 / 720 = ti f q1 1 / 720 := rfl
  generalize hT' : ti f q1 1 / 720 = T at *
  intro q6 e6 x7 e7
  rw [r 11 (by decide)] at e6; cases e6
  rw [nI_clamp (by omega)] at e7
  subst e7
  have hstep : ∀ (rc : Int32 → Int32 → Prop) (k : Nat) (v : Int32), k ≤ G → Q (dsv T (gF f ad m) (gT f ad m) (G - k) k v) → (∀ v', k < G → Q (dsv T (gF f ad m) (gT f ad m) (G - (k + 1)) (k + 1) v') → rc v' (nI (k + 1))) → wpB_Md_servedOf_w_14_8 L f q1 (nI m) T (ad 11) (ti f (ad 11) m) Q rc v (nI k) := by
    intro rc k v hk hqk hrec q9 e9 x10 e10
    rw [r 12 (by decide)] at e9; cases e9
    rw [nI_clamp (by omega), b8] at e10
    subst e10
    refine ⟨fun g => ?_, fun g q12 e12 x13 e13 => today_m ?_⟩
    · rw [nI_leI (by omega) (by omega)] at g
      rw [dsv_z g] at hqk
      exact hqk
    · rw [nI_leI (by omega) (by omega)] at g
      have hlt : k < G := by omega
      rw [r 14 (by decide)] at e12; cases e12
      rw [ix6, nI_clamp (by omega)] at e13
      rw [hT']
      have e13' : gT f ad m k = x13 := e13
      obtain ⟨g1, g2⟩ := gap_ref b10 hlt
      rw [dsv_s hlt] at hqk
      refine ⟨fun gg => today_m ?_, fun gg q28 e28 x29 e29 => ?_⟩
      · intro q25 e25 x26 e26
        rw [r 13 (by decide)] at e25; cases e25
        rw [ix6, nI_clamp (by omega)] at e26
        have e26' : gF f ad m k = x26 := e26
        subst e26'
        subst e13'
        rw [hT', nI_1, g1 gg]
        exact hrec _ hlt hqk
      · rw [r 13 (by decide)] at e28; cases e28
        rw [ix6, nI_clamp (by omega)] at e29
        have e29' : gF f ad m k = x29 := e29
        subst e29'
        subst e13'
        rw [nI_1, g2 gg]
        exact hrec _ hlt hqk
  have hloop : ∀ (n k : Nat) (v : Int32), k ≤ G → Q (dsv T (gF f ad m) (gT f ad m) (G - k) k v) → wpL_Md_servedOf_w_14_8 L f q1 (nI m) T (ad 11) (ti f (ad 11) m) Q n v (nI k) := by
    intro n
    induction n with
    | zero => intro k v c1 c2; exact hstep (fun _ _ => True) k v c1 c2 (fun _ _ _ => trivial)
    | succ n ih => intro k v c1 c2; exact hstep _ k v c1 c2 (fun v' d1 d2 => ih _ _ (by omega) d2)
  exact hloop _ 0 _ (Nat.zero_le _) hq
theorem served_g {p T : Int32} {Q : Int32 → Prop} (hA : Ad f q0 q1 ad) (hK : K1 f ad T.toInt) (ht : ti f q0 10 / 720 = T) (hn : ¬ isM p → Q (-1)) (h2 : ∀ m, m < 40 → p = nI m → ti f (ad 9) m ≠ 1 → Q (-2)) (h1 : ∀ m, m < 40 → p = nI m → ti f (ad 9) m = 1 → Q (svd f ad m T)) : wp_WM_served_w L f q0 p Q := by
  obtain ⟨bd, bF, bT, a1, a2, a3⟩ := id hK
  refine manAt_x hA (fun h => ⟨fun _ => hn h, fun q z => (by cases z)⟩) (fun m hm hp => ⟨fun z => (by cases z), fun q eq => ⟨fun e => ?_, fun q2 e2 x3 e3 => ?_⟩⟩)
  · cases eq
    refine h2 m hm hp (fun hs => ?_)
    rw [(a2 m hm hs).1] at e
    cases e
  · cases eq
    rw [a1 m hm] at e3
    subst e3
    refine ⟨fun hs => today_x rfl ?_, fun hs => h2 m hm hp hs⟩
    have hb := a2 m hm hs
    rw [hb.1] at e2; cases e2
    rw [ht]
    exact srv_x hb (h1 m hm hp hs)
theorem pr_served (_ : Ok L f) (_ : q0 ∈ L ∧ tk f q0 = 0) (_ : q1 ∈ L ∧ tk f q1 = 27) (hA : Ad f q0 q1 ad) (hK : K1 f ad (ti f q1 1 / 720).toInt) (ht : ti f q0 10 = ti f q1 1) (p_0 : Int32) : wp_WM_served_w L f q0 p_0 (fun r => wp_Md_served_w L f q1 p_0 (fun r' => r = r')) := by
  have r := hA.2.2.2
  refine served_g hA hK (by rw [ht]) (fun h => mck (fun _ => rfl) (fun k => absurd k h)) (fun m hm hp hs => ?_) (fun m hm hp hs => ?_)
  · subst hp
    refine mck (fun k => absurd (isM_nI hm) k) (fun _ q4 e4 x5 e5 => ?_)
    rw [r 9 (by decide)] at e4; cases e4
    rw [nI_clamp (by omega)] at e5
    subst e5
    exact ⟨fun k => absurd k hs, fun _ => rfl⟩
  · subst hp
    refine mck (fun k => absurd (isM_nI hm) k) (fun _ q4 e4 x5 e5 => ?_)
    rw [r 9 (by decide)] at e4; cases e4
    rw [nI_clamp (by omega)] at e5
    subst e5
    obtain ⟨bd, bF, bT, a1, a2, a3⟩ := id hK
    exact ⟨fun _ => srv_m hA hm (a2 m hm hs) rfl, fun k => absurd hs k⟩
theorem pr_pass (hO : Ok L f) (m0 : q0 ∈ L ∧ tk f q0 = 0) (m1 : q1 ∈ L ∧ tk f q1 = 27) (hA : Ad f q0 q1 ad) (hK : K1 f ad (ti f q1 1 / 720).toInt) (ht : ti f q0 10 = ti f q1 1) (p_0 : Int32) : wp_WM_pass_w L f q0 p_0 (PairG (fun _ g => K1 g ad (ti f q1 1 / 720).toInt) q0 q1 (fun L f Q => wp_Md_pass_w L f q1 p_0 Q)) := by
  have r := hA.2.2.2
  have im := hA.m hO m1
  refine served_g hA hK (by rw [ht]) (fun h => ?_) (fun m hm hp hs => ?_) (fun m hm hp hs => ?_)
  · refine manAt_x hA (fun _ => ⟨fun _ => ⟨fun _ _ _ _ => mck (fun _ _ => ⟨rfl, hK⟩) (fun k => absurd k h), fun k => absurd (by decide) k⟩, fun q z => (by cases z)⟩) (fun m hm hp => absurd (hp ▸ isM_nI hm) h)
  · subst hp
    have hbad : PairG (fun _ g => K1 g ad (ti f q1 1 / 720).toInt) q0 q1 (fun L f Q => wp_Md_pass_w L f q1 (nI m) Q) (-2) L f := by
      intro _ _ _
      refine mck (fun k => absurd (isM_nI hm) k) (fun _ q4 e4 x5 e5 => ?_)
      rw [r 9 (by decide)] at e4; cases e4
      rw [nI_clamp (by omega)] at e5
      subst e5
      exact ⟨fun k => absurd k hs, fun _ _ => ⟨rfl, hK⟩⟩
    exact manAt_x hA (fun _ => ⟨fun _ => ⟨fun _ => hbad, fun _ => hbad⟩, fun q z => (by cases z)⟩) (fun m' hm' hp' => ⟨fun z => (by cases z), fun q eq => ⟨fun _ => hbad, fun k => absurd (by decide) k⟩⟩)
  · subst hp
    obtain ⟨bd, bF, bT, a1, a2, a3⟩ := id hK
    have hb := a2 m hm hs
    have hnn := svd_nn hb
    refine manAt_x hA (fun k => absurd (isM_nI hm) k) (fun m' hm' hp' => ⟨fun z => (by cases z), fun q eq => ⟨fun k => absurd k hnn, fun _ => ⟨fun k f1 hf1 hO1 _ m0' m1' => ?_, fun k _ _ _ => ?_⟩⟩⟩)
    · rw [nI_eq (by omega) (by omega)] at hp'
      subst hp'
      cases eq
      have n9 : ad (100 + m) ≠ ad 9 := ne_tk (hA.man hO m0 hm).2 (im 9 (by decide)).2 (by decide)
      have nq : q1 ≠ ad (100 + m) := ne_tk m1.2 (hA.man hO m0 hm).2 (by decide)
      have nk : ∀ k, k ∈ RK → ad k ≠ ad (100 + m) := fun k hk => ne_tk (im k hk).2 (hA.man hO m0 hm).2 (by
        unfold kd
        repeat' split
        all_goals omega)
      have hT1 : ti f1 q1 1 = ti f q1 1 := by rw [hf1, ti_sI_ne nq]
      have hA1 : Ad f1 q0 q1 ad := hA.same (fun z => by rw [hf1, tr_sI]) (fun z => by rw [hf1, tr_sI]) (fun z => by rw [hf1, tr_sI])
      have eS : svd f1 ad m (ti f1 q1 1 / 720) = svd f ad m (ti f q1 1 / 720) := by
        have e13 : gF f1 ad m = gF f ad m := by funext z; unfold gF; rw [hf1, ti_sI_ne (nk 13 (by decide))]
        have e14 : gT f1 ad m = gT f ad m := by funext z; unfold gT; rw [hf1, ti_sI_ne (nk 14 (by decide))]
        unfold svd
        rw [e13, e14, hT1, hf1, ti_sI_ne (nk 12 (by decide)), ti_sI_ne (nk 11 (by decide))]
      have ib := bnd_m hA hO m0 hm hb
      have hb1 : Bnd f1 ad (ti f1 q1 1 / 720).toInt m (bd m) (bF m) (bT m) := by
        rw [hT1]
        have nb : ∀ c k z, tk f c = k → k ≠ 20 → ti f1 c z = ti f c z := fun c k z hc hk => by rw [hf1, ti_sI_ne (ne_tk hc (hA.man hO m0 hm).2 hk)]
        exact hb.keep (by rw [hf1, tr_sI]) (fun z => by rw [hf1, tr_sI]) (fun z => nb _ _ z ib.1.2 (by decide)) (fun z => nb _ _ z ib.2.1.2 (by decide)) (fun z => nb _ _ z ib.2.2.2 (by decide)) (nb _ _ _ (im 10 (by decide)).2 (by decide)) (nb _ _ _ (im 11 (by decide)).2 (by decide)) (nb _ _ _ (im 12 (by decide)).2 (by decide)) (fun k _ => nb _ _ _ (im 13 (by decide)).2 (by decide)) (fun k _ => nb _ _ _ (im 14 (by decide)).2 (by decide))
      refine mck (fun k => absurd (isM_nI hm) k) (fun _ q4 e4 x5 e5 => ?_)
      rw [hA1.2.2.2 9 (by decide)] at e4; cases e4
      rw [nI_clamp (by omega), hf1, ti_sI_ne n9.symm] at e5
      subst e5
      refine ⟨fun _ => srv_m hA1 hm hb1 ?_, fun k => absurd hs k⟩
      rw [eS]
      refine ⟨fun _ f2 hf2 hO2 q10 e10 f3 hf3 hO3 _ => ⟨rfl, ?_⟩, fun k' => absurd k k'⟩
      rw [hf2, tr_sI, hA1.2.2.2 10 (by decide)] at e10; cases e10
      rw [nI_clamp (by omega)] at hf2 hf3
      have e3 : ∀ c k z, tk f c = k → k ≠ 20 → k ≠ 33 → k ≠ 34 → ti f3 c z = ti f c z := fun c k z hc g1 g2 g3 => by
        rw [hf3, ti_sI_ne (ne_tk hc (im 10 (by decide)).2 g3), hf2, ti_sI_ne (ne_tk hc (im 9 (by decide)).2 g2), hf1, ti_sI_ne (ne_tk hc (hA.man hO m0 hm).2 g1)]
      have k9 : tk f (ad 9) = 33 := (im 9 (by decide)).2
      have k10 : tk f (ad 10) = 34 := (im 10 (by decide)).2
      have n910 : ad 9 ≠ ad 10 := ne_tk k9 k10 (by decide)
      refine hK.upd hA hO m0 hm (v := 2) (by decide) ?_ ?_ (fun m' hm' hn => ?_) (fun c z _ _ => by rw [hf3, tr_sI, hf2, tr_sI, hf1, tr_sI]) (fun c k' _ hc hk' z => ?_)
      · rw [hf3, ti_sI_ne (ne_tk (hA.man hO m0 hm).2 k10 (by decide)), hf2, ti_sI_ne n9, hf1, ti_sI_eq]
      · rw [hf3, ti_sI_ne n910, hf2, ti_sI_eq]
      · have hne : ad (100 + m') ≠ ad (100 + m) := fun e => hn (hA.2.2.1 m' m hm' hm e)
        refine ⟨?_, ?_, ?_, e3 _ _ _ (im 11 (by decide)).2 (by decide) (by decide) (by decide), e3 _ _ _ (im 12 (by decide)).2 (by decide) (by decide) (by decide), fun z => e3 _ _ _ (im 13 (by decide)).2 (by decide) (by decide) (by decide), fun z => e3 _ _ _ (im 14 (by decide)).2 (by decide) (by decide) (by decide)⟩
        · rw [hf3, ti_sI_ne (ne_tk (hA.man hO m0 hm').2 k10 (by decide)), hf2, ti_sI_ne (ne_tk (hA.man hO m0 hm').2 k9 (by decide)), hf1, ti_sI_ne hne]
        · rw [hf3, ti_sI_ne n910, hf2, ti_sI_nj hn, hf1, ti_sI_ne n9.symm]
        · rw [hf3, ti_sI_nj hn, hf2, ti_sI_ne n910.symm, hf1, ti_sI_ne (nk 10 (by decide))]
      · exact e3 c k' z hc (by rintro rfl; exact absurd hk' (by decide)) (by rintro rfl; exact absurd hk' (by decide)) (by rintro rfl; exact absurd hk' (by decide))
    · refine mck (fun k => absurd (isM_nI hm) k) (fun _ q4 e4 x5 e5 => ?_)
      rw [r 9 (by decide)] at e4; cases e4
      rw [nI_clamp (by omega)] at e5
      subst e5
      exact ⟨fun _ => srv_m hA hm hb ⟨fun k' => absurd k' k, fun _ _ => ⟨rfl, hK⟩⟩, fun k' => absurd hs k'⟩
end SRV
