section ROX
variable {L : List Nat} {f : TF} {q0 q1 : Nat} {ad : Nat → Nat}
set_option maxHeartbeats 4000000 in
theorem pr_row (hO : Ok L f) (m0 : q0 ∈ L ∧ tk f q0 = 0) (m1 : q1 ∈ L ∧ tk f q1 = 27) (hC : Cpl L f q0 q1) (hD : CO f q0 q1) (hM : CM f q1) (hA : Ad f q0 q1 ad) {D : Int} (hK1 : K1 f ad D) {j : Nat} (hK2 : K2 f q0 ad (ti f q1 2).toNatClampNeg j) (hK3 : K3 f q0 q1 ad (ti f q1 1) (ti f q1 2).toNatClampNeg) (hK5 : K5 f q1 ad) (p_0 p_1 p_2 p_3 : Int32) : wp_WM_row_w L f q0 p_0 p_1 p_2 p_3 (PairG (fun _ g => K2 g q0 ad (ti f q1 2).toNatClampNeg j ∧ K3 g q0 q1 ad (ti f q1 1) (ti f q1 2).toNatClampNeg) q0 q1 (fun L f Q => wp_Md_row_w L f q1 p_0 p_1 p_2 p_3 Q)) := by
  obtain ⟨ad', hR, hV⟩ := id hC
  obtain ⟨n, qx, cO, cF, cH, cS, am, oo, hOo⟩ := hD.full
  obtain ⟨hN, hN2⟩ := nst hO m1
  obtain ⟨tn, htn, hTn⟩ := tb_n hO m1
  have ht : ti f q0 10 = ti f q1 1 := hV.1
  have hStn : ∀ p, St f q1 p → ∃ s, s < (ti f q1 2).toNatClampNeg ∧ p = nI s := fun p h => h.n hO m1
  have im := hA.m hO m1
  have r := hA.2.2.2
  generalize hNN : (ti f q1 2).toNatClampNeg = N at *
  have hT0 : ti f q1 1 = ti f q1 1 := rfl
  generalize hTT : ti f q1 1 = T at *
  obtain ⟨ql, J, j1, j2, hTX, hTM, j5, j6⟩ := id hK2
  obtain ⟨bt, tp, nB, nT, hB, h1, h2, h3⟩ := id hK3
  have h20 := hB.1.1
  have h600 := hB.1.2
  have hKK : K2 f q0 ad N j ∧ K3 f q0 q1 ad T N := ⟨hK2, hK3⟩
  have e64 : ad 64 = ad' 1 := Option.some.inj (hA.1.1.symm.trans hR.1)
  have hbad : (((p_0 < 0 ∨ nI nB - 1 < p_0) ∨ ¬ isM p_1 ∨ ∃ b, b < nB ∧ p_0 = nI b ∧ (¬ ti f (ad 26) b = 0 ∨ ¬ St f q1 p_2 ∨ p_2 = ti f (ad 23) b)) ∨ p_3 < 0 ∨ 1000000 < p_3) → PairG (fun _ g => K2 g q0 ad N j ∧ K3 g q0 q1 ad T N) q0 q1 (fun L f Q => wp_Md_row_w L f q1 p_0 p_1 p_2 p_3 Q) (-1) L f := by
    intro h _ _ _
    refine asked_m hA hB (fun _ => ⟨fun _ _ => ⟨rfl, hKK⟩, fun z => absurd z (by decide)⟩) (fun b hb hp k1 k2 k3 k4 => ⟨fun z => absurd z (by decide), fun _ => ⟨fun _ _ => ⟨rfl, hKK⟩, fun g1 => ⟨fun _ _ => ⟨rfl, hKK⟩, fun g2 => ?_⟩⟩⟩)
    rcases h with (h | h | ⟨b', hb', hp', h⟩) | h | h
    · exact absurd (hp ▸ h) (nb_no hb (by omega))
    · exact absurd k1 h
    · have : b = b' := by
        rw [hp, nI_eq (by omega) (by omega)] at hp'
        exact hp'
      subst this
      rcases h with h | h | h
      · exact absurd k2 h
      · exact absurd k3 h
      · exact absurd h k4
    · exact absurd h g1
    · exact absurd h g2
  refine boatAt_x hA hB (fun h => ⟨fun _ => manAt_x hA (fun _ => ⟨fun _ => hbad (Or.inl (Or.inl h)), fun _ _ => hbad (Or.inl (Or.inl h))⟩) (fun _ _ _ => ⟨fun _ => hbad (Or.inl (Or.inl h)), fun _ _ => hbad (Or.inl (Or.inl h))⟩), fun q z => (by cases z)⟩) (fun b hb hp => ⟨fun z => (by cases z), fun q eq => manAt_x hA (fun h => ⟨fun _ => hbad (Or.inl (Or.inr (Or.inl h))), fun q z => (by cases z)⟩) (fun m hm hp' => ⟨fun z => (by cases z), fun q' eq' => ?_⟩)⟩)
  cases eq
  cases eq'
  subst hp hp'
  have hBR := h1 b hb
  obtain ⟨s, hsN, has⟩ := hBR.2.2.2.2.1
  refine mayGo_x (bt := bt) hO m1 hR hV hBR has (fun k1 k2 k3 => ⟨fun z => absurd z (by decide), fun _ => ⟨fun z => hbad (Or.inr (Or.inl z)), fun c1 => ⟨fun c2 => ?_, fun z => hbad (Or.inr (Or.inr (lt32.mp z)))⟩⟩⟩) (fun h => ⟨fun _ => hbad (Or.inl (Or.inr (Or.inr ⟨b, hb, rfl, by rw [has]; exact h⟩))), fun z => absurd z (by decide)⟩)
  have c2' : ¬ 1000000 < p_3 := fun z => lt32.mpr z c2
  refine hind_x hO m0 m1 hR hV hM hOo hA hK1 hTX hTM hB hBR (h2 m hm) hTT htn hTn hN hN2 hb hm hsN has k2 k3 k1 (fun v hv => ?_) ht (by rw [← e64]; exact hK5.1) hK5.2
  -- the reference's way through the same tests, over a state that has its rows
  have hrun : ∀ (L1 : List Nat) (g : TF) (P : Int32 → Prop), Ad g q0 q1 ad → Refs g q0 q1 ad' → (∀ c z, c ∈ L → 27 ≤ tk f c → ti g c z = ti f c z ∧ tr g c z = tr f c z) → P v → wp_Md_hinders_w L1 g q1 (nI b) (nI m) p_2 P := by
    intro L1 g P hAg hRg hg hP
    have hMs := refs_m hO m0 m1 hR
    have gR : ∀ k, k ∈ RK → ∀ z, ti g (ad k) z = ti f (ad k) z := fun k hk z => (hg _ z (im k hk).1 (by rw [(im k hk).2]; have := RK_kd hk; omega)).1
    have gM : ∀ k, k ∈ [28, 29, 30, 31, 32] → ∀ z, ti g (ad' k) z = ti f (ad' k) z := fun k hk z => by
      have hk' : k ∈ [1, 2, 3, 4, 5, 28, 29, 30, 31, 32] := by
        simp only [List.mem_cons, List.not_mem_nil, or_false] at hk ⊢
        omega
      refine (hg _ z (hMs k hk').1 ?_).1
      rw [(hMs k hk').2]
      simp only [List.mem_cons, List.not_mem_nil, or_false] at hk
      omega
    have g1 : ∀ z, ti g q1 z = ti f q1 z := fun z => (hg q1 z m1.1 (by rw [m1.2]; decide)).1
    have iA := am_m hO m1 hOo.1.2.2.2.2.1
    have gA : ∀ k, 30 ≤ k → k ≤ 41 → ∀ z, ti g (am k) z = ti f (am k) z := fun k k1 k2 z => (hg _ z (iA k k1 k2).1 (by rw [(iA k k1 k2).2]; omega)).1
    have g1r : ∀ z, tr g q1 z = tr f q1 z := fun z => (hg q1 z m1.1 (by rw [m1.2]; decide)).2
    have ham : ∀ k, 30 ≤ k → k ≤ 41 → tr g q1 k = some (am k) := fun k k1 k2 => (g1r k).trans (hOo.1.2.2.2.2.1 k k1 k2)
    have eup : mup g ad' (nI s) p_2 = mup f ad' (nI s) p_2 := by unfold mup; rw [gM 28 (by decide), gM 28 (by decide)]
    have edi : mdi g ad' (nI s) p_2 = mdi f ad' (nI s) p_2 := by unfold mdi; rw [eup]
    have ehg : ∀ x y, hgt g ad' x y = hgt f ad' x y := fun x y => by unfold hgt; rw [gM 29 (by decide), gM 30 (by decide), gM 31 (by decide)]
    have efl : flv g ad' (T / 720) (hrs T) = flv f ad' (T / 720) (hrs T) := by unfold flv; rw [ehg, ehg, ehg]
    have efi : ∀ i, fi g am (T / 720) (T / 720) i = fi f am (T / 720) (T / 720) i := by
      intro i
      induction i with
      | zero => rfl
      | succ i ih => unfold fi; rw [ih, gA 31 (by decide) (by decide), gA 30 (by decide) (by decide)]
    refine hinders_r (n := n) (am := am) (oo := oo) (ql := ql) (s := s) (T := T) hRg hOo.1.1 ((g1 29).trans hOo.1.2.2.1) ham (fun i hi => ⟨(hOo.2 i hi).1, ?_⟩) hAg (hTM.keep (gR 19 (by decide)) (gR 20 (by decide))) (fun s hs x hx => (hTX.1 s hs x hx).1) ((g1 1).trans hTT) (by omega) hm (by omega) ((gR 23 (by decide) b).trans has) (fun w hw => ?_)
    · obtain ⟨b1, b2, b3, b4, b5⟩ := (hOo.2 i hi).2.2
      exact ⟨fun k k1 k2 => ham k (by omega) k2, b2.keep (fun d z hd => by
        simp only [List.mem_cons, List.not_mem_nil, or_false] at hd
        rcases hd with rfl | rfl | rfl | rfl
        · exact gA 32 (by decide) (by decide) z
        · exact gA 33 (by decide) (by decide) z
        · exact gA 34 (by decide) (by decide) z
        · exact gA 35 (by decide) (by decide) z), b3.keep (fun d z hd => by
        simp only [List.mem_cons, List.not_mem_nil, or_false] at hd
        rcases hd with rfl | rfl | rfl | rfl
        · exact gA 36 (by decide) (by decide) z
        · exact gA 37 (by decide) (by decide) z
        · exact gA 38 (by decide) (by decide) z
        · exact gA 39 (by decide) (by decide) z), fun j hj => (gA 40 (by decide) (by decide) _).trans (b4 j hj), fun h => (gA 41 (by decide) (by decide) _).trans (b5 h)⟩
    · rw [gM 32 (by decide), gR 25 (by decide), gR 9 (by decide), gR 16 (by decide), efi n, edi, efl, eup, gR 22 (by decide), g1 4] at hw
      rw [← hv.uni hw]
      exact hP
  have hrf : ∀ c z, c ∈ L → 27 ≤ tk f c → ti f c z = ti f c z ∧ tr f c z = tr f c z := fun _ _ _ _ => ⟨rfl, rfl⟩
  refine ⟨fun hv0 x11 e11 => ?_, fun hv0 _ _ _ => ?_⟩
  rotate_left
  · -- hindered
    refine asked_m hA hB (fun h => ?_) (fun b' hb' hp _ _ _ _ => ⟨fun z => absurd z (by decide), fun _ => ⟨fun z => absurd z c1, fun _ => ⟨fun z => absurd z c2', fun _ => hrun L f _ hA hR hrf ⟨fun z => absurd z (hv.pos hv0), fun _ _ => ⟨rfl, hKK⟩⟩⟩⟩⟩)
    rcases h with h | h | ⟨b', hb', hp', h⟩
    · exact absurd h (nb_no hb (by omega))
    · exact absurd (isM_nI hm) h
    · have : b = b' := by
        rw [nI_eq (by omega) (by omega)] at hp'
        exact hp'
      subst this
      rw [has] at h
      rcases h with h | h | h
      · exact absurd k1 h
      · exact absurd k2 h
      · exact absurd h k3
  subst hv0
  rw [hB.2.1.2.2.1] at e11
  subst e11
  obtain ⟨z2, z3, z7⟩ := hv.zero
  have hnoask : ¬ ((nI b < 0 ∨ nI nB - 1 < nI b) ∨ ¬ isM (nI m) ∨ ∃ b', b' < nB ∧ nI b = nI b' ∧ (¬ ti f (ad 26) b' = 0 ∨ ¬ St f q1 p_2 ∨ p_2 = ti f (ad 23) b')) := by
    rintro (h | h | ⟨b', hb', hp', h⟩)
    · exact absurd h (nb_no hb (by omega))
    · exact absurd (isM_nI hm) h
    · have : b = b' := by
        rw [nI_eq (by omega) (by omega)] at hp'
        exact hp'
      subst this
      rw [has] at h
      rcases h with h | h | h
      · exact absurd k1 h
      · exact absurd k2 h
      · exact absurd h k3
  have hneg : ∀ {x : Int32}, ¬ 0 ≤ x → (x = -1 ∨ ∃ t, t < nT ∧ x = nI t) → x = -1 := fun h h' => h'.elim id (fun ⟨t, ht, e⟩ => absurd (le0.mpr (by rw [e]; exact nI_pos (by omega))) h)
  have hb25 : ti f (ad 25) b = -1 := hneg z2 (hBR.2.2.2.2.2.elim (fun h => Or.inl h.1) (fun ⟨t, ht, e, _⟩ => Or.inr ⟨t, ht, e⟩))
  have hm16 : ti f (ad 16) m = -1 := hneg (fun z => z3 (Or.inr z)) ((h2 m hm).2.elim (fun h => Or.inl h.1) (fun ⟨t, ht, e, _⟩ => Or.inr ⟨t, ht, e⟩))
  refine ⟨fun g600 qn L1 f1 hqn hL1 hf1 hO1 x13 e13 g1 hg1 _ g2 hg2 _ g3 hg3 _ g4 hg4 _ _ _ x15 e15 f3 hf3 _ f4 hf4 hO4 => ?_, fun g600 _ _ _ => ?_⟩
  rotate_left
  · -- no room
    rw [show (600 : Int32) = nI 600 from rfl, nI_ltI (by omega) (by decide)] at g600
    refine asked_m hA hB (fun h => absurd h hnoask) (fun b' hb' hp _ _ _ _ => ⟨fun z => absurd z (by decide), fun _ => ⟨fun z => absurd z c1, fun _ => ⟨fun z => absurd z c2', fun _ => hrun L f _ hA hR hrf ⟨fun _ x13 e13 => ?_, fun z => absurd (by decide) z⟩⟩⟩⟩)
    rw [hB.2.1.2.2.2] at e13
    subst e13
    have : nT = 600 := by omega
    subst this
    exact ⟨fun _ _ => ⟨rfl, hKK⟩, fun k => absurd rfl k⟩
  rw [show (600 : Int32) = nI 600 from rfl, nI_ltI (by omega) (by decide)] at g600
  have nqn : ∀ c, c ∈ L → c ≠ qn := fun c hc e => hqn (e ▸ hc)
  have ib := hB.bm hA hO m0 hb
  have iM := hA.man hO m0 hm
  have i67 := hA.trips hO m0
  have nq0 : q0 ≠ qn := nqn q0 m0.1
  have nbt : bt b ≠ qn := nqn _ ib.1
  have nMn : ad (100 + m) ≠ qn := nqn _ iM.1
  rw [hf1, ti_nC nq0, ht] at e13
  subst e13
  have o4 : ∀ c z, c ∈ L → ti f4 c z = ti f c z := fun c z hc => by rw [hf4, ti_sI_ne (nqn c hc), hf3, ti_sI_ne (nqn c hc), hg4, ti_sI_ne (nqn c hc), hg3, ti_sI_ne (nqn c hc), hg2, ti_sI_ne (nqn c hc), hg1, ti_sI_ne (nqn c hc), hf1, ti_nC (nqn c hc)]
  have o4r : ∀ c z, c ∈ L → tr f4 c z = tr f c z := fun c z hc => by rw [hf4, tr_sI, hf3, tr_sI, hg4, tr_sI, hg3, tr_sI, hg2, tr_sI, hg1, tr_sI, hf1, tr_nC (nqn c hc)]
  have o4l : ∀ c z, c ∈ L → tl f4 c z = tl f c z := fun c z hc => by rw [hf4, tl_sI, hf3, tl_sI, hg4, tl_sI, hg3, tl_sI, hg2, tl_sI, hg1, tl_sI, hf1, tl_nC (nqn c hc)]
  have o4k : ∀ c, c ∈ L → tk f4 c = tk f c := fun c hc => by rw [hf4, tk_sI, hf3, tk_sI, hg4, tk_sI, hg3, tk_sI, hg2, tk_sI, hg1, tk_sI, hf1, tk_nC_ne (nqn c hc)]
  have kq4 : tk f4 qn = 25 := by rw [hf4, tk_sI, hf3, tk_sI, hg4, tk_sI, hg3, tk_sI, hg2, tk_sI, hg1, tk_sI, hf1]; unfold tk nC; rw [va_up_self]
  have hE4 : Ext [] L f L1 f4 := Sm.ext (fun c hc => ⟨o4k c hc, fun z => o4 c z hc, fun z => o4l c z hc, fun z => o4r c z hc⟩) (fun c hc => by rw [hL1]; exact List.mem_append_left _ hc)
  obtain ⟨hR4, hV4⟩ := RV.ext hR hV hO m0 m1 hE4 (by decide +kernel)
  have hx15 : x15 = nI s := by
    rw [← e15, hg4, ti_sI_ne nbt, hg3, ti_sI_ne nbt, hg2, ti_sI_ne nbt, hg1, ti_sI_ne nbt, hf1, ti_nC nbt, hBR.2.1]; exact has
  subst hx15
  have hMs := refs_m hO m0 m1 hR
  have hSs := St_s hN hN2 hsN
  have hne' : ¬ nI s = p_2 := fun e => k3 e.symm
  obtain ⟨s1, s2⟩ := mup_sgn hO m1 hR hM hSs k2 hne'
  obtain ⟨mb1, mb2⟩ := mup_b hR hM hO m1 hSs k2
  have eup4 : mup f4 ad' (nI s) p_2 = mup f ad' (nI s) p_2 := by unfold mup; rw [o4 _ _ (hMs 28 (by decide)).1, o4 _ _ (hMs 28 (by decide)).1]
  have edi4 : mdi f4 ad' (nI s) p_2 = mdi f ad' (nI s) p_2 := by unfold mdi; rw [eup4]
  have ehg4 : ∀ x y, hgt f4 ad' x y = hgt f ad' x y := fun x y => by unfold hgt; rw [o4 _ _ (hMs 29 (by decide)).1, o4 _ _ (hMs 30 (by decide)).1, o4 _ _ (hMs 31 (by decide)).1]
  have efl4 : flv f4 ad' (T / 720) (hrs T) = flv f ad' (T / 720) (hrs T) := by unfold flv; rw [ehg4, ehg4, ehg4]
  refine minutesOf_x (q1 := q1) (ad' := ad') (n := tn) (a := nI s) (oars := ti f (ad 22) b) hR4 hV4 ((o4 _ _ m0.1).trans ht) htn hTn ((o4 _ _ ib.1).trans (hBR.2.1.trans has)) ((o4 _ _ ib.1).trans hBR.1) (by rw [eup4]; exact s1) (by rw [eup4, edi4]; exact s2) ?_
  rw [eup4, efl4]
  obtain ⟨mv1, mv2⟩ := mnv_b (fl := flv f ad' (T / 720) (hrs T)) (oars := ti f (ad 22) b) mb1 mb2
  have hmn : mnv (mup f ad' (nI s) p_2) (flv f ad' (T / 720) (hrs T)) (ti f (ad 22) b) = mnv (mup f ad' (nI s) p_2) (flv f ad' (T / 720) (hrs T)) (ti f (ad 22) b) := rfl
  generalize hww : mnv (mup f ad' (nI s) p_2) (flv f ad' (T / 720) (hrs T)) (ti f (ad 22) b) = w at *
  have hTA : T < T + w := by
    have z3' : (359999 : Int32).toInt = 359999 := by decide
    have kT := nI_toInt (n := tn) (by omega)
    rw [← hTn] at kT
    rw [Int32.lt_iff_toInt_lt, fb_addI (by omega) (by omega)]
    omega
  generalize hAA : T + w = A at *
  intro f5 hf5 _ q20 e20 f6 hf6 _ xa ea t1 ht1 _ xb eb t2 ht2 _ xc ec t3 ht3 _ t4 ht4 _ _ _ u1 hu1 _ u2 hu2 _ xd ed u3 hu3 _ _ _ L9 f9 _ hE9 f10 hf10 hO10 _ m0' m1'
  rw [hf5, tr_sI, o4r _ _ m0.1, hA.1.2.2.2.1] at e20; cases e20
  rw [nI_clamp (by omega)] at hf6
  -- the new trip's cell
  have q5 : ti f5 qn 0 = nI b ∧ ti f5 qn 1 = nI m ∧ ti f5 qn 2 = T ∧ ti f5 qn 3 = p_3 ∧ ti f5 qn 4 = nI s ∧ ti f5 qn 5 = p_2 ∧ ti f5 qn 6 = A ∧ ti f5 qn 7 = 0 := by
    refine ⟨?_, ?_, ?_, ?_, ?_, ?_, ?_, ?_⟩
    · rw [hf5, ti_sI_nj (by decide), hf4, ti_sI_nj (by decide), hf3, ti_sI_nj (by decide), hg4, ti_sI_nj (by decide), hg3, ti_sI_nj (by decide), hg2, ti_sI_nj (by decide), hg1, ti_sI_eq]
    · rw [hf5, ti_sI_nj (by decide), hf4, ti_sI_nj (by decide), hf3, ti_sI_nj (by decide), hg4, ti_sI_nj (by decide), hg3, ti_sI_nj (by decide), hg2, ti_sI_eq]
    · rw [hf5, ti_sI_nj (by decide), hf4, ti_sI_nj (by decide), hf3, ti_sI_nj (by decide), hg4, ti_sI_nj (by decide), hg3, ti_sI_eq]
    · rw [hf5, ti_sI_nj (by decide), hf4, ti_sI_nj (by decide), hf3, ti_sI_nj (by decide), hg4, ti_sI_eq]
    · rw [hf5, ti_sI_nj (by decide), hf4, ti_sI_nj (by decide), hf3, ti_sI_eq]
    · rw [hf5, ti_sI_nj (by decide), hf4, ti_sI_eq]
    · rw [hf5, ti_sI_eq]
    · rw [hf5, ti_sI_nj (by decide), hf4, ti_sI_nj (by decide), hf3, ti_sI_nj (by decide), hg4, ti_sI_nj (by decide), hg3, ti_sI_nj (by decide), hg2, ti_sI_nj (by decide), hg1, ti_sI_nj (by decide), hf1, ti_nC_eq]
  rw [hf6, ti_sR, q5.2.2.2.2.2.1] at ea
  subst ea
  rw [ht1, ti_sI_ne nbt.symm, hf6, ti_sR, q5.2.2.2.2.2.2.1] at eb
  subst eb
  rw [ht2, ti_sI_ne nbt.symm, ht1, ti_sI_ne nbt.symm, hf6, ti_sR, q5.2.1] at ec
  subst ec
  have nbM : bt b ≠ ad (100 + m) := ne_tk ib.2 iM.2 (by decide)
  have o6 : ∀ c z, c ∈ L → ti f6 c z = ti f c z := fun c z hc => by rw [hf6, ti_sR, hf5, ti_sI_ne (nqn c hc)]; exact o4 c z hc
  have o3 : ∀ c z, c ∈ L → c ≠ bt b → c ≠ ad (100 + m) → ti u3 c z = ti f c z := fun c z hc d1 d2 => by rw [hu3, ti_sI_ne d2, hu2, ti_sI_ne d2, hu1, ti_sI_ne d2, ht4, ti_sI_ne d1, ht3, ti_sI_ne d1, ht2, ti_sI_ne d1, ht1, ti_sI_ne d1]; exact o6 c z hc
  have oq : ∀ z, ti u3 qn z = ti f5 qn z := fun z => by rw [hu3, ti_sI_ne nMn.symm, hu2, ti_sI_ne nMn.symm, hu1, ti_sI_ne nMn.symm, ht4, ti_sI_ne nbt.symm, ht3, ti_sI_ne nbt.symm, ht2, ti_sI_ne nbt.symm, ht1, ti_sI_ne nbt.symm, hf6, ti_sR]
  have ob : ∀ z, ti u3 (bt b) z = ti t4 (bt b) z := fun z => by rw [hu3, ti_sI_ne nbM, hu2, ti_sI_ne nbM, hu1, ti_sI_ne nbM]
  have b0 : ∀ z, z ≠ 1 → z ≠ 2 → z ≠ 3 → z ≠ 4 → ti u3 (bt b) z = ti f (bt b) z := fun z d1 d2 d3 d4 => by rw [ob, ht4, ti_sI_nj d4, ht3, ti_sI_nj d3, ht2, ti_sI_nj d2, ht1, ti_sI_nj d1]; exact o6 _ _ ib.1
  have b1 : ti u3 (bt b) 1 = p_2 := by rw [ob, ht4, ti_sI_nj (by decide), ht3, ti_sI_nj (by decide), ht2, ti_sI_nj (by decide), ht1, ti_sI_eq]
  have b2 : ti u3 (bt b) 2 = A := by rw [ob, ht4, ti_sI_nj (by decide), ht3, ti_sI_nj (by decide), ht2, ti_sI_eq]
  have b3 : ti u3 (bt b) 3 = nI m := by rw [ob, ht4, ti_sI_nj (by decide), ht3, ti_sI_eq]
  have b4 : ti u3 (bt b) 4 = nI nT := by rw [ob, ht4, ti_sI_eq]
  have om : ∀ z, ti t4 (ad (100 + m)) z = ti f (ad (100 + m)) z := fun z => by rw [ht4, ti_sI_ne nbM.symm, ht3, ti_sI_ne nbM.symm, ht2, ti_sI_ne nbM.symm, ht1, ti_sI_ne nbM.symm]; exact o6 _ _ iM.1
  rw [hu2, ti_sI_nj (by decide), hu1, ti_sI_nj (by decide), om] at ed
  subst ed
  have mm2 : ti u3 (ad (100 + m)) 2 = -1 := by rw [hu3, ti_sI_nj (by decide), hu2, ti_sI_eq]
  have mm5 : ti u3 (ad (100 + m)) 5 = A := by rw [hu3, ti_sI_nj (by decide), hu2, ti_sI_nj (by decide), hu1, ti_sI_eq]
  have mm6 : ti u3 (ad (100 + m)) 6 = ti f (ad (100 + m)) 6 + 1 := by rw [hu3, ti_sI_eq]
  have mm3 : ti u3 (ad (100 + m)) 3 = ti f (ad (100 + m)) 3 := by rw [hu3, ti_sI_nj (by decide), hu2, ti_sI_nj (by decide), hu1, ti_sI_nj (by decide)]; exact om 3
  have ou : ∀ c z, c ∈ L → tr u3 c z = if c = ad 67 ∧ z = nT then some qn else tr f c z := fun c z hc => by rw [hu3, tr_sI, hu2, tr_sI, hu1, tr_sI, ht4, tr_sI, ht3, tr_sI, ht2, tr_sI, ht1, tr_sI, hf6, tr_sR, hf5, tr_sI, o4r c z hc]
  have ok' : ∀ c, c ∈ L → tk u3 c = tk f c := fun c hc => by rw [hu3, tk_sI, hu2, tk_sI, hu1, tk_sI, ht4, tk_sI, ht3, tk_sI, ht2, tk_sI, ht1, tk_sI, hf6, tk_sR, hf5, tk_sI]; exact o4k c hc
  have okq : tk u3 qn = 25 := by rw [hu3, tk_sI, hu2, tk_sI, hu1, tk_sI, ht4, tk_sI, ht3, tk_sI, ht2, tk_sI, ht1, tk_sI, hf6, tk_sR, hf5, tk_sI]; exact kq4
  have inL1 : ∀ c, c ∈ L → c ∈ L1 := fun c hc => by rw [hL1]; exact List.mem_append_left _ hc
  have qnL1 : qn ∈ L1 := by rw [hL1]; exact List.mem_append_right _ (List.mem_singleton.mpr rfl)
  -- behind the money
  have n9 : ∀ c k z, c ∈ L → tk f c = k → wr W_WM_takeMoney_t k z = false → c ≠ q0 ∨ z ≠ 9 → ti f10 c z = ti u3 c z := fun c k z hc hk hw h9 => by
    rw [hf10, ti_sI, if_neg (fun e => h9.elim (fun y => y e.1) (fun y => y e.2))]
    exact hE9.ei ⟨inL1 c hc, (ok' c hc).trans hk⟩ hw
  have n9q : ∀ z, ti f10 qn z = ti u3 qn z := fun z => by
    rw [hf10, ti_sI_ne nq0.symm]
    exact hE9.ei ⟨qnL1, okq⟩ (wr_k (by decide) z)
  have n9r : ∀ c k z, c ∈ L → tk f c = k → wr W_WM_takeMoney_t k z = false → tr f10 c z = tr u3 c z := fun c k z hc hk hw => by
    rw [hf10, tr_sI]
    exact hE9.er ⟨inL1 c hc, (ok' c hc).trans hk⟩ hw
  have wr27 : ∀ k z, 27 ≤ k → wr W_WM_takeMoney_t k z = false := fun k z hk => wr_k (by
    unfold W_WM_takeMoney_t
    simp only [List.all_cons, List.all_nil, Bool.and_true, Bool.and_eq_true, bne_iff_ne, ne_eq]
    omega) z
  have hg10 : ∀ c z, c ∈ L → 27 ≤ tk f c → ti f10 c z = ti f c z ∧ tr f10 c z = tr f c z := by
    intro c z hc hk
    refine ⟨?_, ?_⟩
    · rw [n9 c _ z hc rfl (wr27 _ z hk) (Or.inl (ne_tk rfl m0.2 (by omega)))]
      exact o3 c z hc (ne_tk rfl ib.2 (by omega)) (ne_tk rfl iM.2 (by omega))
    · rw [n9r c _ z hc rfl (wr27 _ z hk), ou c z hc, if_neg (fun e => ne_tk rfl i67.2 (by omega) e.1)]
  have r0 : ∀ z, tr f10 q0 z = tr f q0 z := fun z => by rw [n9r q0 0 z m0.1 m0.2 (wr_k (by decide) z), ou q0 z m0.1, if_neg (fun e => ne_tk m0.2 i67.2 (by decide) e.1)]
  have r1' : ∀ z, tr f10 q1 z = tr f q1 z := fun z => (hg10 q1 z m1.1 (by rw [m1.2]; decide)).2
  have i65 := hA.men hO m0
  have hA10 : Ad f10 q0 q1 ad := hA.same r0 r1' (fun z => by rw [n9r _ 6 z i65.1 i65.2 (wr_k (by decide) z), ou _ z i65.1, if_neg (fun e => ne_tk i65.2 i67.2 (by decide) e.1)])
  have rr1 : ∀ z, tr f10 (ad' 1) z = tr f (ad' 1) z := fun z => by rw [n9r _ 1 z (hMs 1 (by decide)).1 (hMs 1 (by decide)).2 (wr_k (by decide) z), ou _ z (hMs 1 (by decide)).1, if_neg (fun e => ne_tk (hMs 1 (by decide)).2 i67.2 (by decide) e.1)]
  have hR10 : Refs f10 q0 q1 ad' := by
    obtain ⟨y1, y2, y3, y4, y5, y6, y7, y8, y9, y10⟩ := hR
    exact ⟨(r0 _).trans y1, (rr1 _).trans y2, (rr1 _).trans y3, (rr1 _).trans y4, (rr1 _).trans y5, (r1' _).trans y6, (r1' _).trans y7, (r1' _).trans y8, (r1' _).trans y9, (r1' _).trans y10⟩
  have e10 : ∀ k, k ∈ RK → ∀ z, ti f10 (ad k) z = ti f (ad k) z := fun k hk z => (hg10 _ z (im k hk).1 (by rw [(im k hk).2]; have := RK_kd hk; omega)).1
  have e1 : ∀ z, ti f10 q1 z = ti f q1 z := fun z => (hg10 q1 z m1.1 (by rw [m1.2]; decide)).1
  have hSt10 : St f10 q1 p_2 := by unfold St; rw [e1]; exact k2
  refine asked_r hA10.2.2.2 h20 ((e1 21).trans hB.2.1.2.1) (fun h => ?_) (fun b' hb' hp _ _ _ _ => ⟨fun z => absurd z (by decide), fun _ => ⟨fun z => absurd z c1, fun _ => ⟨fun z => absurd z c2', fun _ => hrun L9 f10 _ hA10 hR10 hg10 ⟨fun _ x13 e13 => ?_, fun z => absurd (by decide) z⟩⟩⟩⟩)
  · refine absurd ?_ hnoask
    rcases h with h | h | ⟨b', hb', hp', h⟩
    · exact Or.inl h
    · exact Or.inr (Or.inl h)
    · refine Or.inr (Or.inr ⟨b', hb', hp', ?_⟩)
      rw [e10 26 (by decide), e10 23 (by decide)] at h
      rcases h with h | h | h
      · exact Or.inl h
      · exact absurd hSt10 h
      · exact Or.inr (Or.inr h)
  rw [e1, hB.2.1.2.2.2] at e13
  subst e13
  refine ⟨fun k => ?_, fun _ => ?_⟩
  · rw [show (600 : Int32) = nI 600 from rfl, nI_eq (by omega) (by decide)] at k
    omega
  have r10 := hA10.2.2.2
  have ne : ∀ k k', k ∈ RK → k' ∈ RK → kd k ≠ kd k' → ad k ≠ ad k' := fun k k' hk hk' h => ne_tk (im k hk).2 (im k' hk').2 h
  have neq : ∀ k, k ∈ RK → q1 ≠ ad k := fun k hk => ne_tk m1.2 (im k hk).2 (by have := RK_kd hk; omega)
  intro qa ea w1 hw1 _ qb' eb' w2 hw2 _ qc ec' qd ed' x21 e21 w3 hw3 _ qe ee w4 hw4 _ qf ef x26 e26 w5 hw5 hOw5 qg eg
  rw [nI_clamp (by omega)] at hw1 hw2 hw3 hw4 hw5
  rw [r10 48 (by decide)] at ea; cases ea
  rw [hw1, tr_sI, r10 49 (by decide)] at eb'; cases eb'
  rw [hw2, tr_sI, hw1, tr_sI, r10 50 (by decide)] at ec'; cases ec'
  rw [hw2, tr_sI, hw1, tr_sI, r10 23 (by decide)] at ed'; cases ed'
  rw [nI_clamp (by omega), hw2, ti_sI_ne (ne 23 49 (by decide) (by decide) (by decide)), hw1, ti_sI_ne (ne 23 48 (by decide) (by decide) (by decide)), e10 23 (by decide), has] at e21
  subst e21
  rw [hw3, tr_sI, hw2, tr_sI, hw1, tr_sI, r10 51 (by decide)] at ee; cases ee
  rw [hw4, tr_sI, hw3, tr_sI, hw2, tr_sI, hw1, tr_sI, r10 52 (by decide)] at ef; cases ef
  rw [hw4, ti_sI_ne (neq 51 (by decide)), hw3, ti_sI_ne (neq 50 (by decide)), hw2, ti_sI_ne (neq 49 (by decide)), hw1, ti_sI_ne (neq 48 (by decide)), e1, hTT] at e26
  subst e26
  rw [hw5, tr_sI, hw4, tr_sI, hw3, tr_sI, hw2, tr_sI, hw1, tr_sI, r10 53 (by decide)] at eg; cases eg
  have r5 : ∀ c z, tr w5 c z = tr f10 c z := fun c z => by rw [hw5, tr_sI, hw4, tr_sI, hw3, tr_sI, hw2, tr_sI, hw1, tr_sI]
  have o5 : ∀ c z, c ≠ ad 48 → c ≠ ad 49 → c ≠ ad 50 → c ≠ ad 51 → c ≠ ad 52 → ti w5 c z = ti f10 c z := fun c z d1 d2 d3 d4 d5 => by rw [hw5, ti_sI_ne d5, hw4, ti_sI_ne d4, hw3, ti_sI_ne d3, hw2, ti_sI_ne d2, hw1, ti_sI_ne d1]
  have hA5 : Ad w5 q0 q1 ad := hA10.same (fun z => r5 _ z) (fun z => r5 _ z) (fun z => r5 _ z)
  have hR5 : Refs w5 q0 q1 ad' := refs_same r5 hR10
  have o5m : ∀ k, k ∈ [28, 29, 30, 31, 32] → ∀ z, ti w5 (ad' k) z = ti f (ad' k) z := fun k hk z => by
    have hk' : k ∈ [1, 2, 3, 4, 5, 28, 29, 30, 31, 32] := by
      simp only [List.mem_cons, List.not_mem_nil, or_false] at hk ⊢
      omega
    have hlt : k ≤ 32 ∧ 27 ≤ k := by
      simp only [List.mem_cons, List.not_mem_nil, or_false] at hk
      omega
    have nn : ∀ k', k' ∈ RK → ad' k ≠ ad k' := fun k' hk'' => ne_tk (hMs k hk').2 (im k' hk'').2 (by have := RK_kd hk''; omega)
    rw [o5 _ z (nn 48 (by decide)) (nn 49 (by decide)) (nn 50 (by decide)) (nn 51 (by decide)) (nn 52 (by decide))]
    exact (hg10 _ z (hMs k hk').1 (by rw [(hMs k hk').2]; omega)).1
  have o5k : ∀ k, k ∈ RK → kd k ≤ 62 → ∀ z, ti w5 (ad k) z = ti f (ad k) z := fun k hk hle z => by
    rw [o5 _ z (ne k 48 hk (by decide) (show kd k ≠ 63 by omega)) (ne k 49 hk (by decide) (show kd k ≠ 64 by omega)) (ne k 50 hk (by decide) (show kd k ≠ 65 by omega)) (ne k 51 hk (by decide) (show kd k ≠ 66 by omega)) (ne k 52 hk (by decide) (show kd k ≠ 67 by omega))]
    exact e10 k hk z
  have o5q : ∀ z, ti w5 q1 z = ti f q1 z := fun z => (o5 _ z (neq 48 (by decide)) (neq 49 (by decide)) (neq 50 (by decide)) (neq 51 (by decide)) (neq 52 (by decide))).trans (e1 z)
  have s23 : ti w5 (ad 23) b = nI s := (o5k 23 (by decide) (by decide) b).trans has
  have eup5 : mup w5 ad' (nI s) p_2 = mup f ad' (nI s) p_2 := by unfold mup; rw [o5m 28 (by decide), o5m 28 (by decide)]
  have ehg5 : ∀ x y, hgt w5 ad' x y = hgt f ad' x y := fun x y => by unfold hgt; rw [o5m 29 (by decide), o5m 30 (by decide), o5m 31 (by decide)]
  have efl5 : flv w5 ad' (T / 720) (hrs T) = flv f ad' (T / 720) (hrs T) := by unfold flv; rw [ehg5, ehg5, ehg5]
  refine minutesOf_m (T := T) hA5 hR5 ((o5q 1).trans hTT) (by omega) ?_
  rw [s23, eup5, efl5, o5k 22 (by decide) (by decide), hww, hAA]
  intro w6 hw6 _ qh eh w7 hw7 _ qi ei w8 hw8 _ w9 hw9 hOw9
  rw [nI_clamp (by omega)] at hw6 hw7 hw8
  rw [hw6, tr_sI, r5, r10 54 (by decide)] at eh; cases eh
  rw [hw7, tr_sI, hw6, tr_sI, r5, r10 55 (by decide)] at ei; cases ei
  rw [nI_1] at hw9
  have r9 : ∀ c z, tr w9 c z = tr f10 c z := fun c z => by rw [hw9, tr_sI, hw8, tr_sI, hw7, tr_sI, hw6, tr_sI]; exact r5 c z
  have k9 : ∀ c, tk w9 c = tk f10 c := fun c => by rw [hw9, tk_sI, hw8, tk_sI, hw7, tk_sI, hw6, tk_sI, hw5, tk_sI, hw4, tk_sI, hw3, tk_sI, hw2, tk_sI, hw1, tk_sI]
  have o9 : ∀ c z, c ≠ q1 → (∀ k, k ∈ [48, 49, 50, 51, 52, 53, 54, 55] → c ≠ ad k) → ti w9 c z = ti f10 c z := fun c z d0 d => by
    rw [hw9, ti_sI_ne d0, hw8, ti_sI_ne (d 55 (by decide)), hw7, ti_sI_ne (d 54 (by decide)), hw6, ti_sI_ne (d 53 (by decide))]
    exact o5 c z (d 48 (by decide)) (d 49 (by decide)) (d 50 (by decide)) (d 51 (by decide)) (d 52 (by decide))
  have o9q : ∀ z, z ≠ 47 → ti w9 q1 z = ti f q1 z := fun z hz => by
    rw [hw9, ti_sI_nj hz, hw8, ti_sI_ne (neq 55 (by decide)), hw7, ti_sI_ne (neq 54 (by decide)), hw6, ti_sI_ne (neq 53 (by decide))]; exact o5q z
  have nz : ∀ k, k ∈ [48, 49, 50, 51, 52, 53, 54, 55] → ∀ z, z ≠ nT → ti w9 (ad k) z = ti f10 (ad k) z := fun k hk z hz => by
    have hkR : k ∈ RK := by
      unfold RK
      simp only [List.mem_cons, List.not_mem_nil, or_false] at hk ⊢
      omega
    rw [hw9, ti_sI_ne (neq k hkR).symm, hw8, ti_sI_nj hz, hw7, ti_sI_nj hz, hw6, ti_sI_nj hz, hw5, ti_sI_nj hz, hw4, ti_sI_nj hz, hw3, ti_sI_nj hz, hw2, ti_sI_nj hz, hw1, ti_sI_nj hz]
  have v55 : ti w9 (ad 55) nT = 0 := by rw [hw9, ti_sI_ne (neq 55 (by decide)).symm, hw8, ti_sI_eq]; decide
  have v54 : ti w9 (ad 54) nT = p_3 := by rw [hw9, ti_sI_ne (neq 54 (by decide)).symm, hw8, ti_sI_ne (ne 54 55 (by decide) (by decide) (by decide)), hw7, ti_sI_eq]
  have v53 : ti w9 (ad 53) nT = A := by rw [hw9, ti_sI_ne (neq 53 (by decide)).symm, hw8, ti_sI_ne (ne 53 55 (by decide) (by decide) (by decide)), hw7, ti_sI_ne (ne 53 54 (by decide) (by decide) (by decide)), hw6, ti_sI_eq]
  have t5 : ∀ k, k ∈ RK → kd k ≤ 67 → ∀ z, ti w9 (ad k) z = ti w5 (ad k) z := fun k hk hle z => by rw [hw9, ti_sI_ne (neq k hk).symm, hw8, ti_sI_ne (ne k 55 hk (by decide) (show kd k ≠ 70 by omega)), hw7, ti_sI_ne (ne k 54 hk (by decide) (show kd k ≠ 69 by omega)), hw6, ti_sI_ne (ne k 53 hk (by decide) (show kd k ≠ 68 by omega))]
  have v52 : ti w9 (ad 52) nT = T := by rw [t5 52 (by decide) (by decide), hw5, ti_sI_eq]
  have v51 : ti w9 (ad 51) nT = p_2 := by rw [t5 51 (by decide) (by decide), hw5, ti_sI_ne (ne 51 52 (by decide) (by decide) (by decide)), hw4, ti_sI_eq]
  have v50 : ti w9 (ad 50) nT = nI s := by rw [t5 50 (by decide) (by decide), hw5, ti_sI_ne (ne 50 52 (by decide) (by decide) (by decide)), hw4, ti_sI_ne (ne 50 51 (by decide) (by decide) (by decide)), hw3, ti_sI_eq]
  have v49 : ti w9 (ad 49) nT = nI m := by rw [t5 49 (by decide) (by decide), hw5, ti_sI_ne (ne 49 52 (by decide) (by decide) (by decide)), hw4, ti_sI_ne (ne 49 51 (by decide) (by decide) (by decide)), hw3, ti_sI_ne (ne 49 50 (by decide) (by decide) (by decide)), hw2, ti_sI_eq]
  have v48 : ti w9 (ad 48) nT = nI b := by rw [t5 48 (by decide) (by decide), hw5, ti_sI_ne (ne 48 52 (by decide) (by decide) (by decide)), hw4, ti_sI_ne (ne 48 51 (by decide) (by decide) (by decide)), hw3, ti_sI_ne (ne 48 50 (by decide) (by decide) (by decide)), hw2, ti_sI_ne (ne 48 49 (by decide) (by decide) (by decide)), hw1, ti_sI_eq]
  have t9 : ∀ k, k ∈ RK → kd k ≤ 62 → ∀ z, ti w9 (ad k) z = ti f (ad k) z := fun k hk hle z => (t5 k hk (by omega) z).trans (o5k k hk hle z)
  have hA9 : Ad w9 q0 q1 ad := hA10.same (fun z => r9 _ z) (fun z => r9 _ z) (fun z => r9 _ z)
  have m1w : q1 ∈ L9 ∧ tk w9 q1 = 27 := ⟨m1'.1, (k9 q1).trans m1'.2⟩
  have hTM9 : TM w9 ad ql := hTM.keep (t9 19 (by decide) (by decide)) (t9 20 (by decide) (by decide))
  obtain ⟨s', hs', rfl⟩ := hStn p_2 k2
  have hss : s ≠ s' := fun e => hne' (by rw [e])
  -- cells of the program, at the end
  have kL : ∀ c, c ∈ L → tk f10 c = tk f c := fun c hc => by
    have := hE9.m (a := c) (k := tk f c) ⟨inL1 c hc, ok' c hc⟩
    rw [hf10, tk_sI]; exact this.2
  have kqn : tk f10 qn = 25 := by
    have := hE9.m (a := qn) (k := 25) ⟨qnL1, okq⟩
    rw [hf10, tk_sI]; exact this.2
  have hfinal : ∀ (wL wF : TF) (ql' : Nat → List Nat), FQ (ad 19) (ad 20) w9 wL → TM wL ad ql' → (∀ g : TF, ti g (ad (100 + m)) 2 = -1 → (∀ m', m' < 40 → m' ≠ m → ti g (ad (100 + m')) 2 = ti f (ad (100 + m')) 2) → (∀ m', m' < 40 → ti g (ad (100 + m')) 3 = ti f (ad (100 + m')) 3) → TX g ad ql') → (∀ s, s < 12 → N ≤ s → ql' s = []) → (∀ s x, s < 12 → x ∈ ql' s → x ∈ ql s) → (∀ c z, tk wL c ≠ 42 → tk wL c ≠ 39 → c ≠ ad 25 → c ≠ ad 23 → c ≠ ad 24 → c ≠ ad 16 → c ≠ ad 17 → ti wF c z = ti wL c z) → (∀ k, k ∈ [23, 24, 25] → ∀ z, z ≠ b → ti wF (ad k) z = ti wL (ad k) z) → (∀ k, k ∈ [16, 17] → ∀ z, z ≠ m → ti wF (ad k) z = ti wL (ad k) z) → ti wF (ad 25) b = nI nT → ti wF (ad 23) b = nI s' → ti wF (ad 24) b = A → ti wF (ad 16) m = nI nT → ti wF (ad 17) m = ti wL (ad 17) m + 1 → (∀ c z, tr wF c z = tr wL c z) → K2 wF q0 ad N j ∧ K3 wF q0 q1 ad T N := by
    intro wL wF ql' hFQ hTL hXL hNL hsub f1' f2' f3' y25 y23 y24 y16 y17 fr
    have kLL : ∀ c, tk wL c = tk f10 c := fun c => (hFQ.2.2 c).trans (k9 c)
    -- a cell of the program
    have pc : ∀ c k z, tk f10 c = k → k ≤ 25 → ti wF c z = ti f10 c z := fun c k z hk hle => by
      have dk : ∀ k', k' ∈ RK → c ≠ ad k' := fun k' hk' => ne_tk hk ((kL _ (im k' hk').1).trans (im k' hk').2) (by have := RK_kd hk'; omega)
      have dq : c ≠ q1 := ne_tk hk m1'.2 (by omega)
      rw [f1' c z (by rw [kLL, hk]; omega) (by rw [kLL, hk]; omega) (dk 25 (by decide)) (dk 23 (by decide)) (dk 24 (by decide)) (dk 16 (by decide)) (dk 17 (by decide)), hFQ.1 c z (dk 19 (by decide)) (dk 20 (by decide))]
      refine o9 c z dq (fun k' hk' => dk k' ?_)
      unfold RK
      simp only [List.mem_cons, List.not_mem_nil, or_false] at hk' ⊢
      omega
    -- a row of the reference
    have pr : ∀ k, k ∈ RK → k ∉ [25, 23, 24, 16, 17, 19, 20] → ∀ z, ti wF (ad k) z = ti w9 (ad k) z := fun k hk hno z => by
      have dk : ∀ k', k' ∈ RK → k ≠ k' → ad k ≠ ad k' := fun k' hk' hne => ne k k' hk hk' (by
        intro e
        unfold RK at hk hk'
        unfold kd at e
        simp only [List.mem_cons, List.not_mem_nil, or_false] at hk hk'
        repeat' split at e
        all_goals omega)
      simp only [List.mem_cons, List.not_mem_nil, or_false, not_or] at hno
      have k42 : tk wL (ad k) = kd k := by rw [kLL, kL _ (im k hk).1]; exact (im k hk).2
      have hb42 : kd k ≠ 42 ∧ kd k ≠ 39 := by
        unfold RK at hk
        unfold kd
        simp only [List.mem_cons, List.not_mem_nil, or_false] at hk
        repeat' split
        all_goals omega
      rw [f1' _ z (by rw [k42]; exact hb42.1) (by rw [k42]; exact hb42.2) (dk 25 (by decide) hno.1) (dk 23 (by decide) hno.2.1) (dk 24 (by decide) hno.2.2.1) (dk 16 (by decide) hno.2.2.2.1) (dk 17 (by decide) hno.2.2.2.2.1)]
      exact hFQ.1 _ z (dk 19 (by decide) hno.2.2.2.2.2.1) (dk 20 (by decide) hno.2.2.2.2.2.2)
    have pL : ∀ k, k ∈ [25, 23, 24, 16, 17] → ∀ z, ti wL (ad k) z = ti f (ad k) z := fun k hk z => by
      have hkR : k ∈ RK := by
        unfold RK
        simp only [List.mem_cons, List.not_mem_nil, or_false] at hk ⊢
        omega
      have hkd : kd k ≤ 62 ∧ kd k ≠ 43 ∧ kd k ≠ 44 := by
        simp only [List.mem_cons, List.not_mem_nil, or_false] at hk
        rcases hk with rfl | rfl | rfl | rfl | rfl <;> decide
      rw [hFQ.1 _ z (ne k 19 hkR (by decide) hkd.2.1) (ne k 20 hkR (by decide) hkd.2.2)]
      exact t9 k hkR hkd.1 z
    have pq : ∀ z, ti wF q1 z = ti w9 q1 z := fun z => by
      rw [f1' _ z (by rw [kLL, m1'.2]; decide) (by rw [kLL, m1'.2]; decide) (neq 25 (by decide)) (neq 23 (by decide)) (neq 24 (by decide)) (neq 16 (by decide)) (neq 17 (by decide))]
      exact hFQ.1 _ z (neq 19 (by decide)) (neq 20 (by decide))
    have fr' : ∀ c z, tr wF c z = tr f10 c z := fun c z => (fr c z).trans ((hFQ.2.1 c z).trans (r9 c z))
    have pm : ∀ m', m' < 40 → ∀ z, wr W_WM_takeMoney_t 20 z = false → ti wF (ad (100 + m')) z = ti u3 (ad (100 + m')) z := fun m' hm' z hz => by
      have iM' := hA.man hO m0 hm'
      rw [pc _ 20 z ((kL _ iM'.1).trans iM'.2) (by decide)]
      exact n9 _ 20 z iM'.1 iM'.2 hz (Or.inl (ne_tk iM'.2 m0.2 (by decide)))
    have pmo : ∀ m', m' < 40 → m' ≠ m → ∀ z, wr W_WM_takeMoney_t 20 z = false → ti wF (ad (100 + m')) z = ti f (ad (100 + m')) z := fun m' hm' hne z hz => by
      have iM' := hA.man hO m0 hm'
      rw [pm m' hm' z hz]
      exact o3 _ z iM'.1 (ne_tk iM'.2 ib.2 (by decide)) (fun e => hne (hA.2.2.1 m' m hm' hm e))
    have pq0 : ∀ z, z ≠ 9 → ti wF q0 z = ti f q0 z := fun z hz => by
      rw [pc q0 0 z m0'.2 (by decide), n9 q0 0 z m0.1 m0.2 (wr_k (by decide) z) (Or.inr hz)]
      exact o3 _ z m0.1 (ne_tk m0.2 ib.2 (by decide)) (ne_tk m0.2 iM.2 (by decide))
    have pb : ∀ b', b' < nB → ∀ z, ti wF (bt b') z = ti u3 (bt b') z := fun b' hb' z => by
      have ib' := hB.bm hA hO m0 hb'
      rw [pc _ 24 z ((kL _ ib'.1).trans ib'.2) (by decide)]
      exact n9 _ 24 z ib'.1 ib'.2 (wr_k (by decide) z) (Or.inl (ne_tk ib'.2 m0.2 (by decide)))
    have pt : ∀ t, t < nT → ∀ z, ti wF (tp t) z = ti f (tp t) z := fun t ht' z => by
      have it := hB.tm hA hO m0 ht'
      rw [pc _ 25 z ((kL _ it.1).trans it.2) (by decide), n9 _ 25 z it.1 it.2 (wr_k (by decide) z) (Or.inl (ne_tk it.2 m0.2 (by decide)))]
      exact o3 _ z it.1 (ne_tk it.2 ib.2 (by decide)) (ne_tk it.2 iM.2 (by decide))
    have pn : ∀ z, ti wF qn z = ti f5 qn z := fun z => by rw [pc qn 25 z kqn (by decide), n9q, oq]
    have m3 : ∀ m', m' < 40 → ti wF (ad (100 + m')) 3 = ti f (ad (100 + m')) 3 := fun m' hm' => by
      by_cases e : m' = m
      · subst e; rw [pm m' hm' 3 (by decide)]; exact mm3
      · exact pmo m' hm' e 3 (by decide)
    refine ⟨⟨ql', J, j1, (pq0 11 (by decide)).trans j2, hXL wF ?_ (fun m' hm' hne => pmo m' hm' hne 2 (by decide)) m3, ?_, hNL, fun s0 hs0 x hx => ?_⟩, ?_⟩
    · rw [pm m hm 2 (by decide)]; exact mm2
    · refine hTL.keep (fun z => ?_) (fun z => ?_)
      · exact f1' _ z (by rw [kLL, kL _ (im 19 (by decide)).1, (im 19 (by decide)).2]; decide) (by rw [kLL, kL _ (im 19 (by decide)).1, (im 19 (by decide)).2]; decide) (ne 19 25 (by decide) (by decide) (by decide)) (ne 19 23 (by decide) (by decide) (by decide)) (ne 19 24 (by decide) (by decide) (by decide)) (ne 19 16 (by decide) (by decide) (by decide)) (ne 19 17 (by decide) (by decide) (by decide))
      · exact f1' _ z (by rw [kLL, kL _ (im 20 (by decide)).1, (im 20 (by decide)).2]; decide) (by rw [kLL, kL _ (im 20 (by decide)).1, (im 20 (by decide)).2]; decide) (ne 20 25 (by decide) (by decide) (by decide)) (ne 20 23 (by decide) (by decide) (by decide)) (ne 20 24 (by decide) (by decide) (by decide)) (ne 20 16 (by decide) (by decide) (by decide)) (ne 20 17 (by decide) (by decide) (by decide))
    · have hx' := hsub s0 x hs0 hx
      rw [m3 x (hTX.1 s0 hs0 x hx').1]
      exact j6 s0 hs0 x hx'
    · have vk : ∀ k, k ∈ [48, 49, 50, 51, 52, 53, 54, 55] → ∀ z, ti wF (ad k) z = ti w9 (ad k) z := fun k hk z => pr k (by
        unfold RK
        simp only [List.mem_cons, List.not_mem_nil, or_false] at hk ⊢
        omega) (by
        simp only [List.mem_cons, List.not_mem_nil, or_false] at hk ⊢
        omega) z
      refine K3.row (b := b) (m := m) (s := s) (s' := s') (qn := qn) (A := A) (pd := p_3) hB h1 h2 h3 hb hm hsN hs' hss g600 has hb25 hm16 k1 hTA c1 (fun t ht' e => nqn _ (hB.tm hA hO m0 ht').1 e) ((pq0 7 (by decide)).trans hB.2.1.1) ?_ ?_ ?_ (fun z => ?_) (fun z hz => ?_) ?_ (fun z => ?_) (fun z => ?_) (fun k hk z hz => ?_) y23 y24 y25 (fun k hk z hz => ?_) y16 ?_ (fun k hk z hz => ?_) ((vk 48 (by decide) _).trans v48) ((vk 49 (by decide) _).trans v49) ((vk 50 (by decide) _).trans v50) ((vk 51 (by decide) _).trans v51) ((vk 52 (by decide) _).trans v52) ((vk 53 (by decide) _).trans v53) ((vk 54 (by decide) _).trans v54) ((vk 55 (by decide) _).trans v55) (fun b' hb' hne z => ?_) ⟨?_, ?_⟩ ⟨(pb b hb 1).trans b1, (pb b hb 2).trans b2, (pb b hb 3).trans b3, (pb b hb 4).trans b4⟩ (fun m' hm' hne => ⟨pmo m' hm' hne 5 (by decide), pmo m' hm' hne 6 (by decide)⟩) ⟨(pm m hm 5 (by decide)).trans mm5, (pm m hm 6 (by decide)).trans mm6⟩ pt ?_
      · rw [pq, o9q 21 (by decide)]; exact hB.2.1.2.1
      · rw [pc q0 0 9 m0'.2 (by decide), hf10, ti_sI_eq, nI_1]
      · rw [pq, hw9, ti_sI_eq]
      · have i66 := hA.boats hO m0
        rw [fr', n9r _ 7 z i66.1 i66.2 (wr_k (by decide) z), ou _ z i66.1, if_neg (fun e => ne_tk i66.2 i67.2 (by decide) e.1)]
      · rw [fr', n9r _ 9 z i67.1 i67.2 (wr_k (by decide) z), ou _ z i67.1, if_neg (fun e => hz e.2)]
      · rw [fr', n9r _ 9 nT i67.1 i67.2 (wr_k (by decide) nT), ou _ nT i67.1, if_pos ⟨rfl, rfl⟩]
      · rw [pr 22 (by decide) (by decide)]; exact t9 22 (by decide) (by decide) z
      · rw [pr 26 (by decide) (by decide)]; exact t9 26 (by decide) (by decide) z
      · rw [f2' k hk z hz]
        refine pL k ?_ z
        simp only [List.mem_cons, List.not_mem_nil, or_false] at hk ⊢
        omega
      · rw [f3' k hk z hz]
        refine pL k ?_ z
        simp only [List.mem_cons, List.not_mem_nil, or_false] at hk ⊢
        omega
      · rw [y17, pL 17 (by decide)]
      · rw [vk k hk, nz k hk z hz]
        refine e10 k ?_ z
        unfold RK
        simp only [List.mem_cons, List.not_mem_nil, or_false] at hk ⊢
        omega
      · have ib' := hB.bm hA hO m0 hb'
        rw [pb b' hb' z]
        exact o3 _ z ib'.1 (fun e => hne (hB.2.2.2.1 b' b hb' hb e)) (ne_tk ib'.2 iM.2 (by decide))
      · rw [pb b hb 0]; exact b0 0 (by decide) (by decide) (by decide) (by decide)
      · rw [pb b hb 5]; exact b0 5 (by decide) (by decide) (by decide) (by decide)
      · rw [pn, pn, pn, pn, pn, pn, pn, pn]
        exact q5
  have hN9 : ti w9 q1 2 = nI N := (o9q 2 (by decide)).trans hN
  have hinN : ∀ s0 x, s0 < 12 → x ∈ ql s0 → s0 < N := fun s0 x hs0 hx => Classical.byContradiction fun k => by
    rw [j5 s0 hs0 (by omega)] at hx
    cases hx
  refine leaves_m hA9 hOw9 m1w hTM9 (fun s hs x hx => (hTX.1 s hs x hx).1) (fun s s' hs hs' h h' => hTX.one hs hs' h h') (fun s k k' hs hk hk' e => hTX.inj hs hk hk' e) hN9 hN2 hm (fun hno => ?_) (fun s0 k wL hs0 hk hk2 hTL hFQ => ?_)
  · intro hOL _
    rw [nI_clamp (by omega), nI_clamp (by omega)]
    refine row_fin (Q := fun r' L2 f2 => Ok L2 f2 → nI nT + 1 - 1 = r' ∧ K2 f2 q0 ad N j ∧ K3 f2 q0 q1 ad T N) (nT := nT) (A := A) (b := b) (m := m) (to := nI s') (pd := p_3) hA9 hOL m1w ?_
    intro wF f1' f2' f3' y25 y23 y24 y16 y17 fr _
    refine ⟨?_, hfinal w9 wF ql ⟨fun _ _ _ _ => rfl, fun _ _ => rfl, fun _ => rfl⟩ hTM9 (fun g e2 e3 e4 => hTX.out0 (fun s0 hs0 hx => hno s0 (hinN s0 m hs0 hx) hx) e2 e3 e4) j5 (fun _ _ _ h => h) f1' f2' f3' y25 y23 y24 y16 y17 fr⟩
    rw [nI_1, nI_pred]
  · intro hOL _
    have kkL : ∀ c, tk wL c = tk w9 c := hFQ.2.2
    have hAL : Ad wL q0 q1 ad := hA9.same (fun z => hFQ.2.1 _ z) (fun z => hFQ.2.1 _ z) (fun z => hFQ.2.1 _ z)
    rw [nI_clamp (by omega), nI_clamp (by omega)]
    refine row_fin (Q := fun r' L2 f2 => Ok L2 f2 → nI nT + 1 - 1 = r' ∧ K2 f2 q0 ad N j ∧ K3 f2 q0 q1 ad T N) (nT := nT) (A := A) (b := b) (m := m) (to := nI s') (pd := p_3) hAL hOL ⟨m1w.1, (kkL q1).trans m1w.2⟩ ?_
    intro wF f1' f2' f3' y25 y23 y24 y16 y17 fr _
    refine ⟨?_, hfinal wL wF (upQ ql s0 ((ql s0).eraseIdx k)) hFQ hTL (fun g e2 e3 e4 => hTX.out (by omega) hk hk2 e2 e3 e4) (fun s1 hs1 hn => by rw [upQ_n (by omega)]; exact j5 s1 hs1 hn) (fun s1 x hs1 hx => ?_) f1' f2' f3' y25 y23 y24 y16 y17 fr⟩
    · rw [nI_1, nI_pred]
    · by_cases es : s1 = s0
      · subst es
        rw [upQ_y] at hx
        exact List.mem_of_mem_eraseIdx hx
      · rw [upQ_n es] at hx; exact hx
end ROX
